abbrev rmL_lay : Room := { frames := 4, cells := 1, slots := 6, locals := 102 }
set_option maxHeartbeats 4000000 in
set_option maxRecDepth 100000 in
theorem kL_lay (l : Launch) (X : XD) (a_ag a_ae a_ax a_ay : Nat) (ag : Nat → Int) (ae : Nat → Int) (ax : Nat → Int) (ay : Nat → Int) (p2 : Int) (p3 : Int) (post : (Nat → Int) → (Nat → Int) → Prop) (h : wpL_lay ag ae ax ay p2 p3 post) : MCv l yL_lay wsL_lay rmL_lay X [.ref a_ag, .ref a_ae, .int (iI p2), .int (iI p3), .ref a_ax, .ref a_ay] [(a_ag, eI X 15 ag), (a_ae, eI X 50 ae), (a_ax, eI X 60 ax), (a_ay, eI X 22 ay)] (S := (Nat → Int) × (Nat → Int)) (fun u => [(a_ag, eI X 15 ag), (a_ae, eI X 50 ae), (a_ax, eI X 60 u.1), (a_ay, eI X 22 u.2)]) (fun u => post u.1 u.2) 1 6 := by
  refine MCv.of (cc := cL_lay) (maxL := 12) (by decide +kernel) rfl rfl ?_
  intro p e s m args below meth c A ls Q hE0 hP hD hS hl hend
  obtain ⟨hx, hb, hr, hml, hlocks, hown, hts, hK, hE, hA, hnm⟩ := hE0
  have hl : lv_has ls 12 [(0, .ref a_ag), (1, .ref a_ae), (2, .int (iI p2)), (3, .int (iI p3)), (4, .ref a_ax), (5, .ref a_ay)] := hl
  refine lv_bipush (v := iI 6) hx hb dL_lay_0 (by decide +kernel) ?_
  refine nw_i hx hb (hts (.arrayClass .int) (by decide +kernel)) hK hP hD hS hA (N := 6) (by decide +kernel) (by decide +kernel) (Nat.le_of_ble_eq_true rfl) (Nat.le_of_ble_eq_true rfl) (Nat.le_of_ble_eq_true rfl) dL_lay_2 (fun a_az H hP hD hS => ?_)
  have hP : va_P X.1 vwCl [(a_ag, eI X 15 ag), (a_ae, eI X 50 ae), (a_ax, eI X 60 ax), (a_ay, eI X 22 ay), (a_az, eI X 6 (fun _ => 0))] H := hP
  have hD : va_D A [(a_ag, eI X 15 ag), (a_ae, eI X 50 ae), (a_ax, eI X 60 ax), (a_ay, eI X 22 ay), (a_az, eI X 6 (fun _ => 0))] := hD
  refine lv_astore (lv' := [(6, .ref a_az), (0, .ref a_ag), (1, .ref a_ae), (2, .int (iI p2)), (3, .int (iI p3)), (4, .ref a_ax), (5, .ref a_ay)]) hx hb dL_lay_4 hl (by decide) rfl (fun ls hl => ?_)
  have B280 : ∀ (k25 : (Nat → Int) → (Nat → Int) → (Nat → Int) → Int → Int → Int → Int → Int → Prop) (hk25 : ∀ (ax : Nat → Int) (ay : Nat → Int) (az : Nat → Int) (v2 : Int) (v3 : Int) (v7 : Int) (v8 : Int) (v9 : Int), k25 ax ay az v2 v3 v7 v8 v9 → ∀ (H : Heap) (locs : List Loc) (ls : Array Slot), va_P X.1 vwCl [(a_ag, eI X 15 ag), (a_ae, eI X 50 ae), (a_ax, eI X 60 ax), (a_ay, eI X 22 ay), (a_az, eI X 6 az)] H → va_D A [(a_ag, eI X 15 ag), (a_ae, eI X 50 ae), (a_ax, eI X 60 ax), (a_ay, eI X 22 ay), (a_az, eI X 6 az)] → va_S A s.heap H locs → lv_has ls 12 [(0, .ref a_ag), (1, .ref a_ae), (2, .int (iI v2)), (3, .int (iI v3)), (4, .ref a_ax), (5, .ref a_ay), (6, .ref a_az), (7, .int (iI v7)), (8, .int (iI v8)), (9, .int (iI v9))] → W p l e rmL_lay s m args below meth c H locs 1 6 Q (F0 m 25 ls [])) (ax : Nat → Int) (ay : Nat → Int) (az : Nat → Int) (v2 : Int) (v3 : Int) (v7 : Int) (v8 : Int) (v9 : Int), wpL_lay_280 ag ae post k25 ax ay az v2 v3 v7 v8 v9 → ∀ (H : Heap) (locs : List Loc) (ls : Array Slot), va_P X.1 vwCl [(a_ag, eI X 15 ag), (a_ae, eI X 50 ae), (a_ax, eI X 60 ax), (a_ay, eI X 22 ay), (a_az, eI X 6 az)] H → va_D A [(a_ag, eI X 15 ag), (a_ae, eI X 50 ae), (a_ax, eI X 60 ax), (a_ay, eI X 22 ay), (a_az, eI X 6 az)] → va_S A s.heap H locs → lv_has ls 12 [(0, .ref a_ag), (1, .ref a_ae), (2, .int (iI v2)), (3, .int (iI v3)), (4, .ref a_ax), (5, .ref a_ay), (6, .ref a_az), (7, .int (iI v7)), (8, .int (iI v8)), (9, .int (iI v9))] → W p l e rmL_lay s m args below meth c H locs 1 6 Q (F0 m 280 ls []) := by
    intro k25 hk25 ax ay az v2 v3 v7 v8 v9 h H locs ls hP hD hS hl
    refine lv_goto (tgt := 25) hx hb dL_lay_280 (by decide) ?_
    refine W.widen (k := 1) (n := 6) (Nat.le_of_ble_eq_true rfl) (Nat.le_of_ble_eq_true rfl) ?_
    exact hk25 ax ay az v2 v3 v7 v8 v9 h _ _ _ hP hD hS (lv_sub hl [0, 1, 2, 3, 4, 5, 6, 7, 8, 9] rfl)
  have B266 : ∀ (k25 : (Nat → Int) → (Nat → Int) → (Nat → Int) → Int → Int → Int → Int → Int → Prop) (hk25 : ∀ (ax : Nat → Int) (ay : Nat → Int) (az : Nat → Int) (v2 : Int) (v3 : Int) (v7 : Int) (v8 : Int) (v9 : Int), k25 ax ay az v2 v3 v7 v8 v9 → ∀ (H : Heap) (locs : List Loc) (ls : Array Slot), va_P X.1 vwCl [(a_ag, eI X 15 ag), (a_ae, eI X 50 ae), (a_ax, eI X 60 ax), (a_ay, eI X 22 ay), (a_az, eI X 6 az)] H → va_D A [(a_ag, eI X 15 ag), (a_ae, eI X 50 ae), (a_ax, eI X 60 ax), (a_ay, eI X 22 ay), (a_az, eI X 6 az)] → va_S A s.heap H locs → lv_has ls 12 [(0, .ref a_ag), (1, .ref a_ae), (2, .int (iI v2)), (3, .int (iI v3)), (4, .ref a_ax), (5, .ref a_ay), (6, .ref a_az), (7, .int (iI v7)), (8, .int (iI v8)), (9, .int (iI v9))] → W p l e rmL_lay s m args below meth c H locs 1 6 Q (F0 m 25 ls [])) (ax : Nat → Int) (ay : Nat → Int) (az : Nat → Int) (v2 : Int) (v3 : Int) (v7 : Int), wpL_lay_266 ag ae post k25 ax ay az v2 v3 v7 → ∀ (H : Heap) (locs : List Loc) (ls : Array Slot), va_P X.1 vwCl [(a_ag, eI X 15 ag), (a_ae, eI X 50 ae), (a_ax, eI X 60 ax), (a_ay, eI X 22 ay), (a_az, eI X 6 az)] H → va_D A [(a_ag, eI X 15 ag), (a_ae, eI X 50 ae), (a_ax, eI X 60 ax), (a_ay, eI X 22 ay), (a_az, eI X 6 az)] → va_S A s.heap H locs → lv_has ls 12 [(0, .ref a_ag), (1, .ref a_ae), (2, .int (iI v2)), (3, .int (iI v3)), (4, .ref a_ax), (5, .ref a_ay), (6, .ref a_az), (7, .int (iI v7))] → W p l e rmL_lay s m args below meth c H locs 1 6 Q (F0 m 266 ls []) := by
    intro k25 hk25 ax ay az v2 v3 v7 h H locs ls hP hD hS hl
    refine lv_aload hx hb dL_lay_266 (lv_at hl 5 rfl) ?_
    refine lv_iconst (v := iI 1) hx hb dL_lay_268 rfl ?_
    refine lv_dup2_11 hx hb dL_lay_269 rfl rfl ?_
    refine i_ald hx hb hK hP 3 0 rfl rfl (by decide) (by decide) rfl (Nat.le_of_ble_eq_true rfl) dL_lay_270 ?_
    refine lv_iconst (v := iI 1) hx hb dL_lay_271 rfl ?_
    refine i_add hx hb dL_lay_272 ?_
    refine i_ast hx hb hK hP hD hS 3 0 rfl rfl (by decide) (by decide) rfl (Nat.le_of_ble_eq_true rfl) dL_lay_273 (fun H locs hP hD hS => ?_)
    have hP : va_P X.1 vwCl [(a_ag, eI X 15 ag), (a_ae, eI X 50 ae), (a_ax, eI X 60 ax), (a_ay, eI X 22 (updI ay 1 (ay 1 + 1))), (a_az, eI X 6 az)] H := hP
    have hD : va_D A [(a_ag, eI X 15 ag), (a_ae, eI X 50 ae), (a_ax, eI X 60 ax), (a_ay, eI X 22 (updI ay 1 (ay 1 + 1))), (a_az, eI X 6 az)] := hD
    refine lv_iconst (v := iI 0) hx hb dL_lay_274 rfl ?_
    refine lv_istore (lv' := [(9, .int (iI 0)), (0, .ref a_ag), (1, .ref a_ae), (2, .int (iI v2)), (3, .int (iI v3)), (4, .ref a_ax), (5, .ref a_ay), (6, .ref a_az), (7, .int (iI v7))]) hx hb dL_lay_275 hl (by decide) rfl (fun ls hl => ?_)
    refine lv_iconst (v := iI 0) hx hb dL_lay_277 rfl ?_
    refine lv_istore (lv' := [(8, .int (iI 0)), (9, .int (iI 0)), (0, .ref a_ag), (1, .ref a_ae), (2, .int (iI v2)), (3, .int (iI v3)), (4, .ref a_ax), (5, .ref a_ay), (6, .ref a_az), (7, .int (iI v7))]) hx hb dL_lay_278 hl (by decide) rfl (fun ls hl => ?_)
    refine W.widen (k := 1) (n := 6) (Nat.le_of_ble_eq_true rfl) (Nat.le_of_ble_eq_true rfl) ?_
    exact B280 k25 hk25 ax (updI ay 1 (ay 1 + 1)) az v2 v3 v7 0 0 h _ _ _ hP hD hS (lv_sub hl [2, 3, 4, 5, 6, 7, 8, 9, 0, 1] rfl)
  have B237 : ∀ (k25 : (Nat → Int) → (Nat → Int) → (Nat → Int) → Int → Int → Int → Int → Int → Prop) (hk25 : ∀ (ax : Nat → Int) (ay : Nat → Int) (az : Nat → Int) (v2 : Int) (v3 : Int) (v7 : Int) (v8 : Int) (v9 : Int), k25 ax ay az v2 v3 v7 v8 v9 → ∀ (H : Heap) (locs : List Loc) (ls : Array Slot), va_P X.1 vwCl [(a_ag, eI X 15 ag), (a_ae, eI X 50 ae), (a_ax, eI X 60 ax), (a_ay, eI X 22 ay), (a_az, eI X 6 az)] H → va_D A [(a_ag, eI X 15 ag), (a_ae, eI X 50 ae), (a_ax, eI X 60 ax), (a_ay, eI X 22 ay), (a_az, eI X 6 az)] → va_S A s.heap H locs → lv_has ls 12 [(0, .ref a_ag), (1, .ref a_ae), (2, .int (iI v2)), (3, .int (iI v3)), (4, .ref a_ax), (5, .ref a_ay), (6, .ref a_az), (7, .int (iI v7)), (8, .int (iI v8)), (9, .int (iI v9))] → W p l e rmL_lay s m args below meth c H locs 1 6 Q (F0 m 25 ls [])) (ax : Nat → Int) (ay : Nat → Int) (az : Nat → Int) (v2 : Int) (v3 : Int) (v7 : Int) (v10 : Int), wpL_lay_237 ag ae post k25 ax ay az v2 v3 v7 v10 → ∀ (H : Heap) (locs : List Loc) (ls : Array Slot), va_P X.1 vwCl [(a_ag, eI X 15 ag), (a_ae, eI X 50 ae), (a_ax, eI X 60 ax), (a_ay, eI X 22 ay), (a_az, eI X 6 az)] H → va_D A [(a_ag, eI X 15 ag), (a_ae, eI X 50 ae), (a_ax, eI X 60 ax), (a_ay, eI X 22 ay), (a_az, eI X 6 az)] → va_S A s.heap H locs → lv_has ls 12 [(0, .ref a_ag), (1, .ref a_ae), (2, .int (iI v2)), (3, .int (iI v3)), (4, .ref a_ax), (5, .ref a_ay), (6, .ref a_az), (7, .int (iI v7)), (10, .int (iI v10))] → W p l e rmL_lay s m args below meth c H locs 1 6 Q (F0 m 237 ls []) := by
    intro k25 hk25 ax ay az v2 v3 v7 v10 h H locs ls hP hD hS hl
    refine lv_aload hx hb dL_lay_237 (lv_at hl 5 rfl) ?_
    refine lv_bipush (v := iI 12) hx hb dL_lay_239 (by decide +kernel) ?_
    refine lv_aload hx hb dL_lay_241 (lv_at hl 5 rfl) ?_
    refine lv_iconst (v := iI 1) hx hb dL_lay_243 rfl ?_
    refine i_ald hx hb hK hP 3 0 rfl rfl (by decide) (by decide) rfl (Nat.le_of_ble_eq_true rfl) dL_lay_244 ?_
    refine i_add hx hb dL_lay_245 ?_
    refine i_ald hx hb hK hP 3 0 rfl rfl h.1 h.2.1 rfl (Nat.le_of_ble_eq_true rfl) dL_lay_246 ?_
    have h := h.2.2
    refine lv_iconst (v := iI 1) hx hb dL_lay_247 rfl ?_
    refine i_cmp_ne (tgt := 266) hx hb h.1 (inR_lit rfl) dL_lay_248 (by decide) (fun c1 => ?_) (fun c1 => ?_)
    · have h := h.2.1 c1
      refine W.widen (k := 1) (n := 6) (Nat.le_of_ble_eq_true rfl) (Nat.le_of_ble_eq_true rfl) ?_
      exact B266 k25 hk25 ax ay az v2 v3 v7 h _ _ _ hP hD hS (lv_sub hl [0, 1, 2, 3, 4, 5, 6, 7] rfl)
    · have h := h.2.2 c1
      refine lv_aload hx hb dL_lay_251 (lv_at hl 5 rfl) ?_
      refine lv_iconst (v := iI 0) hx hb dL_lay_253 rfl ?_
      refine lv_dup2_11 hx hb dL_lay_254 rfl rfl ?_
      refine i_ald hx hb hK hP 3 0 rfl rfl (by decide) (by decide) rfl (Nat.le_of_ble_eq_true rfl) dL_lay_255 ?_
      refine lv_iconst (v := iI 1) hx hb dL_lay_256 rfl ?_
      refine i_sub hx hb dL_lay_257 ?_
      refine i_ast hx hb hK hP hD hS 3 0 rfl rfl (by decide) (by decide) rfl (Nat.le_of_ble_eq_true rfl) dL_lay_258 (fun H locs hP hD hS => ?_)
      have hP : va_P X.1 vwCl [(a_ag, eI X 15 ag), (a_ae, eI X 50 ae), (a_ax, eI X 60 ax), (a_ay, eI X 22 (updI ay 0 (ay 0 - 1))), (a_az, eI X 6 az)] H := hP
      have hD : va_D A [(a_ag, eI X 15 ag), (a_ae, eI X 50 ae), (a_ax, eI X 60 ax), (a_ay, eI X 22 (updI ay 0 (ay 0 - 1))), (a_az, eI X 6 az)] := hD
      refine lv_aload hx hb dL_lay_259 (lv_at hl 4 rfl) ?_
      refine lv_iload hx hb dL_lay_261 (lv_at hl 8 rfl) ?_
      refine i_ald hx hb hK hP 2 0 rfl rfl h.1 h.2.1 rfl (Nat.le_of_ble_eq_true rfl) dL_lay_263 ?_
      have h := h.2.2
      refine lv_istore (lv' := [(7, .int (iI (ax (v10).toNat))), (0, .ref a_ag), (1, .ref a_ae), (2, .int (iI v2)), (3, .int (iI v3)), (4, .ref a_ax), (5, .ref a_ay), (6, .ref a_az), (10, .int (iI v10))]) hx hb dL_lay_264 hl (by decide) rfl (fun ls hl => ?_)
      refine W.widen (k := 1) (n := 6) (Nat.le_of_ble_eq_true rfl) (Nat.le_of_ble_eq_true rfl) ?_
      exact B266 k25 hk25 ax (updI ay 0 (ay 0 - 1)) az v2 v3 (ax (v10).toNat) h _ _ _ hP hD hS (lv_sub hl [1, 2, 3, 4, 5, 6, 7, 0] rfl)
  have B236 : ∀ (k25 : (Nat → Int) → (Nat → Int) → (Nat → Int) → Int → Int → Int → Int → Int → Prop) (hk25 : ∀ (ax : Nat → Int) (ay : Nat → Int) (az : Nat → Int) (v2 : Int) (v3 : Int) (v7 : Int) (v8 : Int) (v9 : Int), k25 ax ay az v2 v3 v7 v8 v9 → ∀ (H : Heap) (locs : List Loc) (ls : Array Slot), va_P X.1 vwCl [(a_ag, eI X 15 ag), (a_ae, eI X 50 ae), (a_ax, eI X 60 ax), (a_ay, eI X 22 ay), (a_az, eI X 6 az)] H → va_D A [(a_ag, eI X 15 ag), (a_ae, eI X 50 ae), (a_ax, eI X 60 ax), (a_ay, eI X 22 ay), (a_az, eI X 6 az)] → va_S A s.heap H locs → lv_has ls 12 [(0, .ref a_ag), (1, .ref a_ae), (2, .int (iI v2)), (3, .int (iI v3)), (4, .ref a_ax), (5, .ref a_ay), (6, .ref a_az), (7, .int (iI v7)), (8, .int (iI v8)), (9, .int (iI v9))] → W p l e rmL_lay s m args below meth c H locs 1 6 Q (F0 m 25 ls [])) (ax : Nat → Int) (ay : Nat → Int) (az : Nat → Int) (v2 : Int) (v3 : Int) (v7 : Int) (v10 : Int) (w0 : Int) (w1 : Int), wpL_lay_236 ag ae post k25 ax ay az v2 v3 v7 v10 w0 w1 → ∀ (H : Heap) (locs : List Loc) (ls : Array Slot), va_P X.1 vwCl [(a_ag, eI X 15 ag), (a_ae, eI X 50 ae), (a_ax, eI X 60 ax), (a_ay, eI X 22 ay), (a_az, eI X 6 az)] H → va_D A [(a_ag, eI X 15 ag), (a_ae, eI X 50 ae), (a_ax, eI X 60 ax), (a_ay, eI X 22 ay), (a_az, eI X 6 az)] → va_S A s.heap H locs → lv_has ls 12 [(0, .ref a_ag), (1, .ref a_ae), (2, .int (iI v2)), (3, .int (iI v3)), (4, .ref a_ax), (5, .ref a_ay), (6, .ref a_az), (7, .int (iI v7)), (10, .int (iI v10))] → W p l e rmL_lay s m args below meth c H locs 1 6 Q (F0 m 236 ls [.int (iI w0), .int (iI w1), .ref a_ay]) := by
    intro k25 hk25 ax ay az v2 v3 v7 v10 w0 w1 h H locs ls hP hD hS hl
    refine i_ast hx hb hK hP hD hS 3 0 rfl rfl h.1 h.2.1 rfl (Nat.le_of_ble_eq_true rfl) dL_lay_236 (fun H locs hP hD hS => ?_)
    have hP : va_P X.1 vwCl [(a_ag, eI X 15 ag), (a_ae, eI X 50 ae), (a_ax, eI X 60 ax), (a_ay, eI X 22 (updI ay (w1).toNat w0)), (a_az, eI X 6 az)] H := hP
    have hD : va_D A [(a_ag, eI X 15 ag), (a_ae, eI X 50 ae), (a_ax, eI X 60 ax), (a_ay, eI X 22 (updI ay (w1).toNat w0)), (a_az, eI X 6 az)] := hD
    have h := h.2.2
    refine W.widen (k := 1) (n := 6) (Nat.le_of_ble_eq_true rfl) (Nat.le_of_ble_eq_true rfl) ?_
    exact B237 k25 hk25 ax (updI ay (w1).toNat w0) az v2 v3 v7 v10 h _ _ _ hP hD hS (lv_sub hl [0, 1, 2, 3, 4, 5, 6, 7, 8] rfl)
  have B140 : ∀ (k25 : (Nat → Int) → (Nat → Int) → (Nat → Int) → Int → Int → Int → Int → Int → Prop) (hk25 : ∀ (ax : Nat → Int) (ay : Nat → Int) (az : Nat → Int) (v2 : Int) (v3 : Int) (v7 : Int) (v8 : Int) (v9 : Int), k25 ax ay az v2 v3 v7 v8 v9 → ∀ (H : Heap) (locs : List Loc) (ls : Array Slot), va_P X.1 vwCl [(a_ag, eI X 15 ag), (a_ae, eI X 50 ae), (a_ax, eI X 60 ax), (a_ay, eI X 22 ay), (a_az, eI X 6 az)] H → va_D A [(a_ag, eI X 15 ag), (a_ae, eI X 50 ae), (a_ax, eI X 60 ax), (a_ay, eI X 22 ay), (a_az, eI X 6 az)] → va_S A s.heap H locs → lv_has ls 12 [(0, .ref a_ag), (1, .ref a_ae), (2, .int (iI v2)), (3, .int (iI v3)), (4, .ref a_ax), (5, .ref a_ay), (6, .ref a_az), (7, .int (iI v7)), (8, .int (iI v8)), (9, .int (iI v9))] → W p l e rmL_lay s m args below meth c H locs 1 6 Q (F0 m 25 ls [])) (ax : Nat → Int) (ay : Nat → Int) (az : Nat → Int) (v2 : Int) (v3 : Int) (v7 : Int) (v9 : Int) (v10 : Int), wpL_lay_140 ag ae post k25 ax ay az v2 v3 v7 v9 v10 → ∀ (H : Heap) (locs : List Loc) (ls : Array Slot), va_P X.1 vwCl [(a_ag, eI X 15 ag), (a_ae, eI X 50 ae), (a_ax, eI X 60 ax), (a_ay, eI X 22 ay), (a_az, eI X 6 az)] H → va_D A [(a_ag, eI X 15 ag), (a_ae, eI X 50 ae), (a_ax, eI X 60 ax), (a_ay, eI X 22 ay), (a_az, eI X 6 az)] → va_S A s.heap H locs → lv_has ls 12 [(0, .ref a_ag), (1, .ref a_ae), (2, .int (iI v2)), (3, .int (iI v3)), (4, .ref a_ax), (5, .ref a_ay), (6, .ref a_az), (7, .int (iI v7)), (9, .int (iI v9)), (10, .int (iI v10))] → W p l e rmL_lay s m args below meth c H locs 1 6 Q (F0 m 140 ls []) := by
    intro k25 hk25 ax ay az v2 v3 v7 v9 v10 h H locs ls hP hD hS hl
    refine lv_aload hx hb dL_lay_140 (lv_at hl 5 rfl) ?_
    refine lv_bipush (v := iI 12) hx hb dL_lay_142 (by decide +kernel) ?_
    refine lv_aload hx hb dL_lay_144 (lv_at hl 5 rfl) ?_
    refine lv_iconst (v := iI 1) hx hb dL_lay_146 rfl ?_
    refine i_ald hx hb hK hP 3 0 rfl rfl (by decide) (by decide) rfl (Nat.le_of_ble_eq_true rfl) dL_lay_147 ?_
    refine i_add hx hb dL_lay_148 ?_
    refine lv_iconst (v := iI 0) hx hb dL_lay_149 rfl ?_
    refine i_ast hx hb hK hP hD hS 3 0 rfl rfl h.1 h.2.1 rfl (Nat.le_of_ble_eq_true rfl) dL_lay_150 (fun H locs hP hD hS => ?_)
    have hP : va_P X.1 vwCl [(a_ag, eI X 15 ag), (a_ae, eI X 50 ae), (a_ax, eI X 60 ax), (a_ay, eI X 22 (updI ay (12 + ay 1).toNat 0)), (a_az, eI X 6 az)] H := hP
    have hD : va_D A [(a_ag, eI X 15 ag), (a_ae, eI X 50 ae), (a_ax, eI X 60 ax), (a_ay, eI X 22 (updI ay (12 + ay 1).toNat 0)), (a_az, eI X 6 az)] := hD
    have h := h.2.2
    refine lv_iload hx hb dL_lay_151 (lv_at hl 8 rfl) ?_
    refine lv_aload_n hx hb dL_lay_153 rfl (lv_at hl 0 rfl) ?_
    refine lv_iconst (v := iI 1) hx hb dL_lay_154 rfl ?_
    refine i_ald hx hb hK hP 0 0 rfl rfl (by decide) (by decide) rfl (Nat.le_of_ble_eq_true rfl) dL_lay_155 ?_
    refine i_cmp_ne (tgt := 237) hx hb h.1 h.2.1 dL_lay_156 (by decide) (fun c1 => ?_) (fun c1 => ?_)
    · have h := h.2.2.1 c1
      refine W.widen (k := 1) (n := 6) (Nat.le_of_ble_eq_true rfl) (Nat.le_of_ble_eq_true rfl) ?_
      exact B237 k25 hk25 ax (updI ay (12 + ay 1).toNat 0) az v2 v3 v7 v10 h _ _ _ hP hD hS (lv_sub hl [0, 1, 2, 3, 4, 5, 6, 7, 9] rfl)
    · have h := h.2.2.2 c1
      refine lv_iload hx hb dL_lay_159 (lv_at hl 7 rfl) ?_
      refine lv_aload_n hx hb dL_lay_161 rfl (lv_at hl 0 rfl) ?_
      refine lv_bipush (v := iI 14) hx hb dL_lay_162 (by decide +kernel) ?_
      refine i_ald hx hb hK hP 0 0 rfl rfl (by decide) (by decide) rfl (Nat.le_of_ble_eq_true rfl) dL_lay_164 ?_
      refine i_cmp_ge (tgt := 237) hx hb h.1 h.2.1 dL_lay_165 (by decide) (fun c2 => ?_) (fun c2 => ?_)
      · have h := h.2.2.1 c2
        refine W.widen (k := 1) (n := 6) (Nat.le_of_ble_eq_true rfl) (Nat.le_of_ble_eq_true rfl) ?_
        exact B237 k25 hk25 ax (updI ay (12 + ay 1).toNat 0) az v2 v3 v7 v10 h _ _ _ hP hD hS (lv_sub hl [0, 1, 2, 3, 4, 5, 6, 7, 9] rfl)
      · have h := h.2.2.2 c2
        refine lv_aload_n hx hb dL_lay_168 rfl (lv_at hl 0 rfl) ?_
        refine lv_iconst (v := iI 5) hx hb dL_lay_169 rfl ?_
        refine i_ald hx hb hK hP 0 0 rfl rfl (by decide) (by decide) rfl (Nat.le_of_ble_eq_true rfl) dL_lay_170 ?_
        refine lv_iconst (v := iI 1) hx hb dL_lay_171 rfl ?_
        refine i_cmp_ne (tgt := 237) hx hb h.1 (inR_lit rfl) dL_lay_172 (by decide) (fun c3 => ?_) (fun c3 => ?_)
        · have h := h.2.1 c3
          refine W.widen (k := 1) (n := 6) (Nat.le_of_ble_eq_true rfl) (Nat.le_of_ble_eq_true rfl) ?_
          exact B237 k25 hk25 ax (updI ay (12 + ay 1).toNat 0) az v2 v3 v7 v10 h _ _ _ hP hD hS (lv_sub hl [0, 1, 2, 3, 4, 5, 6, 7, 9] rfl)
        · have h := h.2.2 c3
          refine lv_aload_n hx hb dL_lay_175 rfl (lv_at hl 0 rfl) ?_
          refine lv_aload_n hx hb dL_lay_176 rfl (lv_at hl 1 rfl) ?_
          refine lv_iload hx hb dL_lay_177 (lv_at hl 7 rfl) ?_
          refine lv_iconst (v := iI 1) hx hb dL_lay_179 rfl ?_
          refine i_sub hx hb dL_lay_180 ?_
          refine e_i (isC := [0, 1]) (isR := [2, 3, 4]) (wr := [(a_ax, eI X 60 ax), (a_ay, eI X 22 (updI ay (12 + ay 1).toNat 0)), (a_az, eI X 6 az)]) (va_runS (As := [.ref a_ag, .ref a_ae, .int (iI (v7 - 1))]) (rest := []) ⟨hx, hb, hml, hown, hts⟩ (kL_closes l X a_ag a_ae ag ae (v7 - 1) _ h _) (va_cwS 3 hts gL_lay_L_closes rfl rfl rfl (by decide +kernel) ⟨(Nat.le_of_ble_eq_true rfl), (Nat.le_of_ble_eq_true rfl)⟩) ⟨pre_blind, pre_cut hE hK hA hP hD hS (isC := [0, 1]) rfl (by decide +kernel)⟩ rfl rfl hl.1 rfl (lv_room (Nat.le_of_ble_eq_true rfl)) dL_lay_181 ⟨(Nat.le_of_ble_eq_true rfl), (Nat.le_of_ble_eq_true rfl)⟩) hA hP hD hS rfl rfl (by decide +kernel) (by decide +kernel) (fun z4 u4 H locs h hP hD hS => ?_)
          have hP : va_P X.1 vwCl [(a_ax, eI X 60 ax), (a_ay, eI X 22 (updI ay (12 + ay 1).toNat 0)), (a_az, eI X 6 az), (a_ag, eI X 15 ag), (a_ae, eI X 50 ae)] H := hP
          have hD : va_D A [(a_ax, eI X 60 ax), (a_ay, eI X 22 (updI ay (12 + ay 1).toNat 0)), (a_az, eI X 6 az), (a_ag, eI X 15 ag), (a_ae, eI X 50 ae)] := hD
          refine i_if_ne (tgt := 237) hx hb h.1 dL_lay_184 (by decide) (fun c5 => ?_) (fun c5 => ?_)
          · have h := h.2.1 c5
            have hP := hP.sub (ws' := [(a_ag, eI X 15 ag), (a_ae, eI X 50 ae), (a_ax, eI X 60 ax), (a_ay, eI X 22 (updI ay (12 + ay 1).toNat 0)), (a_az, eI X 6 az)]) [3, 4, 0, 1, 2] rfl
            have hD := hD.sub (ws' := [(a_ag, eI X 15 ag), (a_ae, eI X 50 ae), (a_ax, eI X 60 ax), (a_ay, eI X 22 (updI ay (12 + ay 1).toNat 0)), (a_az, eI X 6 az)]) [3, 4, 0, 1, 2] (by decide +kernel) rfl
            refine W.widen (k := 1) (n := 6) (Nat.le_of_ble_eq_true rfl) (Nat.le_of_ble_eq_true rfl) ?_
            exact B237 k25 hk25 ax (updI ay (12 + ay 1).toNat 0) az v2 v3 v7 v10 h _ _ _ hP hD hS (lv_sub hl [0, 1, 2, 3, 4, 5, 6, 7, 9] rfl)
          · have h := h.2.2 c5
            refine lv_aload_n hx hb dL_lay_187 rfl (lv_at hl 0 rfl) ?_
            refine lv_aload_n hx hb dL_lay_188 rfl (lv_at hl 1 rfl) ?_
            refine lv_iload hx hb dL_lay_189 (lv_at hl 7 rfl) ?_
            refine lv_iload_n hx hb dL_lay_191 rfl (lv_at hl 2 rfl) ?_
            refine lv_iload_n hx hb dL_lay_192 rfl (lv_at hl 3 rfl) ?_
            refine lv_iconst (v := iI 0) hx hb dL_lay_193 rfl ?_
            refine lv_aload_n hx hb dL_lay_194 rfl (lv_at hl 0 rfl) ?_
            refine lv_iconst (v := iI 1) hx hb dL_lay_195 rfl ?_
            refine i_ald hx hb hK hP 3 0 rfl rfl (by decide) (by decide) rfl (Nat.le_of_ble_eq_true rfl) dL_lay_196 ?_
            refine lv_iconst (v := iI 1) hx hb dL_lay_197 rfl ?_
            refine i_sub hx hb dL_lay_198 ?_
            refine lv_aload hx hb dL_lay_199 (lv_at hl 6 rfl) ?_
            refine lv_iconst (v := iI 0) hx hb dL_lay_201 rfl ?_
            refine e_i (isC := [3, 4, 2]) (isR := [0, 1]) (wr := [(a_ax, eI X 60 ax), (a_ay, eI X 22 (updI ay (12 + ay 1).toNat 0))]) (va_runS (As := [.ref a_ag, .ref a_ae, .int (iI v7), .int (iI v2), .int (iI v3), .int (iI 0), .int (iI (ag 1 - 1)), .ref a_az, .int (iI 0)]) (rest := []) ⟨hx, hb, hml, hown, hts⟩ (kL_rowz l X a_ag a_ae a_az ag ae az v7 v2 v3 0 (ag 1 - 1) 0 _ h _) (va_cwS 9 hts gL_lay_L_row rfl rfl rfl (by decide +kernel) ⟨(Nat.le_of_ble_eq_true rfl), (Nat.le_of_ble_eq_true rfl)⟩) ⟨pre_blind, pre_cut hE hK hA hP hD hS (isC := [3, 4, 2]) rfl (by decide +kernel)⟩ rfl rfl hl.1 rfl (lv_room (Nat.le_of_ble_eq_true rfl)) dL_lay_202 ⟨(Nat.le_of_ble_eq_true rfl), (Nat.le_of_ble_eq_true rfl)⟩) hA hP hD hS rfl rfl (by decide +kernel) (by decide +kernel) (fun z6 ax_6 H locs h hP hD hS => ?_)
            have hP : va_P X.1 vwCl [(a_ax, eI X 60 ax), (a_ay, eI X 22 (updI ay (12 + ay 1).toNat 0)), (a_ag, eI X 15 ag), (a_ae, eI X 50 ae), (a_az, eI X 6 ax_6)] H := hP
            have hD : va_D A [(a_ax, eI X 60 ax), (a_ay, eI X 22 (updI ay (12 + ay 1).toNat 0)), (a_ag, eI X 15 ag), (a_ae, eI X 50 ae), (a_az, eI X 6 ax_6)] := hD
            refine lv_istore (lv' := [(11, .int (iI z6)), (0, .ref a_ag), (1, .ref a_ae), (2, .int (iI v2)), (3, .int (iI v3)), (4, .ref a_ax), (5, .ref a_ay), (6, .ref a_az), (7, .int (iI v7)), (9, .int (iI v9)), (10, .int (iI v10))]) hx hb dL_lay_205 hl (by decide) rfl (fun ls hl => ?_)
            refine lv_aload hx hb dL_lay_207 (lv_at hl 6 rfl) ?_
            refine lv_bipush (v := iI 12) hx hb dL_lay_209 (by decide +kernel) ?_
            refine lv_aload hx hb dL_lay_211 (lv_at hl 6 rfl) ?_
            refine lv_iconst (v := iI 1) hx hb dL_lay_213 rfl ?_
            refine i_ald hx hb hK hP 1 0 rfl rfl (by decide) (by decide) rfl (Nat.le_of_ble_eq_true rfl) dL_lay_214 ?_
            refine i_add hx hb dL_lay_215 ?_
            refine lv_aload_n hx hb dL_lay_216 rfl (lv_at hl 1 rfl) ?_
            refine lv_aload_n hx hb dL_lay_217 rfl (lv_at hl 2 rfl) ?_
            refine lv_iload hx hb dL_lay_218 (lv_at hl 8 rfl) ?_
            refine lv_iload hx hb dL_lay_220 (lv_at hl 0 rfl) ?_
            refine i_add hx hb dL_lay_222 ?_
            refine lv_iconst (v := iI 1) hx hb dL_lay_223 rfl ?_
            refine i_sub hx hb dL_lay_224 ?_
            refine e_i (isC := [2, 3]) (isR := [0, 1, 4]) (wr := [(a_ax, eI X 60 ax), (a_ay, eI X 22 (updI ay (12 + ay 1).toNat 0)), (a_az, eI X 6 ax_6)]) (va_runS (As := [.ref a_ag, .ref a_ae, .int (iI ((v7 + z6) - 1))]) (rest := [.int (iI (12 + (updI ay (12 + ay 1).toNat 0) 1)), .ref a_ay]) ⟨hx, hb, hml, hown, hts⟩ (kL_closes l X a_ag a_ae ag ae ((v7 + z6) - 1) _ h _) (va_cwS 3 hts gL_lay_L_closes rfl rfl rfl (by decide +kernel) ⟨(Nat.le_of_ble_eq_true rfl), (Nat.le_of_ble_eq_true rfl)⟩) ⟨pre_blind, pre_cut hE hK hA hP hD hS (isC := [2, 3]) rfl (by decide +kernel)⟩ rfl rfl hl.1 rfl (lv_room (Nat.le_of_ble_eq_true rfl)) dL_lay_225 ⟨(Nat.le_of_ble_eq_true rfl), (Nat.le_of_ble_eq_true rfl)⟩) hA hP hD hS rfl rfl (by decide +kernel) (by decide +kernel) (fun z7 u7 H locs h hP hD hS => ?_)
            have hP : va_P X.1 vwCl [(a_ax, eI X 60 ax), (a_ay, eI X 22 (updI ay (12 + ay 1).toNat 0)), (a_az, eI X 6 ax_6), (a_ag, eI X 15 ag), (a_ae, eI X 50 ae)] H := hP
            have hD : va_D A [(a_ax, eI X 60 ax), (a_ay, eI X 22 (updI ay (12 + ay 1).toNat 0)), (a_az, eI X 6 ax_6), (a_ag, eI X 15 ag), (a_ae, eI X 50 ae)] := hD
            refine i_if_eq (tgt := 235) hx hb h.1 dL_lay_228 (by decide) (fun c8 => ?_) (fun c8 => ?_)
            · have h := h.2.1 c8
              refine lv_iconst (v := iI 0) hx hb dL_lay_235 rfl ?_
              have hP := hP.sub (ws' := [(a_ag, eI X 15 ag), (a_ae, eI X 50 ae), (a_ax, eI X 60 ax), (a_ay, eI X 22 (updI ay (12 + ay 1).toNat 0)), (a_az, eI X 6 ax_6)]) [3, 4, 0, 1, 2] rfl
              have hD := hD.sub (ws' := [(a_ag, eI X 15 ag), (a_ae, eI X 50 ae), (a_ax, eI X 60 ax), (a_ay, eI X 22 (updI ay (12 + ay 1).toNat 0)), (a_az, eI X 6 ax_6)]) [3, 4, 0, 1, 2] (by decide +kernel) rfl
              refine W.widen (k := 1) (n := 6) (Nat.le_of_ble_eq_true rfl) (Nat.le_of_ble_eq_true rfl) ?_
              exact B236 k25 hk25 ax (updI ay (12 + ay 1).toNat 0) ax_6 v2 v3 v7 v10 0 (12 + (updI ay (12 + ay 1).toNat 0) 1) h _ _ _ hP hD hS (lv_sub hl [1, 2, 3, 4, 5, 6, 7, 8, 10] rfl)
            · have h := h.2.2 c8
              refine lv_iconst (v := iI 1) hx hb dL_lay_231 rfl ?_
              refine lv_goto (tgt := 236) hx hb dL_lay_232 (by decide) ?_
              have hP := hP.sub (ws' := [(a_ag, eI X 15 ag), (a_ae, eI X 50 ae), (a_ax, eI X 60 ax), (a_ay, eI X 22 (updI ay (12 + ay 1).toNat 0)), (a_az, eI X 6 ax_6)]) [3, 4, 0, 1, 2] rfl
              have hD := hD.sub (ws' := [(a_ag, eI X 15 ag), (a_ae, eI X 50 ae), (a_ax, eI X 60 ax), (a_ay, eI X 22 (updI ay (12 + ay 1).toNat 0)), (a_az, eI X 6 ax_6)]) [3, 4, 0, 1, 2] (by decide +kernel) rfl
              refine W.widen (k := 1) (n := 6) (Nat.le_of_ble_eq_true rfl) (Nat.le_of_ble_eq_true rfl) ?_
              exact B236 k25 hk25 ax (updI ay (12 + ay 1).toNat 0) ax_6 v2 v3 v7 v10 1 (12 + (updI ay (12 + ay 1).toNat 0) 1) h _ _ _ hP hD hS (lv_sub hl [1, 2, 3, 4, 5, 6, 7, 8, 10] rfl)
  have B25 : ∀ (n : Nat) (ax : Nat → Int) (ay : Nat → Int) (az : Nat → Int) (v2 : Int) (v3 : Int) (v7 : Int) (v8 : Int) (v9 : Int), wpL_lay_25 ag ae post n ax ay az v2 v3 v7 v8 v9 → ∀ (H : Heap) (locs : List Loc) (ls : Array Slot), va_P X.1 vwCl [(a_ag, eI X 15 ag), (a_ae, eI X 50 ae), (a_ax, eI X 60 ax), (a_ay, eI X 22 ay), (a_az, eI X 6 az)] H → va_D A [(a_ag, eI X 15 ag), (a_ae, eI X 50 ae), (a_ax, eI X 60 ax), (a_ay, eI X 22 ay), (a_az, eI X 6 az)] → va_S A s.heap H locs → lv_has ls 12 [(0, .ref a_ag), (1, .ref a_ae), (2, .int (iI v2)), (3, .int (iI v3)), (4, .ref a_ax), (5, .ref a_ay), (6, .ref a_az), (7, .int (iI v7)), (8, .int (iI v8)), (9, .int (iI v9))] → W p l e rmL_lay s m args below meth c H locs 1 6 Q (F0 m 25 ls []) := by
    intro  n
    induction n with
    | zero => intro ax ay az v2 v3 v7 v8 v9 h; exact h.elim
    | succ n ih =>
      intro ax ay az v2 v3 v7 v8 v9 h H locs ls hP hD hS hl
      refine lv_iload hx hb dL_lay_25 (lv_at hl 7 rfl) ?_
      refine lv_aload_n hx hb dL_lay_27 rfl (lv_at hl 0 rfl) ?_
      refine lv_bipush (v := iI 14) hx hb dL_lay_28 (by decide +kernel) ?_
      refine i_ald hx hb hK hP 0 0 rfl rfl (by decide) (by decide) rfl (Nat.le_of_ble_eq_true rfl) dL_lay_30 ?_
      refine i_cmp_ge (tgt := 283) hx hb h.1 h.2.1 dL_lay_31 (by decide) (fun c1 => ?_) (fun c1 => ?_)
      · have h := h.2.2.1 c1
        have hP := hP.sub (ws' := [(a_ag, eI X 15 ag), (a_ae, eI X 50 ae), (a_ax, eI X 60 ax), (a_ay, eI X 22 ay)]) [0, 1, 2, 3] rfl
        have hD := hD.sub (ws' := [(a_ag, eI X 15 ag), (a_ae, eI X 50 ae), (a_ax, eI X 60 ax), (a_ay, eI X 22 ay)]) [0, 1, 2, 3] (by decide +kernel) rfl
        exact hend _ _ _ _ _ _ (ax, ay) hP hD hS h (Nat.le_of_ble_eq_true rfl) (Nat.le_of_ble_eq_true rfl) dL_lay_283
      · have h := h.2.2.2 c1
        refine lv_bipush (v := iI 6) hx hb dL_lay_34 (by decide +kernel) ?_
        refine lv_aload hx hb dL_lay_36 (lv_at hl 5 rfl) ?_
        refine lv_iconst (v := iI 0) hx hb dL_lay_38 rfl ?_
        refine i_ald hx hb hK hP 3 0 rfl rfl (by decide) (by decide) rfl (Nat.le_of_ble_eq_true rfl) dL_lay_39 ?_
        refine i_mul hx hb dL_lay_40 ?_
        refine lv_istore (lv' := [(10, .int (iI (6 * ay 0))), (0, .ref a_ag), (1, .ref a_ae), (2, .int (iI v2)), (3, .int (iI v3)), (4, .ref a_ax), (5, .ref a_ay), (6, .ref a_az), (7, .int (iI v7)), (8, .int (iI v8)), (9, .int (iI v9))]) hx hb dL_lay_41 hl (by decide) rfl (fun ls hl => ?_)
        refine lv_iload hx hb dL_lay_43 (lv_at hl 8 rfl) ?_
        refine lv_aload_n hx hb dL_lay_45 rfl (lv_at hl 1 rfl) ?_
        refine lv_aload_n hx hb dL_lay_46 rfl (lv_at hl 2 rfl) ?_
        refine lv_iload hx hb dL_lay_47 (lv_at hl 8 rfl) ?_
        refine lv_iload_n hx hb dL_lay_49 rfl (lv_at hl 3 rfl) ?_
        refine lv_iload_n hx hb dL_lay_50 rfl (lv_at hl 4 rfl) ?_
        refine lv_iload hx hb dL_lay_51 (lv_at hl 9 rfl) ?_
        refine lv_aload_n hx hb dL_lay_53 rfl (lv_at hl 1 rfl) ?_
        refine lv_iconst (v := iI 1) hx hb dL_lay_54 rfl ?_
        refine i_ald hx hb hK hP 0 0 rfl rfl (by decide) (by decide) rfl (Nat.le_of_ble_eq_true rfl) dL_lay_55 ?_
        refine lv_iload hx hb dL_lay_56 (lv_at hl 10 rfl) ?_
        refine i_sub hx hb dL_lay_58 ?_
        refine lv_iconst (v := iI 1) hx hb dL_lay_59 rfl ?_
        refine i_sub hx hb dL_lay_60 ?_
        refine lv_aload hx hb dL_lay_61 (lv_at hl 5 rfl) ?_
        refine lv_iload hx hb dL_lay_63 (lv_at hl 0 rfl) ?_
        refine e_i (isC := [0, 1, 2]) (isR := [3, 4]) (wr := [(a_ay, eI X 22 ay), (a_az, eI X 6 az)]) (va_runS (As := [.ref a_ag, .ref a_ae, .int (iI v7), .int (iI v2), .int (iI v3), .int (iI v8), .int (iI ((ag 1 - v9) - 1)), .ref a_ax, .int (iI (6 * ay 0))]) (rest := [.int (iI v7)]) ⟨hx, hb, hml, hown, hts⟩ (kL_row l X a_ag a_ae a_ax ag ae ax v7 v2 v3 v8 ((ag 1 - v9) - 1) (6 * ay 0) _ h _) (va_cwS 9 hts gL_lay_L_row rfl rfl rfl (by decide +kernel) ⟨(Nat.le_of_ble_eq_true rfl), (Nat.le_of_ble_eq_true rfl)⟩) ⟨pre_blind, pre_cut hE hK hA hP hD hS (isC := [0, 1, 2]) rfl (by decide +kernel)⟩ rfl rfl hl.1 rfl (lv_room (Nat.le_of_ble_eq_true rfl)) dL_lay_65 ⟨(Nat.le_of_ble_eq_true rfl), (Nat.le_of_ble_eq_true rfl)⟩) hA hP hD hS rfl rfl (by decide +kernel) (by decide +kernel) (fun z2 ax_2 H locs h hP hD hS => ?_)
        have hP : va_P X.1 vwCl [(a_ay, eI X 22 ay), (a_az, eI X 6 az), (a_ag, eI X 15 ag), (a_ae, eI X 50 ae), (a_ax, eI X 60 ax_2)] H := hP
        have hD : va_D A [(a_ay, eI X 22 ay), (a_az, eI X 6 az), (a_ag, eI X 15 ag), (a_ae, eI X 50 ae), (a_ax, eI X 60 ax_2)] := hD
        refine i_add hx hb dL_lay_68 ?_
        refine lv_istore (lv' := [(7, .int (iI (v7 + z2))), (10, .int (iI (6 * ay 0))), (0, .ref a_ag), (1, .ref a_ae), (2, .int (iI v2)), (3, .int (iI v3)), (4, .ref a_ax), (5, .ref a_ay), (6, .ref a_az), (8, .int (iI v8)), (9, .int (iI v9))]) hx hb dL_lay_69 hl (by decide) rfl (fun ls hl => ?_)
        refine lv_iload hx hb dL_lay_71 (lv_at hl 9 rfl) ?_
        refine lv_aload hx hb dL_lay_73 (lv_at hl 6 rfl) ?_
        refine lv_iload hx hb dL_lay_75 (lv_at hl 1 rfl) ?_
        refine lv_iconst (v := iI 2) hx hb dL_lay_77 rfl ?_
        refine i_add hx hb dL_lay_78 ?_
        refine i_ald hx hb hK hP 4 0 rfl rfl h.1 h.2.1 rfl (Nat.le_of_ble_eq_true rfl) dL_lay_79 ?_
        have h := h.2.2
        refine lv_aload hx hb dL_lay_80 (lv_at hl 6 rfl) ?_
        refine lv_iload hx hb dL_lay_82 (lv_at hl 1 rfl) ?_
        refine lv_iconst (v := iI 3) hx hb dL_lay_84 rfl ?_
        refine i_add hx hb dL_lay_85 ?_
        refine i_ald hx hb hK hP 4 0 rfl rfl h.1 h.2.1 rfl (Nat.le_of_ble_eq_true rfl) dL_lay_86 ?_
        have h := h.2.2
        refine i_add hx hb dL_lay_87 ?_
        refine lv_aload hx hb dL_lay_88 (lv_at hl 6 rfl) ?_
        refine lv_iload hx hb dL_lay_90 (lv_at hl 1 rfl) ?_
        refine lv_iconst (v := iI 4) hx hb dL_lay_92 rfl ?_
        refine i_add hx hb dL_lay_93 ?_
        refine i_ald hx hb hK hP 4 0 rfl rfl h.1 h.2.1 rfl (Nat.le_of_ble_eq_true rfl) dL_lay_94 ?_
        have h := h.2.2
        refine i_sub hx hb dL_lay_95 ?_
        refine i_add hx hb dL_lay_96 ?_
        refine lv_istore (lv' := [(8, .int (iI (v8 + ((ax_2 ((6 * ay 0) + 2).toNat + ax_2 ((6 * ay 0) + 3).toNat) - ax_2 ((6 * ay 0) + 4).toNat)))), (7, .int (iI (v7 + z2))), (10, .int (iI (6 * ay 0))), (0, .ref a_ag), (1, .ref a_ae), (2, .int (iI v2)), (3, .int (iI v3)), (4, .ref a_ax), (5, .ref a_ay), (6, .ref a_az), (9, .int (iI v9))]) hx hb dL_lay_97 hl (by decide) rfl (fun ls hl => ?_)
        refine lv_aload hx hb dL_lay_99 (lv_at hl 8 rfl) ?_
        refine lv_iconst (v := iI 2) hx hb dL_lay_101 rfl ?_
        refine lv_aload hx hb dL_lay_102 (lv_at hl 8 rfl) ?_
        refine lv_iconst (v := iI 0) hx hb dL_lay_104 rfl ?_
        refine i_ald hx hb hK hP 0 0 rfl rfl (by decide) (by decide) rfl (Nat.le_of_ble_eq_true rfl) dL_lay_105 ?_
        refine i_add hx hb dL_lay_106 ?_
        refine lv_aload hx hb dL_lay_107 (lv_at hl 8 rfl) ?_
        refine lv_iconst (v := iI 1) hx hb dL_lay_109 rfl ?_
        refine i_ald hx hb hK hP 0 0 rfl rfl (by decide) (by decide) rfl (Nat.le_of_ble_eq_true rfl) dL_lay_110 ?_
        refine i_ast hx hb hK hP hD hS 0 0 rfl rfl h.1 h.2.1 rfl (Nat.le_of_ble_eq_true rfl) dL_lay_111 (fun H locs hP hD hS => ?_)
        have hP : va_P X.1 vwCl [(a_ay, eI X 22 (updI ay (2 + ay 0).toNat (ay 1))), (a_az, eI X 6 az), (a_ag, eI X 15 ag), (a_ae, eI X 50 ae), (a_ax, eI X 60 ax_2)] H := hP
        have hD : va_D A [(a_ay, eI X 22 (updI ay (2 + ay 0).toNat (ay 1))), (a_az, eI X 6 az), (a_ag, eI X 15 ag), (a_ae, eI X 50 ae), (a_ax, eI X 60 ax_2)] := hD
        have h := h.2.2
        refine lv_aload hx hb dL_lay_112 (lv_at hl 8 rfl) ?_
        refine lv_iconst (v := iI 0) hx hb dL_lay_114 rfl ?_
        refine lv_dup2_11 hx hb dL_lay_115 rfl rfl ?_
        refine i_ald hx hb hK hP 0 0 rfl rfl (by decide) (by decide) rfl (Nat.le_of_ble_eq_true rfl) dL_lay_116 ?_
        refine lv_iconst (v := iI 1) hx hb dL_lay_117 rfl ?_
        refine i_add hx hb dL_lay_118 ?_
        refine i_ast hx hb hK hP hD hS 0 0 rfl rfl (by decide) (by decide) rfl (Nat.le_of_ble_eq_true rfl) dL_lay_119 (fun H locs hP hD hS => ?_)
        have hP : va_P X.1 vwCl [(a_ay, eI X 22 (updI (updI ay (2 + ay 0).toNat (ay 1)) 0 ((updI ay (2 + ay 0).toNat (ay 1)) 0 + 1))), (a_az, eI X 6 az), (a_ag, eI X 15 ag), (a_ae, eI X 50 ae), (a_ax, eI X 60 ax_2)] H := hP
        have hD : va_D A [(a_ay, eI X 22 (updI (updI ay (2 + ay 0).toNat (ay 1)) 0 ((updI ay (2 + ay 0).toNat (ay 1)) 0 + 1))), (a_az, eI X 6 az), (a_ag, eI X 15 ag), (a_ae, eI X 50 ae), (a_ax, eI X 60 ax_2)] := hD
        refine lv_iinc (v := iI (v9 + 1)) (lv' := [(9, .int (iI (v9 + 1))), (8, .int (iI (v8 + ((ax_2 ((6 * ay 0) + 2).toNat + ax_2 ((6 * ay 0) + 3).toNat) - ax_2 ((6 * ay 0) + 4).toNat)))), (7, .int (iI (v7 + z2))), (10, .int (iI (6 * ay 0))), (0, .ref a_ag), (1, .ref a_ae), (2, .int (iI v2)), (3, .int (iI v3)), (4, .ref a_ax), (5, .ref a_ay), (6, .ref a_az)]) hx hb dL_lay_120 hl (k := 10) rfl (iI_add _ _) (by decide) rfl (fun ls hl => ?_)
        refine lv_iload hx hb dL_lay_123 (lv_at hl 0 rfl) ?_
        refine lv_aload_n hx hb dL_lay_125 rfl (lv_at hl 4 rfl) ?_
        refine lv_iconst (v := iI 1) hx hb dL_lay_126 rfl ?_
        refine i_ald hx hb hK hP 2 0 rfl rfl (by decide) (by decide) rfl (Nat.le_of_ble_eq_true rfl) dL_lay_127 ?_
        refine i_cmp_eq (tgt := 140) hx hb h.1 h.2.1 dL_lay_128 (by decide) (fun c3 => ?_) (fun c3 => ?_)
        · have h := h.2.2.1 c3
          have hP := hP.sub (ws' := [(a_ag, eI X 15 ag), (a_ae, eI X 50 ae), (a_ax, eI X 60 ax_2), (a_ay, eI X 22 (updI (updI ay (2 + ay 0).toNat (ay 1)) 0 ((updI ay (2 + ay 0).toNat (ay 1)) 0 + 1))), (a_az, eI X 6 az)]) [2, 3, 4, 0, 1] rfl
          have hD := hD.sub (ws' := [(a_ag, eI X 15 ag), (a_ae, eI X 50 ae), (a_ax, eI X 60 ax_2), (a_ay, eI X 22 (updI (updI ay (2 + ay 0).toNat (ay 1)) 0 ((updI ay (2 + ay 0).toNat (ay 1)) 0 + 1))), (a_az, eI X 6 az)]) [2, 3, 4, 0, 1] (by decide +kernel) rfl
          refine W.widen (k := 1) (n := 6) (Nat.le_of_ble_eq_true rfl) (Nat.le_of_ble_eq_true rfl) ?_
          exact B140 (wpL_lay_25 ag ae post n) ih ax_2 (updI (updI ay (2 + ay 0).toNat (ay 1)) 0 ((updI ay (2 + ay 0).toNat (ay 1)) 0 + 1)) az v2 v3 (v7 + z2) (v9 + 1) (6 * ay 0) h _ _ _ hP hD hS (lv_sub hl [4, 5, 6, 7, 8, 9, 10, 2, 0, 3] rfl)
        · have h := h.2.2.2 c3
          refine lv_iload hx hb dL_lay_131 (lv_at hl 2 rfl) ?_
          refine lv_aload_n hx hb dL_lay_133 rfl (lv_at hl 4 rfl) ?_
          refine lv_bipush (v := iI 14) hx hb dL_lay_134 (by decide +kernel) ?_
          refine i_ald hx hb hK hP 2 0 rfl rfl (by decide) (by decide) rfl (Nat.le_of_ble_eq_true rfl) dL_lay_136 ?_
          refine i_cmp_ne (tgt := 280) hx hb h.1 h.2.1 dL_lay_137 (by decide) (fun c4 => ?_) (fun c4 => ?_)
          · have h := h.2.2.1 c4
            have hP := hP.sub (ws' := [(a_ag, eI X 15 ag), (a_ae, eI X 50 ae), (a_ax, eI X 60 ax_2), (a_ay, eI X 22 (updI (updI ay (2 + ay 0).toNat (ay 1)) 0 ((updI ay (2 + ay 0).toNat (ay 1)) 0 + 1))), (a_az, eI X 6 az)]) [2, 3, 4, 0, 1] rfl
            have hD := hD.sub (ws' := [(a_ag, eI X 15 ag), (a_ae, eI X 50 ae), (a_ax, eI X 60 ax_2), (a_ay, eI X 22 (updI (updI ay (2 + ay 0).toNat (ay 1)) 0 ((updI ay (2 + ay 0).toNat (ay 1)) 0 + 1))), (a_az, eI X 6 az)]) [2, 3, 4, 0, 1] (by decide +kernel) rfl
            refine W.widen (k := 1) (n := 6) (Nat.le_of_ble_eq_true rfl) (Nat.le_of_ble_eq_true rfl) ?_
            exact B280 (wpL_lay_25 ag ae post n) ih ax_2 (updI (updI ay (2 + ay 0).toNat (ay 1)) 0 ((updI ay (2 + ay 0).toNat (ay 1)) 0 + 1)) az v2 v3 (v7 + z2) (v8 + ((ax_2 ((6 * ay 0) + 2).toNat + ax_2 ((6 * ay 0) + 3).toNat) - ax_2 ((6 * ay 0) + 4).toNat)) (v9 + 1) h _ _ _ hP hD hS (lv_sub hl [4, 5, 6, 7, 8, 9, 10, 2, 1, 0] rfl)
          · have h := h.2.2.2 c4
            have hP := hP.sub (ws' := [(a_ag, eI X 15 ag), (a_ae, eI X 50 ae), (a_ax, eI X 60 ax_2), (a_ay, eI X 22 (updI (updI ay (2 + ay 0).toNat (ay 1)) 0 ((updI ay (2 + ay 0).toNat (ay 1)) 0 + 1))), (a_az, eI X 6 az)]) [2, 3, 4, 0, 1] rfl
            have hD := hD.sub (ws' := [(a_ag, eI X 15 ag), (a_ae, eI X 50 ae), (a_ax, eI X 60 ax_2), (a_ay, eI X 22 (updI (updI ay (2 + ay 0).toNat (ay 1)) 0 ((updI ay (2 + ay 0).toNat (ay 1)) 0 + 1))), (a_az, eI X 6 az)]) [2, 3, 4, 0, 1] (by decide +kernel) rfl
            refine W.widen (k := 1) (n := 6) (Nat.le_of_ble_eq_true rfl) (Nat.le_of_ble_eq_true rfl) ?_
            exact B140 (wpL_lay_25 ag ae post n) ih ax_2 (updI (updI ay (2 + ay 0).toNat (ay 1)) 0 ((updI ay (2 + ay 0).toNat (ay 1)) 0 + 1)) az v2 v3 (v7 + z2) (v9 + 1) (6 * ay 0) h _ _ _ hP hD hS (lv_sub hl [4, 5, 6, 7, 8, 9, 10, 2, 0, 3] rfl)
  refine lv_iconst (v := iI 0) hx hb dL_lay_6 rfl ?_
  refine lv_istore (lv' := [(7, .int (iI 0)), (6, .ref a_az), (0, .ref a_ag), (1, .ref a_ae), (2, .int (iI p2)), (3, .int (iI p3)), (4, .ref a_ax), (5, .ref a_ay)]) hx hb dL_lay_7 hl (by decide) rfl (fun ls hl => ?_)
  refine lv_iconst (v := iI 0) hx hb dL_lay_9 rfl ?_
  refine lv_istore (lv' := [(8, .int (iI 0)), (7, .int (iI 0)), (6, .ref a_az), (0, .ref a_ag), (1, .ref a_ae), (2, .int (iI p2)), (3, .int (iI p3)), (4, .ref a_ax), (5, .ref a_ay)]) hx hb dL_lay_10 hl (by decide) rfl (fun ls hl => ?_)
  refine lv_iconst (v := iI 0) hx hb dL_lay_12 rfl ?_
  refine lv_istore (lv' := [(9, .int (iI 0)), (8, .int (iI 0)), (7, .int (iI 0)), (6, .ref a_az), (0, .ref a_ag), (1, .ref a_ae), (2, .int (iI p2)), (3, .int (iI p3)), (4, .ref a_ax), (5, .ref a_ay)]) hx hb dL_lay_13 hl (by decide) rfl (fun ls hl => ?_)
  refine lv_aload hx hb dL_lay_15 (lv_at hl 9 rfl) ?_
  refine lv_iconst (v := iI 0) hx hb dL_lay_17 rfl ?_
  refine lv_iconst (v := iI 0) hx hb dL_lay_18 rfl ?_
  refine i_ast hx hb hK hP hD hS 3 0 rfl rfl (by decide) (by decide) rfl (Nat.le_of_ble_eq_true rfl) dL_lay_19 (fun H locs hP hD hS => ?_)
  have hP : va_P X.1 vwCl [(a_ag, eI X 15 ag), (a_ae, eI X 50 ae), (a_ax, eI X 60 ax), (a_ay, eI X 22 (updI ay 0 0)), (a_az, eI X 6 (fun _ => 0))] H := hP
  have hD : va_D A [(a_ag, eI X 15 ag), (a_ae, eI X 50 ae), (a_ax, eI X 60 ax), (a_ay, eI X 22 (updI ay 0 0)), (a_az, eI X 6 (fun _ => 0))] := hD
  refine lv_aload hx hb dL_lay_20 (lv_at hl 9 rfl) ?_
  refine lv_iconst (v := iI 1) hx hb dL_lay_22 rfl ?_
  refine lv_iconst (v := iI 0) hx hb dL_lay_23 rfl ?_
  refine i_ast hx hb hK hP hD hS 3 0 rfl rfl (by decide) (by decide) rfl (Nat.le_of_ble_eq_true rfl) dL_lay_24 (fun H locs hP hD hS => ?_)
  have hP : va_P X.1 vwCl [(a_ag, eI X 15 ag), (a_ae, eI X 50 ae), (a_ax, eI X 60 ax), (a_ay, eI X 22 (updI (updI ay 0 0) 1 0)), (a_az, eI X 6 (fun _ => 0))] H := hP
  have hD : va_D A [(a_ag, eI X 15 ag), (a_ae, eI X 50 ae), (a_ax, eI X 60 ax), (a_ay, eI X 22 (updI (updI ay 0 0) 1 0)), (a_az, eI X 6 (fun _ => 0))] := hD
  refine W.widen (k := 1) (n := 6) (Nat.le_of_ble_eq_true rfl) (Nat.le_of_ble_eq_true rfl) ?_
  obtain ⟨n1, h⟩ := h
  exact B25  n1 ax (updI (updI ay 0 0) 1 0) (fun _ => 0) p2 p3 0 0 0 h _ _ _ hP hD hS (lv_sub hl [4, 5, 6, 7, 8, 9, 3, 2, 1, 0] rfl)
