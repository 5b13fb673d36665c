abbrev rmL_row : Room := { frames := 3, cells := 0, slots := 0, locals := 68 }
set_option maxHeartbeats 4000000 in
set_option maxRecDepth 100000 in
theorem kL_row (l : Launch) (X : XD) (a_ag a_ae a_ax : Nat) (ag : Nat → Int) (ae : Nat → Int) (ax : Nat → Int) (p2 : Int) (p3 : Int) (p4 : Int) (p5 : Int) (p6 : Int) (p8 : Int) (post : Int → (Nat → Int) → Prop) (h : wpL_row ag ae ax p2 p3 p4 p5 p6 p8 post) : MCi l yL_row wsL_row rmL_row X [.ref a_ag, .ref a_ae, .int (iI p2), .int (iI p3), .int (iI p4), .int (iI p5), .int (iI p6), .ref a_ax, .int (iI p8)] [(a_ag, eI X 15 ag), (a_ae, eI X 50 ae), (a_ax, eI X 60 ax)] (S := Nat → Int) (fun u => [(a_ag, eI X 15 ag), (a_ae, eI X 50 ae), (a_ax, eI X 60 u)]) (fun z u => post z u) 0 0 := by
  refine MCi.of (cc := cL_row) (maxL := 15) (by decide +kernel) rfl rfl ?_
  intro p e s m args below meth c A ls Q hE0 hP hD hS hl hend
  obtain ⟨hx, hb, hr, hml, hlocks, hown, hts, hK, hE, hA, hnm⟩ := hE0
  have hl : lv_has ls 15 [(0, .ref a_ag), (1, .ref a_ae), (2, .int (iI p2)), (3, .int (iI p3)), (4, .int (iI p4)), (5, .int (iI p5)), (6, .int (iI p6)), (7, .ref a_ax), (8, .int (iI p8))] := hl
  have B261 : ∀ (ax : Nat → Int) (v8 : Int) (v9 : Int) (v10 : Int) (v11 : Int) (w0 : Int) (w1 : Int), wpL_row_261 ag ae post ax v8 v9 v10 v11 w0 w1 → ∀ (H : Heap) (locs : List Loc) (ls : Array Slot), va_P X.1 vwCl [(a_ag, eI X 15 ag), (a_ae, eI X 50 ae), (a_ax, eI X 60 ax)] H → va_D A [(a_ag, eI X 15 ag), (a_ae, eI X 50 ae), (a_ax, eI X 60 ax)] → va_S A s.heap H locs → lv_has ls 15 [(7, .ref a_ax), (8, .int (iI v8)), (9, .int (iI v9)), (10, .int (iI v10)), (11, .int (iI v11))] → W p l e rmL_row s m args below meth c H locs 0 0 Q (F0 m 261 ls [.int (iI w0), .int (iI w1), .ref a_ax]) := by
    intro  ax v8 v9 v10 v11 w0 w1 h H locs ls hP hD hS hl
    refine i_ast hx hb hK hP hD hS 2 0 rfl rfl h.1 h.2.1 rfl (Nat.le_of_ble_eq_true rfl) dL_row_261 (fun H locs hP hD hS => ?_)
    have hP : va_P X.1 vwCl [(a_ag, eI X 15 ag), (a_ae, eI X 50 ae), (a_ax, eI X 60 (updI ax (w1).toNat w0))] H := hP
    have hD : va_D A [(a_ag, eI X 15 ag), (a_ae, eI X 50 ae), (a_ax, eI X 60 (updI ax (w1).toNat w0))] := hD
    have h := h.2.2
    refine lv_aload hx hb dL_row_262 (lv_at hl 0 rfl) ?_
    refine lv_iload hx hb dL_row_264 (lv_at hl 1 rfl) ?_
    refine lv_iconst (v := iI 4) hx hb dL_row_266 rfl ?_
    refine i_add hx hb dL_row_267 ?_
    refine lv_iload hx hb dL_row_268 (lv_at hl 2 rfl) ?_
    refine i_ast hx hb hK hP hD hS 2 0 rfl rfl h.1 h.2.1 rfl (Nat.le_of_ble_eq_true rfl) dL_row_270 (fun H locs hP hD hS => ?_)
    have hP : va_P X.1 vwCl [(a_ag, eI X 15 ag), (a_ae, eI X 50 ae), (a_ax, eI X 60 (updI (updI ax (w1).toNat w0) (v8 + 4).toNat v9))] H := hP
    have hD : va_D A [(a_ag, eI X 15 ag), (a_ae, eI X 50 ae), (a_ax, eI X 60 (updI (updI ax (w1).toNat w0) (v8 + 4).toNat v9))] := hD
    have h := h.2.2
    refine lv_aload hx hb dL_row_271 (lv_at hl 0 rfl) ?_
    refine lv_iload hx hb dL_row_273 (lv_at hl 1 rfl) ?_
    refine lv_iconst (v := iI 5) hx hb dL_row_275 rfl ?_
    refine i_add hx hb dL_row_276 ?_
    refine lv_iload hx hb dL_row_277 (lv_at hl 4 rfl) ?_
    refine i_if_eq (tgt := 286) hx hb h.1 dL_row_279 (by decide) (fun c1 => ?_) (fun c1 => ?_)
    · have h := h.2.1 c1
      refine lv_iconst (v := iI 1) hx hb dL_row_286 rfl ?_
      refine i_ast hx hb hK hP hD hS 2 0 rfl rfl h.1 h.2.1 rfl (Nat.le_of_ble_eq_true rfl) dL_row_287 (fun H locs hP hD hS => ?_)
      have hP : va_P X.1 vwCl [(a_ag, eI X 15 ag), (a_ae, eI X 50 ae), (a_ax, eI X 60 (updI (updI (updI ax (w1).toNat w0) (v8 + 4).toNat v9) (v8 + 5).toNat 1))] H := hP
      have hD : va_D A [(a_ag, eI X 15 ag), (a_ae, eI X 50 ae), (a_ax, eI X 60 (updI (updI (updI ax (w1).toNat w0) (v8 + 4).toNat v9) (v8 + 5).toNat 1))] := hD
      have h := h.2.2
      refine lv_iload hx hb dL_row_288 (lv_at hl 3 rfl) ?_
      exact hend _ _ _ _ _ _ v10 (updI (updI (updI ax (w1).toNat w0) (v8 + 4).toNat v9) (v8 + 5).toNat 1) hP hD hS h (Nat.le_of_ble_eq_true rfl) (Nat.le_of_ble_eq_true rfl) dL_row_290
    · have h := h.2.2 c1
      refine lv_iconst (v := iI 0) hx hb dL_row_282 rfl ?_
      refine lv_goto (tgt := 287) hx hb dL_row_283 (by decide) ?_
      refine i_ast hx hb hK hP hD hS 2 0 rfl rfl h.1 h.2.1 rfl (Nat.le_of_ble_eq_true rfl) dL_row_287 (fun H locs hP hD hS => ?_)
      have hP : va_P X.1 vwCl [(a_ag, eI X 15 ag), (a_ae, eI X 50 ae), (a_ax, eI X 60 (updI (updI (updI ax (w1).toNat w0) (v8 + 4).toNat v9) (v8 + 5).toNat 0))] H := hP
      have hD : va_D A [(a_ag, eI X 15 ag), (a_ae, eI X 50 ae), (a_ax, eI X 60 (updI (updI (updI ax (w1).toNat w0) (v8 + 4).toNat v9) (v8 + 5).toNat 0))] := hD
      have h := h.2.2
      refine lv_iload hx hb dL_row_288 (lv_at hl 3 rfl) ?_
      exact hend _ _ _ _ _ _ v10 (updI (updI (updI ax (w1).toNat w0) (v8 + 4).toNat v9) (v8 + 5).toNat 0) hP hD hS h (Nat.le_of_ble_eq_true rfl) (Nat.le_of_ble_eq_true rfl) dL_row_290
  have B235 : ∀ (ax : Nat → Int) (v8 : Int) (v9 : Int) (v10 : Int) (v11 : Int) (v12 : Int) (w0 : Int) (w1 : Int), wpL_row_235 ag ae post ax v8 v9 v10 v11 v12 w0 w1 → ∀ (H : Heap) (locs : List Loc) (ls : Array Slot), va_P X.1 vwCl [(a_ag, eI X 15 ag), (a_ae, eI X 50 ae), (a_ax, eI X 60 ax)] H → va_D A [(a_ag, eI X 15 ag), (a_ae, eI X 50 ae), (a_ax, eI X 60 ax)] → va_S A s.heap H locs → lv_has ls 15 [(7, .ref a_ax), (8, .int (iI v8)), (9, .int (iI v9)), (10, .int (iI v10)), (11, .int (iI v11)), (12, .int (iI v12))] → W p l e rmL_row s m args below meth c H locs 0 0 Q (F0 m 235 ls [.int (iI w0), .int (iI w1), .ref a_ax]) := by
    intro  ax v8 v9 v10 v11 v12 w0 w1 h H locs ls hP hD hS hl
    refine i_ast hx hb hK hP hD hS 2 0 rfl rfl h.1 h.2.1 rfl (Nat.le_of_ble_eq_true rfl) dL_row_235 (fun H locs hP hD hS => ?_)
    have hP : va_P X.1 vwCl [(a_ag, eI X 15 ag), (a_ae, eI X 50 ae), (a_ax, eI X 60 (updI ax (w1).toNat w0))] H := hP
    have hD : va_D A [(a_ag, eI X 15 ag), (a_ae, eI X 50 ae), (a_ax, eI X 60 (updI ax (w1).toNat w0))] := hD
    have h := h.2.2
    refine lv_aload hx hb dL_row_236 (lv_at hl 0 rfl) ?_
    refine lv_iload hx hb dL_row_238 (lv_at hl 1 rfl) ?_
    refine lv_iconst (v := iI 2) hx hb dL_row_240 rfl ?_
    refine i_add hx hb dL_row_241 ?_
    refine lv_iload hx hb dL_row_242 (lv_at hl 4 rfl) ?_
    refine i_if_eq (tgt := 260) hx hb h.1 dL_row_244 (by decide) (fun c1 => ?_) (fun c1 => ?_)
    · have h := h.2.1 c1
      refine lv_iconst (v := iI 0) hx hb dL_row_260 rfl ?_
      exact B261  (updI ax (w1).toNat w0) v8 v9 v10 v11 0 (v8 + 2) h _ _ _ hP hD hS (lv_sub hl [0, 1, 2, 3, 4] rfl)
    · have h := h.2.2 c1
      refine lv_iload hx hb dL_row_247 (lv_at hl 5 rfl) ?_
      refine lv_aload hx hb dL_row_249 (lv_at hl 0 rfl) ?_
      refine lv_iload hx hb dL_row_251 (lv_at hl 1 rfl) ?_
      refine lv_iconst (v := iI 3) hx hb dL_row_253 rfl ?_
      refine i_add hx hb dL_row_254 ?_
      refine i_ald hx hb hK hP 2 0 rfl rfl h.1 h.2.1 rfl (Nat.le_of_ble_eq_true rfl) dL_row_255 ?_
      have h := h.2.2
      refine i_sub hx hb dL_row_256 ?_
      refine lv_goto (tgt := 261) hx hb dL_row_257 (by decide) ?_
      exact B261  (updI ax (w1).toNat w0) v8 v9 v10 v11 (v12 - (updI ax (w1).toNat w0) (v8 + 3).toNat) (v8 + 2) h _ _ _ hP hD hS (lv_sub hl [0, 1, 2, 3, 4] rfl)
  have B191 : ∀ (ax : Nat → Int) (v2 : Int) (v8 : Int) (v9 : Int) (v10 : Int) (v11 : Int) (v12 : Int) (v13 : Int), wpL_row_191 ag ae post ax v2 v8 v9 v10 v11 v12 v13 → ∀ (H : Heap) (locs : List Loc) (ls : Array Slot), va_P X.1 vwCl [(a_ag, eI X 15 ag), (a_ae, eI X 50 ae), (a_ax, eI X 60 ax)] H → va_D A [(a_ag, eI X 15 ag), (a_ae, eI X 50 ae), (a_ax, eI X 60 ax)] → va_S A s.heap H locs → lv_has ls 15 [(2, .int (iI v2)), (7, .ref a_ax), (8, .int (iI v8)), (9, .int (iI v9)), (10, .int (iI v10)), (11, .int (iI v11)), (12, .int (iI v12)), (13, .int (iI v13))] → W p l e rmL_row s m args below meth c H locs 0 0 Q (F0 m 191 ls []) := by
    intro  ax v2 v8 v9 v10 v11 v12 v13 h H locs ls hP hD hS hl
    refine lv_aload hx hb dL_row_191 (lv_at hl 1 rfl) ?_
    refine lv_iload hx hb dL_row_193 (lv_at hl 2 rfl) ?_
    refine lv_iload_n hx hb dL_row_195 rfl (lv_at hl 0 rfl) ?_
    refine i_ast hx hb hK hP hD hS 2 0 rfl rfl h.1 h.2.1 rfl (Nat.le_of_ble_eq_true rfl) dL_row_196 (fun H locs hP hD hS => ?_)
    have hP : va_P X.1 vwCl [(a_ag, eI X 15 ag), (a_ae, eI X 50 ae), (a_ax, eI X 60 (updI ax (v8).toNat v2))] H := hP
    have hD : va_D A [(a_ag, eI X 15 ag), (a_ae, eI X 50 ae), (a_ax, eI X 60 (updI ax (v8).toNat v2))] := hD
    have h := h.2.2
    refine lv_aload hx hb dL_row_197 (lv_at hl 1 rfl) ?_
    refine lv_iload hx hb dL_row_199 (lv_at hl 2 rfl) ?_
    refine lv_iconst (v := iI 1) hx hb dL_row_201 rfl ?_
    refine i_add hx hb dL_row_202 ?_
    refine lv_iload hx hb dL_row_203 (lv_at hl 4 rfl) ?_
    refine i_ast hx hb hK hP hD hS 2 0 rfl rfl h.1 h.2.1 rfl (Nat.le_of_ble_eq_true rfl) dL_row_205 (fun H locs hP hD hS => ?_)
    have hP : va_P X.1 vwCl [(a_ag, eI X 15 ag), (a_ae, eI X 50 ae), (a_ax, eI X 60 (updI (updI ax (v8).toNat v2) (v8 + 1).toNat v10))] H := hP
    have hD : va_D A [(a_ag, eI X 15 ag), (a_ae, eI X 50 ae), (a_ax, eI X 60 (updI (updI ax (v8).toNat v2) (v8 + 1).toNat v10))] := hD
    have h := h.2.2
    refine lv_aload hx hb dL_row_206 (lv_at hl 1 rfl) ?_
    refine lv_iload hx hb dL_row_208 (lv_at hl 2 rfl) ?_
    refine lv_iconst (v := iI 3) hx hb dL_row_210 rfl ?_
    refine i_add hx hb dL_row_211 ?_
    refine lv_iload hx hb dL_row_212 (lv_at hl 5 rfl) ?_
    refine i_if_ne (tgt := 221) hx hb h.1 dL_row_214 (by decide) (fun c1 => ?_) (fun c1 => ?_)
    · have h := h.2.1 c1
      refine lv_iload hx hb dL_row_221 (lv_at hl 6 rfl) ?_
      refine lv_iload hx hb dL_row_223 (lv_at hl 7 rfl) ?_
      refine i_cmp_le (tgt := 233) hx hb h.1 h.2.1 dL_row_225 (by decide) (fun c2 => ?_) (fun c2 => ?_)
      · have h := h.2.2.1 c2
        refine lv_iload hx hb dL_row_233 (lv_at hl 6 rfl) ?_
        exact B235  (updI (updI ax (v8).toNat v2) (v8 + 1).toNat v10) v8 v9 v10 v11 v12 v12 (v8 + 3) h _ _ _ hP hD hS (lv_sub hl [1, 2, 3, 4, 5, 6] rfl)
      · have h := h.2.2.2 c2
        refine lv_iload hx hb dL_row_228 (lv_at hl 7 rfl) ?_
        refine lv_goto (tgt := 235) hx hb dL_row_230 (by decide) ?_
        exact B235  (updI (updI ax (v8).toNat v2) (v8 + 1).toNat v10) v8 v9 v10 v11 v12 v13 (v8 + 3) h _ _ _ hP hD hS (lv_sub hl [1, 2, 3, 4, 5, 6] rfl)
    · have h := h.2.2 c1
      refine lv_iconst (v := iI 0) hx hb dL_row_217 rfl ?_
      refine lv_goto (tgt := 235) hx hb dL_row_218 (by decide) ?_
      exact B235  (updI (updI ax (v8).toNat v2) (v8 + 1).toNat v10) v8 v9 v10 v11 v12 0 (v8 + 3) h _ _ _ hP hD hS (lv_sub hl [1, 2, 3, 4, 5, 6] rfl)
  have B186 : ∀ (k53 : (Nat → Int) → Int → Int → Int → Int → Int → Int → Int → Int → Int → Int → Int → Prop) (hk53 : ∀ (ax : Nat → Int) (v2 : Int) (v3 : Int) (v4 : Int) (v5 : Int) (v6 : Int) (v8 : Int) (v9 : Int) (v10 : Int) (v11 : Int) (v12 : Int) (v13 : Int), k53 ax v2 v3 v4 v5 v6 v8 v9 v10 v11 v12 v13 → ∀ (H : Heap) (locs : List Loc) (ls : Array Slot), va_P X.1 vwCl [(a_ag, eI X 15 ag), (a_ae, eI X 50 ae), (a_ax, eI X 60 ax)] H → va_D A [(a_ag, eI X 15 ag), (a_ae, eI X 50 ae), (a_ax, eI X 60 ax)] → va_S A s.heap H locs → lv_has ls 15 [(0, .ref a_ag), (1, .ref a_ae), (2, .int (iI v2)), (3, .int (iI v3)), (4, .int (iI v4)), (5, .int (iI v5)), (6, .int (iI v6)), (7, .ref a_ax), (8, .int (iI v8)), (9, .int (iI v9)), (10, .int (iI v10)), (11, .int (iI v11)), (12, .int (iI v12)), (13, .int (iI v13))] → W p l e rmL_row s m args below meth c H locs 0 0 Q (F0 m 53 ls [])) (ax : Nat → Int) (v2 : Int) (v3 : Int) (v4 : Int) (v5 : Int) (v6 : Int) (v8 : Int) (v9 : Int) (v10 : Int) (v12 : Int) (v13 : Int) (w0 : Int), wpL_row_186 ag ae post k53 ax v2 v3 v4 v5 v6 v8 v9 v10 v12 v13 w0 → ∀ (H : Heap) (locs : List Loc) (ls : Array Slot), va_P X.1 vwCl [(a_ag, eI X 15 ag), (a_ae, eI X 50 ae), (a_ax, eI X 60 ax)] H → va_D A [(a_ag, eI X 15 ag), (a_ae, eI X 50 ae), (a_ax, eI X 60 ax)] → va_S A s.heap H locs → lv_has ls 15 [(0, .ref a_ag), (1, .ref a_ae), (2, .int (iI v2)), (3, .int (iI v3)), (4, .int (iI v4)), (5, .int (iI v5)), (6, .int (iI v6)), (7, .ref a_ax), (8, .int (iI v8)), (9, .int (iI v9)), (10, .int (iI v10)), (12, .int (iI v12)), (13, .int (iI v13))] → W p l e rmL_row s m args below meth c H locs 0 0 Q (F0 m 186 ls [.int (iI w0)]) := by
    intro k53 hk53 ax v2 v3 v4 v5 v6 v8 v9 v10 v12 v13 w0 h H locs ls hP hD hS hl
    refine lv_istore (lv' := [(11, .int (iI w0)), (0, .ref a_ag), (1, .ref a_ae), (2, .int (iI v2)), (3, .int (iI v3)), (4, .int (iI v4)), (5, .int (iI v5)), (6, .int (iI v6)), (7, .ref a_ax), (8, .int (iI v8)), (9, .int (iI v9)), (10, .int (iI v10)), (12, .int (iI v12)), (13, .int (iI v13))]) hx hb dL_row_186 hl (by decide) rfl (fun ls hl => ?_)
    refine lv_goto (tgt := 53) hx hb dL_row_188 (by decide) ?_
    exact hk53 ax v2 v3 v4 v5 v6 v8 v9 v10 w0 v12 v13 h _ _ _ hP hD hS (lv_sub hl [1, 2, 3, 4, 5, 6, 7, 8, 9, 10, 11, 0, 12, 13] rfl)
  have B181 : ∀ (k53 : (Nat → Int) → Int → Int → Int → Int → Int → Int → Int → Int → Int → Int → Int → Prop) (hk53 : ∀ (ax : Nat → Int) (v2 : Int) (v3 : Int) (v4 : Int) (v5 : Int) (v6 : Int) (v8 : Int) (v9 : Int) (v10 : Int) (v11 : Int) (v12 : Int) (v13 : Int), k53 ax v2 v3 v4 v5 v6 v8 v9 v10 v11 v12 v13 → ∀ (H : Heap) (locs : List Loc) (ls : Array Slot), va_P X.1 vwCl [(a_ag, eI X 15 ag), (a_ae, eI X 50 ae), (a_ax, eI X 60 ax)] H → va_D A [(a_ag, eI X 15 ag), (a_ae, eI X 50 ae), (a_ax, eI X 60 ax)] → va_S A s.heap H locs → lv_has ls 15 [(0, .ref a_ag), (1, .ref a_ae), (2, .int (iI v2)), (3, .int (iI v3)), (4, .int (iI v4)), (5, .int (iI v5)), (6, .int (iI v6)), (7, .ref a_ax), (8, .int (iI v8)), (9, .int (iI v9)), (10, .int (iI v10)), (11, .int (iI v11)), (12, .int (iI v12)), (13, .int (iI v13))] → W p l e rmL_row s m args below meth c H locs 0 0 Q (F0 m 53 ls [])) (ax : Nat → Int) (v2 : Int) (v3 : Int) (v4 : Int) (v5 : Int) (v6 : Int) (v8 : Int) (v9 : Int) (v10 : Int) (v12 : Int) (v13 : Int), wpL_row_181 ag ae post k53 ax v2 v3 v4 v5 v6 v8 v9 v10 v12 v13 → ∀ (H : Heap) (locs : List Loc) (ls : Array Slot), va_P X.1 vwCl [(a_ag, eI X 15 ag), (a_ae, eI X 50 ae), (a_ax, eI X 60 ax)] H → va_D A [(a_ag, eI X 15 ag), (a_ae, eI X 50 ae), (a_ax, eI X 60 ax)] → va_S A s.heap H locs → lv_has ls 15 [(0, .ref a_ag), (1, .ref a_ae), (2, .int (iI v2)), (3, .int (iI v3)), (4, .int (iI v4)), (5, .int (iI v5)), (6, .int (iI v6)), (7, .ref a_ax), (8, .int (iI v8)), (9, .int (iI v9)), (10, .int (iI v10)), (12, .int (iI v12)), (13, .int (iI v13))] → W p l e rmL_row s m args below meth c H locs 0 0 Q (F0 m 181 ls []) := by
    intro k53 hk53 ax v2 v3 v4 v5 v6 v8 v9 v10 v12 v13 h H locs ls hP hD hS hl
    refine lv_iconst (v := iI 1) hx hb dL_row_181 rfl ?_
    refine lv_goto (tgt := 186) hx hb dL_row_182 (by decide) ?_
    exact B186 k53 hk53 ax v2 v3 v4 v5 v6 v8 v9 v10 v12 v13 1 h _ _ _ hP hD hS (lv_sub hl [0, 1, 2, 3, 4, 5, 6, 7, 8, 9, 10, 11, 12] rfl)
  have B185 : ∀ (k53 : (Nat → Int) → Int → Int → Int → Int → Int → Int → Int → Int → Int → Int → Int → Prop) (hk53 : ∀ (ax : Nat → Int) (v2 : Int) (v3 : Int) (v4 : Int) (v5 : Int) (v6 : Int) (v8 : Int) (v9 : Int) (v10 : Int) (v11 : Int) (v12 : Int) (v13 : Int), k53 ax v2 v3 v4 v5 v6 v8 v9 v10 v11 v12 v13 → ∀ (H : Heap) (locs : List Loc) (ls : Array Slot), va_P X.1 vwCl [(a_ag, eI X 15 ag), (a_ae, eI X 50 ae), (a_ax, eI X 60 ax)] H → va_D A [(a_ag, eI X 15 ag), (a_ae, eI X 50 ae), (a_ax, eI X 60 ax)] → va_S A s.heap H locs → lv_has ls 15 [(0, .ref a_ag), (1, .ref a_ae), (2, .int (iI v2)), (3, .int (iI v3)), (4, .int (iI v4)), (5, .int (iI v5)), (6, .int (iI v6)), (7, .ref a_ax), (8, .int (iI v8)), (9, .int (iI v9)), (10, .int (iI v10)), (11, .int (iI v11)), (12, .int (iI v12)), (13, .int (iI v13))] → W p l e rmL_row s m args below meth c H locs 0 0 Q (F0 m 53 ls [])) (ax : Nat → Int) (v2 : Int) (v3 : Int) (v4 : Int) (v5 : Int) (v6 : Int) (v8 : Int) (v9 : Int) (v10 : Int) (v12 : Int) (v13 : Int), wpL_row_185 ag ae post k53 ax v2 v3 v4 v5 v6 v8 v9 v10 v12 v13 → ∀ (H : Heap) (locs : List Loc) (ls : Array Slot), va_P X.1 vwCl [(a_ag, eI X 15 ag), (a_ae, eI X 50 ae), (a_ax, eI X 60 ax)] H → va_D A [(a_ag, eI X 15 ag), (a_ae, eI X 50 ae), (a_ax, eI X 60 ax)] → va_S A s.heap H locs → lv_has ls 15 [(0, .ref a_ag), (1, .ref a_ae), (2, .int (iI v2)), (3, .int (iI v3)), (4, .int (iI v4)), (5, .int (iI v5)), (6, .int (iI v6)), (7, .ref a_ax), (8, .int (iI v8)), (9, .int (iI v9)), (10, .int (iI v10)), (12, .int (iI v12)), (13, .int (iI v13))] → W p l e rmL_row s m args below meth c H locs 0 0 Q (F0 m 185 ls []) := by
    intro k53 hk53 ax v2 v3 v4 v5 v6 v8 v9 v10 v12 v13 h H locs ls hP hD hS hl
    refine lv_iconst (v := iI 0) hx hb dL_row_185 rfl ?_
    exact B186 k53 hk53 ax v2 v3 v4 v5 v6 v8 v9 v10 v12 v13 0 h _ _ _ hP hD hS (lv_sub hl [0, 1, 2, 3, 4, 5, 6, 7, 8, 9, 10, 11, 12] rfl)
  have B147 : ∀ (k53 : (Nat → Int) → Int → Int → Int → Int → Int → Int → Int → Int → Int → Int → Int → Prop) (hk53 : ∀ (ax : Nat → Int) (v2 : Int) (v3 : Int) (v4 : Int) (v5 : Int) (v6 : Int) (v8 : Int) (v9 : Int) (v10 : Int) (v11 : Int) (v12 : Int) (v13 : Int), k53 ax v2 v3 v4 v5 v6 v8 v9 v10 v11 v12 v13 → ∀ (H : Heap) (locs : List Loc) (ls : Array Slot), va_P X.1 vwCl [(a_ag, eI X 15 ag), (a_ae, eI X 50 ae), (a_ax, eI X 60 ax)] H → va_D A [(a_ag, eI X 15 ag), (a_ae, eI X 50 ae), (a_ax, eI X 60 ax)] → va_S A s.heap H locs → lv_has ls 15 [(0, .ref a_ag), (1, .ref a_ae), (2, .int (iI v2)), (3, .int (iI v3)), (4, .int (iI v4)), (5, .int (iI v5)), (6, .int (iI v6)), (7, .ref a_ax), (8, .int (iI v8)), (9, .int (iI v9)), (10, .int (iI v10)), (11, .int (iI v11)), (12, .int (iI v12)), (13, .int (iI v13))] → W p l e rmL_row s m args below meth c H locs 0 0 Q (F0 m 53 ls [])) (ax : Nat → Int) (v2 : Int) (v3 : Int) (v4 : Int) (v5 : Int) (v6 : Int) (v8 : Int) (v9 : Int) (v10 : Int) (v12 : Int) (v14 : Int) (w0 : Int), wpL_row_147 ag ae post k53 ax v2 v3 v4 v5 v6 v8 v9 v10 v12 v14 w0 → ∀ (H : Heap) (locs : List Loc) (ls : Array Slot), va_P X.1 vwCl [(a_ag, eI X 15 ag), (a_ae, eI X 50 ae), (a_ax, eI X 60 ax)] H → va_D A [(a_ag, eI X 15 ag), (a_ae, eI X 50 ae), (a_ax, eI X 60 ax)] → va_S A s.heap H locs → lv_has ls 15 [(0, .ref a_ag), (1, .ref a_ae), (2, .int (iI v2)), (3, .int (iI v3)), (4, .int (iI v4)), (5, .int (iI v5)), (6, .int (iI v6)), (7, .ref a_ax), (8, .int (iI v8)), (9, .int (iI v9)), (10, .int (iI v10)), (12, .int (iI v12)), (14, .int (iI v14))] → W p l e rmL_row s m args below meth c H locs 0 0 Q (F0 m 147 ls [.int (iI w0)]) := by
    intro k53 hk53 ax v2 v3 v4 v5 v6 v8 v9 v10 v12 v14 w0 h H locs ls hP hD hS hl
    refine lv_istore (lv' := [(13, .int (iI w0)), (0, .ref a_ag), (1, .ref a_ae), (2, .int (iI v2)), (3, .int (iI v3)), (4, .int (iI v4)), (5, .int (iI v5)), (6, .int (iI v6)), (7, .ref a_ax), (8, .int (iI v8)), (9, .int (iI v9)), (10, .int (iI v10)), (12, .int (iI v12)), (14, .int (iI v14))]) hx hb dL_row_147 hl (by decide) rfl (fun ls hl => ?_)
    refine lv_iload hx hb dL_row_149 (lv_at hl 12 rfl) ?_
    refine i_if_eq (tgt := 181) hx hb h.1 dL_row_151 (by decide) (fun c1 => ?_) (fun c1 => ?_)
    · have h := h.2.1 c1
      exact B181 k53 hk53 ax v2 v3 v4 v5 v6 v8 v9 v10 v12 w0 h _ _ _ hP hD hS (lv_sub hl [1, 2, 3, 4, 5, 6, 7, 8, 9, 10, 11, 12, 0] rfl)
    · have h := h.2.2 c1
      refine lv_iload hx hb dL_row_154 (lv_at hl 13 rfl) ?_
      refine lv_iload hx hb dL_row_156 (lv_at hl 0 rfl) ?_
      refine i_add hx hb dL_row_158 ?_
      refine lv_iload hx hb dL_row_159 (lv_at hl 12 rfl) ?_
      refine i_cmp_lt (tgt := 185) hx hb h.1 h.2.1 dL_row_161 (by decide) (fun c2 => ?_) (fun c2 => ?_)
      · have h := h.2.2.1 c2
        exact B185 k53 hk53 ax v2 v3 v4 v5 v6 v8 v9 v10 v12 w0 h _ _ _ hP hD hS (lv_sub hl [1, 2, 3, 4, 5, 6, 7, 8, 9, 10, 11, 12, 0] rfl)
      · have h := h.2.2.2 c2
        refine lv_iload hx hb dL_row_164 (lv_at hl 6 rfl) ?_
        refine lv_iload hx hb dL_row_166 (lv_at hl 10 rfl) ?_
        refine i_sub hx hb dL_row_168 ?_
        refine lv_iload hx hb dL_row_169 (lv_at hl 12 rfl) ?_
        refine i_add hx hb dL_row_171 ?_
        refine lv_aload_n hx hb dL_row_172 rfl (lv_at hl 1 rfl) ?_
        refine lv_iconst (v := iI 4) hx hb dL_row_173 rfl ?_
        refine i_ald hx hb hK hP 0 0 rfl rfl (by decide) (by decide) rfl (Nat.le_of_ble_eq_true rfl) dL_row_174 ?_
        refine lv_iload hx hb dL_row_175 (lv_at hl 7 rfl) ?_
        refine i_mul hx hb dL_row_177 ?_
        refine i_cmp_gt (tgt := 185) hx hb h.1 h.2.1 dL_row_178 (by decide) (fun c3 => ?_) (fun c3 => ?_)
        · have h := h.2.2.1 c3
          exact B185 k53 hk53 ax v2 v3 v4 v5 v6 v8 v9 v10 v12 w0 h _ _ _ hP hD hS (lv_sub hl [1, 2, 3, 4, 5, 6, 7, 8, 9, 10, 11, 12, 0] rfl)
        · have h := h.2.2.2 c3
          exact B181 k53 hk53 ax v2 v3 v4 v5 v6 v8 v9 v10 v12 w0 h _ _ _ hP hD hS (lv_sub hl [1, 2, 3, 4, 5, 6, 7, 8, 9, 10, 11, 12, 0] rfl)
  have B117 : ∀ (k53 : (Nat → Int) → Int → Int → Int → Int → Int → Int → Int → Int → Int → Int → Int → Prop) (hk53 : ∀ (ax : Nat → Int) (v2 : Int) (v3 : Int) (v4 : Int) (v5 : Int) (v6 : Int) (v8 : Int) (v9 : Int) (v10 : Int) (v11 : Int) (v12 : Int) (v13 : Int), k53 ax v2 v3 v4 v5 v6 v8 v9 v10 v11 v12 v13 → ∀ (H : Heap) (locs : List Loc) (ls : Array Slot), va_P X.1 vwCl [(a_ag, eI X 15 ag), (a_ae, eI X 50 ae), (a_ax, eI X 60 ax)] H → va_D A [(a_ag, eI X 15 ag), (a_ae, eI X 50 ae), (a_ax, eI X 60 ax)] → va_S A s.heap H locs → lv_has ls 15 [(0, .ref a_ag), (1, .ref a_ae), (2, .int (iI v2)), (3, .int (iI v3)), (4, .int (iI v4)), (5, .int (iI v5)), (6, .int (iI v6)), (7, .ref a_ax), (8, .int (iI v8)), (9, .int (iI v9)), (10, .int (iI v10)), (11, .int (iI v11)), (12, .int (iI v12)), (13, .int (iI v13))] → W p l e rmL_row s m args below meth c H locs 0 0 Q (F0 m 53 ls [])) (ax : Nat → Int) (v2 : Int) (v3 : Int) (v4 : Int) (v5 : Int) (v6 : Int) (v8 : Int) (v9 : Int) (v10 : Int) (v12 : Int) (w0 : Int), wpL_row_117 ag ae post k53 ax v2 v3 v4 v5 v6 v8 v9 v10 v12 w0 → ∀ (H : Heap) (locs : List Loc) (ls : Array Slot), va_P X.1 vwCl [(a_ag, eI X 15 ag), (a_ae, eI X 50 ae), (a_ax, eI X 60 ax)] H → va_D A [(a_ag, eI X 15 ag), (a_ae, eI X 50 ae), (a_ax, eI X 60 ax)] → va_S A s.heap H locs → lv_has ls 15 [(0, .ref a_ag), (1, .ref a_ae), (2, .int (iI v2)), (3, .int (iI v3)), (4, .int (iI v4)), (5, .int (iI v5)), (6, .int (iI v6)), (7, .ref a_ax), (8, .int (iI v8)), (9, .int (iI v9)), (10, .int (iI v10)), (12, .int (iI v12))] → W p l e rmL_row s m args below meth c H locs 0 0 Q (F0 m 117 ls [.int (iI w0)]) := by
    intro k53 hk53 ax v2 v3 v4 v5 v6 v8 v9 v10 v12 w0 h H locs ls hP hD hS hl
    refine lv_istore (lv' := [(14, .int (iI w0)), (0, .ref a_ag), (1, .ref a_ae), (2, .int (iI v2)), (3, .int (iI v3)), (4, .int (iI v4)), (5, .int (iI v5)), (6, .int (iI v6)), (7, .ref a_ax), (8, .int (iI v8)), (9, .int (iI v9)), (10, .int (iI v10)), (12, .int (iI v12))]) hx hb dL_row_117 hl (by decide) rfl (fun ls hl => ?_)
    refine lv_iload hx hb dL_row_119 (lv_at hl 5 rfl) ?_
    refine i_if_eq (tgt := 146) hx hb h.1 dL_row_121 (by decide) (fun c1 => ?_) (fun c1 => ?_)
    · have h := h.2.1 c1
      refine lv_iconst (v := iI 0) hx hb dL_row_146 rfl ?_
      exact B147 k53 hk53 ax v2 v3 v4 v5 v6 v8 v9 v10 v12 w0 0 h _ _ _ hP hD hS (lv_sub hl [1, 2, 3, 4, 5, 6, 7, 8, 9, 10, 11, 12, 0] rfl)
    · have h := h.2.2 c1
      refine lv_aload_n hx hb dL_row_124 rfl (lv_at hl 1 rfl) ?_
      refine lv_aload_n hx hb dL_row_125 rfl (lv_at hl 2 rfl) ?_
      refine lv_iconst (v := iI 5) hx hb dL_row_126 rfl ?_
      refine lv_iload_n hx hb dL_row_127 rfl (lv_at hl 3 rfl) ?_
      refine lv_iload hx hb dL_row_128 (lv_at hl 11 rfl) ?_
      refine i_add hx hb dL_row_130 ?_
      refine lv_iconst (v := iI 1) hx hb dL_row_131 rfl ?_
      refine i_sub hx hb dL_row_132 ?_
      refine i_mul hx hb dL_row_133 ?_
      refine lv_iconst (v := iI 3) hx hb dL_row_134 rfl ?_
      refine i_add hx hb dL_row_135 ?_
      refine i_ald hx hb hK hP 1 0 rfl rfl h.1 h.2.1 rfl (Nat.le_of_ble_eq_true rfl) dL_row_136 ?_
      have h := h.2.2
      refine lv_aload_n hx hb dL_row_137 rfl (lv_at hl 1 rfl) ?_
      refine lv_iconst (v := iI 3) hx hb dL_row_138 rfl ?_
      refine i_ald hx hb hK hP 0 0 rfl rfl (by decide) (by decide) rfl (Nat.le_of_ble_eq_true rfl) dL_row_139 ?_
      refine e_i (isC := [0]) (isR := [1, 2]) (wr := [(a_ae, eI X 50 ae), (a_ax, eI X 60 ax)]) (va_runS (As := [.ref a_ag, .int (iI (ae ((5 * ((v2 + v10) - 1)) + 3).toNat)), .int (iI (ag 3))]) (rest := []) ⟨hx, hb, hml, hown, hts⟩ (kL_hang l X a_ag ag (ae ((5 * ((v2 + v10) - 1)) + 3).toNat) (ag 3) _ h _) (va_cwS 3 hts gL_row_L_hang rfl rfl rfl (by decide +kernel) ⟨(Nat.le_of_ble_eq_true rfl), (Nat.le_of_ble_eq_true rfl)⟩) ⟨pre_blind, pre_cut hE hK hA hP hD hS (isC := [0]) rfl (by decide +kernel)⟩ rfl rfl hl.1 rfl (lv_room (Nat.le_of_ble_eq_true rfl)) dL_row_140 ⟨(Nat.le_of_ble_eq_true rfl), (Nat.le_of_ble_eq_true rfl)⟩) hA hP hD hS rfl rfl (by decide +kernel) (by decide +kernel) (fun z2 u2 H locs h hP hD hS => ?_)
      have hP : va_P X.1 vwCl [(a_ae, eI X 50 ae), (a_ax, eI X 60 ax), (a_ag, eI X 15 ag)] H := hP
      have hD : va_D A [(a_ae, eI X 50 ae), (a_ax, eI X 60 ax), (a_ag, eI X 15 ag)] := hD
      refine lv_goto (tgt := 147) hx hb dL_row_143 (by decide) ?_
      have hP := hP.sub (ws' := [(a_ag, eI X 15 ag), (a_ae, eI X 50 ae), (a_ax, eI X 60 ax)]) [2, 0, 1] rfl
      have hD := hD.sub (ws' := [(a_ag, eI X 15 ag), (a_ae, eI X 50 ae), (a_ax, eI X 60 ax)]) [2, 0, 1] (by decide +kernel) rfl
      exact B147 k53 hk53 ax v2 v3 v4 v5 v6 v8 v9 v10 v12 w0 z2 h _ _ _ hP hD hS (lv_sub hl [1, 2, 3, 4, 5, 6, 7, 8, 9, 10, 11, 12, 0] rfl)
  have B92 : ∀ (k53 : (Nat → Int) → Int → Int → Int → Int → Int → Int → Int → Int → Int → Int → Int → Prop) (hk53 : ∀ (ax : Nat → Int) (v2 : Int) (v3 : Int) (v4 : Int) (v5 : Int) (v6 : Int) (v8 : Int) (v9 : Int) (v10 : Int) (v11 : Int) (v12 : Int) (v13 : Int), k53 ax v2 v3 v4 v5 v6 v8 v9 v10 v11 v12 v13 → ∀ (H : Heap) (locs : List Loc) (ls : Array Slot), va_P X.1 vwCl [(a_ag, eI X 15 ag), (a_ae, eI X 50 ae), (a_ax, eI X 60 ax)] H → va_D A [(a_ag, eI X 15 ag), (a_ae, eI X 50 ae), (a_ax, eI X 60 ax)] → va_S A s.heap H locs → lv_has ls 15 [(0, .ref a_ag), (1, .ref a_ae), (2, .int (iI v2)), (3, .int (iI v3)), (4, .int (iI v4)), (5, .int (iI v5)), (6, .int (iI v6)), (7, .ref a_ax), (8, .int (iI v8)), (9, .int (iI v9)), (10, .int (iI v10)), (11, .int (iI v11)), (12, .int (iI v12)), (13, .int (iI v13))] → W p l e rmL_row s m args below meth c H locs 0 0 Q (F0 m 53 ls [])) (ax : Nat → Int) (v2 : Int) (v3 : Int) (v4 : Int) (v5 : Int) (v6 : Int) (v8 : Int) (v9 : Int) (v10 : Int) (w0 : Int), wpL_row_92 ag ae post k53 ax v2 v3 v4 v5 v6 v8 v9 v10 w0 → ∀ (H : Heap) (locs : List Loc) (ls : Array Slot), va_P X.1 vwCl [(a_ag, eI X 15 ag), (a_ae, eI X 50 ae), (a_ax, eI X 60 ax)] H → va_D A [(a_ag, eI X 15 ag), (a_ae, eI X 50 ae), (a_ax, eI X 60 ax)] → va_S A s.heap H locs → lv_has ls 15 [(0, .ref a_ag), (1, .ref a_ae), (2, .int (iI v2)), (3, .int (iI v3)), (4, .int (iI v4)), (5, .int (iI v5)), (6, .int (iI v6)), (7, .ref a_ax), (8, .int (iI v8)), (9, .int (iI v9)), (10, .int (iI v10))] → W p l e rmL_row s m args below meth c H locs 0 0 Q (F0 m 92 ls [.int (iI w0)]) := by
    intro k53 hk53 ax v2 v3 v4 v5 v6 v8 v9 v10 w0 h H locs ls hP hD hS hl
    refine lv_istore (lv' := [(12, .int (iI w0)), (0, .ref a_ag), (1, .ref a_ae), (2, .int (iI v2)), (3, .int (iI v3)), (4, .int (iI v4)), (5, .int (iI v5)), (6, .int (iI v6)), (7, .ref a_ax), (8, .int (iI v8)), (9, .int (iI v9)), (10, .int (iI v10))]) hx hb dL_row_92 hl (by decide) rfl (fun ls hl => ?_)
    refine lv_iload hx hb dL_row_94 (lv_at hl 5 rfl) ?_
    refine i_if_eq (tgt := 116) hx hb h.1 dL_row_96 (by decide) (fun c1 => ?_) (fun c1 => ?_)
    · have h := h.2.1 c1
      refine lv_iconst (v := iI 0) hx hb dL_row_116 rfl ?_
      exact B117 k53 hk53 ax v2 v3 v4 v5 v6 v8 v9 v10 w0 0 h _ _ _ hP hD hS (lv_sub hl [1, 2, 3, 4, 5, 6, 7, 8, 9, 10, 11, 0] rfl)
    · have h := h.2.2 c1
      refine lv_aload_n hx hb dL_row_99 rfl (lv_at hl 1 rfl) ?_
      refine lv_aload_n hx hb dL_row_100 rfl (lv_at hl 2 rfl) ?_
      refine lv_iconst (v := iI 5) hx hb dL_row_101 rfl ?_
      refine lv_iload_n hx hb dL_row_102 rfl (lv_at hl 3 rfl) ?_
      refine i_mul hx hb dL_row_103 ?_
      refine lv_iconst (v := iI 2) hx hb dL_row_104 rfl ?_
      refine i_add hx hb dL_row_105 ?_
      refine i_ald hx hb hK hP 1 0 rfl rfl h.1 h.2.1 rfl (Nat.le_of_ble_eq_true rfl) dL_row_106 ?_
      have h := h.2.2
      refine lv_aload_n hx hb dL_row_107 rfl (lv_at hl 1 rfl) ?_
      refine lv_iconst (v := iI 2) hx hb dL_row_108 rfl ?_
      refine i_ald hx hb hK hP 0 0 rfl rfl (by decide) (by decide) rfl (Nat.le_of_ble_eq_true rfl) dL_row_109 ?_
      refine e_i (isC := [0]) (isR := [1, 2]) (wr := [(a_ae, eI X 50 ae), (a_ax, eI X 60 ax)]) (va_runS (As := [.ref a_ag, .int (iI (ae ((5 * v2) + 2).toNat)), .int (iI (ag 2))]) (rest := []) ⟨hx, hb, hml, hown, hts⟩ (kL_hang l X a_ag ag (ae ((5 * v2) + 2).toNat) (ag 2) _ h _) (va_cwS 3 hts gL_row_L_hang rfl rfl rfl (by decide +kernel) ⟨(Nat.le_of_ble_eq_true rfl), (Nat.le_of_ble_eq_true rfl)⟩) ⟨pre_blind, pre_cut hE hK hA hP hD hS (isC := [0]) rfl (by decide +kernel)⟩ rfl rfl hl.1 rfl (lv_room (Nat.le_of_ble_eq_true rfl)) dL_row_110 ⟨(Nat.le_of_ble_eq_true rfl), (Nat.le_of_ble_eq_true rfl)⟩) hA hP hD hS rfl rfl (by decide +kernel) (by decide +kernel) (fun z2 u2 H locs h hP hD hS => ?_)
      have hP : va_P X.1 vwCl [(a_ae, eI X 50 ae), (a_ax, eI X 60 ax), (a_ag, eI X 15 ag)] H := hP
      have hD : va_D A [(a_ae, eI X 50 ae), (a_ax, eI X 60 ax), (a_ag, eI X 15 ag)] := hD
      refine lv_goto (tgt := 117) hx hb dL_row_113 (by decide) ?_
      have hP := hP.sub (ws' := [(a_ag, eI X 15 ag), (a_ae, eI X 50 ae), (a_ax, eI X 60 ax)]) [2, 0, 1] rfl
      have hD := hD.sub (ws' := [(a_ag, eI X 15 ag), (a_ae, eI X 50 ae), (a_ax, eI X 60 ax)]) [2, 0, 1] (by decide +kernel) rfl
      exact B117 k53 hk53 ax v2 v3 v4 v5 v6 v8 v9 v10 w0 z2 h _ _ _ hP hD hS (lv_sub hl [1, 2, 3, 4, 5, 6, 7, 8, 9, 10, 11, 0] rfl)
  have B53 : ∀ (n : Nat) (ax : Nat → Int) (v2 : Int) (v3 : Int) (v4 : Int) (v5 : Int) (v6 : Int) (v8 : Int) (v9 : Int) (v10 : Int) (v11 : Int) (v12 : Int) (v13 : Int), wpL_row_53 ag ae post n ax v2 v3 v4 v5 v6 v8 v9 v10 v11 v12 v13 → ∀ (H : Heap) (locs : List Loc) (ls : Array Slot), va_P X.1 vwCl [(a_ag, eI X 15 ag), (a_ae, eI X 50 ae), (a_ax, eI X 60 ax)] H → va_D A [(a_ag, eI X 15 ag), (a_ae, eI X 50 ae), (a_ax, eI X 60 ax)] → va_S A s.heap H locs → lv_has ls 15 [(0, .ref a_ag), (1, .ref a_ae), (2, .int (iI v2)), (3, .int (iI v3)), (4, .int (iI v4)), (5, .int (iI v5)), (6, .int (iI v6)), (7, .ref a_ax), (8, .int (iI v8)), (9, .int (iI v9)), (10, .int (iI v10)), (11, .int (iI v11)), (12, .int (iI v12)), (13, .int (iI v13))] → W p l e rmL_row s m args below meth c H locs 0 0 Q (F0 m 53 ls []) := by
    intro  n
    induction n with
    | zero => intro ax v2 v3 v4 v5 v6 v8 v9 v10 v11 v12 v13 h; exact h.elim
    | succ n ih =>
      intro ax v2 v3 v4 v5 v6 v8 v9 v10 v11 v12 v13 h H locs ls hP hD hS hl
      refine lv_iload hx hb dL_row_53 (lv_at hl 10 rfl) ?_
      refine lv_iconst (v := iI 1) hx hb dL_row_55 rfl ?_
      refine i_cmp_le (tgt := 191) hx hb h.1 (inR_lit rfl) dL_row_56 (by decide) (fun c1 => ?_) (fun c1 => ?_)
      · have h := h.2.1 c1
        exact B191  ax v2 v8 v9 v10 v11 v12 v13 h _ _ _ hP hD hS (lv_sub hl [2, 7, 8, 9, 10, 11, 12, 13] rfl)
      · have h := h.2.2 c1
        refine lv_iload hx hb dL_row_59 (lv_at hl 11 rfl) ?_
        refine i_if_ne (tgt := 191) hx hb h.1 dL_row_61 (by decide) (fun c2 => ?_) (fun c2 => ?_)
        · have h := h.2.1 c2
          exact B191  ax v2 v8 v9 v10 v11 v12 v13 h _ _ _ hP hD hS (lv_sub hl [2, 7, 8, 9, 10, 11, 12, 13] rfl)
        · have h := h.2.2 c2
          refine lv_iinc (v := iI (v10 + (-1))) (lv' := [(10, .int (iI (v10 + (-1)))), (0, .ref a_ag), (1, .ref a_ae), (2, .int (iI v2)), (3, .int (iI v3)), (4, .int (iI v4)), (5, .int (iI v5)), (6, .int (iI v6)), (7, .ref a_ax), (8, .int (iI v8)), (9, .int (iI v9)), (11, .int (iI v11)), (12, .int (iI v12)), (13, .int (iI v13))]) hx hb dL_row_64 hl (k := 10) rfl (iI_add _ _) (by decide) rfl (fun ls hl => ?_)
          refine lv_aload_n hx hb dL_row_67 rfl (lv_at hl 2 rfl) ?_
          refine lv_iload_n hx hb dL_row_68 rfl (lv_at hl 3 rfl) ?_
          refine lv_iload hx hb dL_row_69 (lv_at hl 0 rfl) ?_
          refine e_i (isC := [1]) (isR := [0, 2]) (wr := [(a_ag, eI X 15 ag), (a_ax, eI X 60 ax)]) (va_runS (As := [.ref a_ae, .int (iI v2), .int (iI (v10 + (-1)))]) (rest := []) ⟨hx, hb, hml, hown, hts⟩ (kL_natural l X a_ae ae v2 (v10 + (-1)) _ h _) (va_cwS 3 hts gL_row_L_natural rfl rfl rfl (by decide +kernel) ⟨(Nat.le_of_ble_eq_true rfl), (Nat.le_of_ble_eq_true rfl)⟩) ⟨pre_blind, pre_cut hE hK hA hP hD hS (isC := [1]) rfl (by decide +kernel)⟩ rfl rfl hl.1 rfl (lv_room (Nat.le_of_ble_eq_true rfl)) dL_row_71 ⟨(Nat.le_of_ble_eq_true rfl), (Nat.le_of_ble_eq_true rfl)⟩) hA hP hD hS rfl rfl (by decide +kernel) (by decide +kernel) (fun z3 u3 H locs h hP hD hS => ?_)
          have hP : va_P X.1 vwCl [(a_ag, eI X 15 ag), (a_ax, eI X 60 ax), (a_ae, eI X 50 ae)] H := hP
          have hD : va_D A [(a_ag, eI X 15 ag), (a_ax, eI X 60 ax), (a_ae, eI X 50 ae)] := hD
          refine lv_iload_n hx hb dL_row_74 rfl (lv_at hl 4 rfl) ?_
          refine i_sub hx hb dL_row_75 ?_
          refine lv_iload hx hb dL_row_76 (lv_at hl 10 rfl) ?_
          refine i_add hx hb dL_row_78 ?_
          refine lv_istore (lv' := [(12, .int (iI ((z3 - v3) + v9))), (10, .int (iI (v10 + (-1)))), (0, .ref a_ag), (1, .ref a_ae), (2, .int (iI v2)), (3, .int (iI v3)), (4, .int (iI v4)), (5, .int (iI v5)), (6, .int (iI v6)), (7, .ref a_ax), (8, .int (iI v8)), (9, .int (iI v9)), (11, .int (iI v11)), (13, .int (iI v13))]) hx hb dL_row_79 hl (by decide) rfl (fun ls hl => ?_)
          refine lv_iload hx hb dL_row_81 (lv_at hl 0 rfl) ?_
          refine i_if_ge (tgt := 90) hx hb h.1 dL_row_83 (by decide) (fun c4 => ?_) (fun c4 => ?_)
          · have h := h.2.1 c4
            refine lv_iload hx hb dL_row_90 (lv_at hl 0 rfl) ?_
            have hP := hP.sub (ws' := [(a_ag, eI X 15 ag), (a_ae, eI X 50 ae), (a_ax, eI X 60 ax)]) [0, 2, 1] rfl
            have hD := hD.sub (ws' := [(a_ag, eI X 15 ag), (a_ae, eI X 50 ae), (a_ax, eI X 60 ax)]) [0, 2, 1] (by decide +kernel) rfl
            exact B92 (wpL_row_53 ag ae post n) ih ax v2 v3 v4 v5 v6 v8 v9 (v10 + (-1)) ((z3 - v3) + v9) h _ _ _ hP hD hS (lv_sub hl [2, 3, 4, 5, 6, 7, 8, 9, 10, 11, 1] rfl)
          · have h := h.2.2 c4
            refine lv_iconst (v := iI 0) hx hb dL_row_86 rfl ?_
            refine lv_goto (tgt := 92) hx hb dL_row_87 (by decide) ?_
            have hP := hP.sub (ws' := [(a_ag, eI X 15 ag), (a_ae, eI X 50 ae), (a_ax, eI X 60 ax)]) [0, 2, 1] rfl
            have hD := hD.sub (ws' := [(a_ag, eI X 15 ag), (a_ae, eI X 50 ae), (a_ax, eI X 60 ax)]) [0, 2, 1] (by decide +kernel) rfl
            exact B92 (wpL_row_53 ag ae post n) ih ax v2 v3 v4 v5 v6 v8 v9 (v10 + (-1)) 0 h _ _ _ hP hD hS (lv_sub hl [2, 3, 4, 5, 6, 7, 8, 9, 10, 11, 1] rfl)
  have B21 : ∀ (n : Nat) (ax : Nat → Int) (v2 : Int) (v3 : Int) (v4 : Int) (v5 : Int) (v6 : Int) (v8 : Int) (v9 : Int) (v10 : Int), wpL_row_21 ag ae post n ax v2 v3 v4 v5 v6 v8 v9 v10 → ∀ (H : Heap) (locs : List Loc) (ls : Array Slot), va_P X.1 vwCl [(a_ag, eI X 15 ag), (a_ae, eI X 50 ae), (a_ax, eI X 60 ax)] H → va_D A [(a_ag, eI X 15 ag), (a_ae, eI X 50 ae), (a_ax, eI X 60 ax)] → va_S A s.heap H locs → lv_has ls 15 [(0, .ref a_ag), (1, .ref a_ae), (2, .int (iI v2)), (3, .int (iI v3)), (4, .int (iI v4)), (5, .int (iI v5)), (6, .int (iI v6)), (7, .ref a_ax), (8, .int (iI v8)), (9, .int (iI v9)), (10, .int (iI v10))] → W p l e rmL_row s m args below meth c H locs 0 0 Q (F0 m 21 ls []) := by
    intro  n
    induction n with
    | zero => intro ax v2 v3 v4 v5 v6 v8 v9 v10 h; exact h.elim
    | succ n ih =>
      intro ax v2 v3 v4 v5 v6 v8 v9 v10 h H locs ls hP hD hS hl
      refine lv_aload_n hx hb dL_row_21 rfl (lv_at hl 0 rfl) ?_
      refine lv_aload_n hx hb dL_row_22 rfl (lv_at hl 1 rfl) ?_
      refine lv_iload_n hx hb dL_row_23 rfl (lv_at hl 2 rfl) ?_
      refine lv_iload hx hb dL_row_24 (lv_at hl 10 rfl) ?_
      refine i_add hx hb dL_row_26 ?_
      refine lv_iconst (v := iI 1) hx hb dL_row_27 rfl ?_
      refine i_sub hx hb dL_row_28 ?_
      refine e_i (isC := [0, 1]) (isR := [2]) (wr := [(a_ax, eI X 60 ax)]) (va_runS (As := [.ref a_ag, .ref a_ae, .int (iI ((v2 + v10) - 1))]) (rest := []) ⟨hx, hb, hml, hown, hts⟩ (kL_closes l X a_ag a_ae ag ae ((v2 + v10) - 1) _ h _) (va_cwS 3 hts gL_row_L_closes rfl rfl rfl (by decide +kernel) ⟨(Nat.le_of_ble_eq_true rfl), (Nat.le_of_ble_eq_true rfl)⟩) ⟨pre_blind, pre_cut hE hK hA hP hD hS (isC := [0, 1]) rfl (by decide +kernel)⟩ rfl rfl hl.1 rfl (lv_room (Nat.le_of_ble_eq_true rfl)) dL_row_29 ⟨(Nat.le_of_ble_eq_true rfl), (Nat.le_of_ble_eq_true rfl)⟩) hA hP hD hS rfl rfl (by decide +kernel) (by decide +kernel) (fun z1 u1 H locs h hP hD hS => ?_)
      have hP : va_P X.1 vwCl [(a_ax, eI X 60 ax), (a_ag, eI X 15 ag), (a_ae, eI X 50 ae)] H := hP
      have hD : va_D A [(a_ax, eI X 60 ax), (a_ag, eI X 15 ag), (a_ae, eI X 50 ae)] := hD
      refine i_if_ne (tgt := 41) hx hb h.1 dL_row_32 (by decide) (fun c2 => ?_) (fun c2 => ?_)
      · have h := h.2.1 c2
        refine lv_iconst (v := iI 0) hx hb dL_row_41 rfl ?_
        refine lv_istore (lv' := [(11, .int (iI 0)), (0, .ref a_ag), (1, .ref a_ae), (2, .int (iI v2)), (3, .int (iI v3)), (4, .int (iI v4)), (5, .int (iI v5)), (6, .int (iI v6)), (7, .ref a_ax), (8, .int (iI v8)), (9, .int (iI v9)), (10, .int (iI v10))]) hx hb dL_row_42 hl (by decide) rfl (fun ls hl => ?_)
        refine lv_iconst (v := iI 0) hx hb dL_row_44 rfl ?_
        refine lv_istore (lv' := [(12, .int (iI 0)), (11, .int (iI 0)), (0, .ref a_ag), (1, .ref a_ae), (2, .int (iI v2)), (3, .int (iI v3)), (4, .int (iI v4)), (5, .int (iI v5)), (6, .int (iI v6)), (7, .ref a_ax), (8, .int (iI v8)), (9, .int (iI v9)), (10, .int (iI v10))]) hx hb dL_row_45 hl (by decide) rfl (fun ls hl => ?_)
        refine lv_iconst (v := iI 0) hx hb dL_row_47 rfl ?_
        refine lv_istore (lv' := [(13, .int (iI 0)), (12, .int (iI 0)), (11, .int (iI 0)), (0, .ref a_ag), (1, .ref a_ae), (2, .int (iI v2)), (3, .int (iI v3)), (4, .int (iI v4)), (5, .int (iI v5)), (6, .int (iI v6)), (7, .ref a_ax), (8, .int (iI v8)), (9, .int (iI v9)), (10, .int (iI v10))]) hx hb dL_row_48 hl (by decide) rfl (fun ls hl => ?_)
        refine lv_iinc (v := iI (v10 + 1)) (lv' := [(10, .int (iI (v10 + 1))), (13, .int (iI 0)), (12, .int (iI 0)), (11, .int (iI 0)), (0, .ref a_ag), (1, .ref a_ae), (2, .int (iI v2)), (3, .int (iI v3)), (4, .int (iI v4)), (5, .int (iI v5)), (6, .int (iI v6)), (7, .ref a_ax), (8, .int (iI v8)), (9, .int (iI v9))]) hx hb dL_row_50 hl (k := 13) rfl (iI_add _ _) (by decide) rfl (fun ls hl => ?_)
        have hP := hP.sub (ws' := [(a_ag, eI X 15 ag), (a_ae, eI X 50 ae), (a_ax, eI X 60 ax)]) [1, 2, 0] rfl
        have hD := hD.sub (ws' := [(a_ag, eI X 15 ag), (a_ae, eI X 50 ae), (a_ax, eI X 60 ax)]) [1, 2, 0] (by decide +kernel) rfl
        obtain ⟨n3, h⟩ := h
        exact B53  n3 ax v2 v3 v4 v5 v6 v8 v9 (v10 + 1) 0 0 0 h _ _ _ hP hD hS (lv_sub hl [4, 5, 6, 7, 8, 9, 10, 11, 12, 13, 0, 3, 2, 1] rfl)
      · have h := h.2.2 c2
        refine lv_iinc (v := iI (v10 + 1)) (lv' := [(10, .int (iI (v10 + 1))), (0, .ref a_ag), (1, .ref a_ae), (2, .int (iI v2)), (3, .int (iI v3)), (4, .int (iI v4)), (5, .int (iI v5)), (6, .int (iI v6)), (7, .ref a_ax), (8, .int (iI v8)), (9, .int (iI v9))]) hx hb dL_row_35 hl (k := 10) rfl (iI_add _ _) (by decide) rfl (fun ls hl => ?_)
        refine lv_goto (tgt := 21) hx hb dL_row_38 (by decide) ?_
        have hP := hP.sub (ws' := [(a_ag, eI X 15 ag), (a_ae, eI X 50 ae), (a_ax, eI X 60 ax)]) [1, 2, 0] rfl
        have hD := hD.sub (ws' := [(a_ag, eI X 15 ag), (a_ae, eI X 50 ae), (a_ax, eI X 60 ax)]) [1, 2, 0] (by decide +kernel) rfl
        exact ih ax v2 v3 v4 v5 v6 v8 v9 (v10 + 1) h _ _ _ hP hD hS (lv_sub hl [1, 2, 3, 4, 5, 6, 7, 8, 9, 10, 0] rfl)
  have B16 : ∀ (ax : Nat → Int) (v2 : Int) (v3 : Int) (v4 : Int) (v5 : Int) (v6 : Int) (v8 : Int) (w0 : Int), wpL_row_16 ag ae post ax v2 v3 v4 v5 v6 v8 w0 → ∀ (H : Heap) (locs : List Loc) (ls : Array Slot), va_P X.1 vwCl [(a_ag, eI X 15 ag), (a_ae, eI X 50 ae), (a_ax, eI X 60 ax)] H → va_D A [(a_ag, eI X 15 ag), (a_ae, eI X 50 ae), (a_ax, eI X 60 ax)] → va_S A s.heap H locs → lv_has ls 15 [(0, .ref a_ag), (1, .ref a_ae), (2, .int (iI v2)), (3, .int (iI v3)), (4, .int (iI v4)), (5, .int (iI v5)), (6, .int (iI v6)), (7, .ref a_ax), (8, .int (iI v8))] → W p l e rmL_row s m args below meth c H locs 0 0 Q (F0 m 16 ls [.int (iI w0)]) := by
    intro  ax v2 v3 v4 v5 v6 v8 w0 h H locs ls hP hD hS hl
    refine lv_istore (lv' := [(9, .int (iI w0)), (0, .ref a_ag), (1, .ref a_ae), (2, .int (iI v2)), (3, .int (iI v3)), (4, .int (iI v4)), (5, .int (iI v5)), (6, .int (iI v6)), (7, .ref a_ax), (8, .int (iI v8))]) hx hb dL_row_16 hl (by decide) rfl (fun ls hl => ?_)
    refine lv_iconst (v := iI 1) hx hb dL_row_18 rfl ?_
    refine lv_istore (lv' := [(10, .int (iI 1)), (9, .int (iI w0)), (0, .ref a_ag), (1, .ref a_ae), (2, .int (iI v2)), (3, .int (iI v3)), (4, .int (iI v4)), (5, .int (iI v5)), (6, .int (iI v6)), (7, .ref a_ax), (8, .int (iI v8))]) hx hb dL_row_19 hl (by decide) rfl (fun ls hl => ?_)
    obtain ⟨n1, h⟩ := h
    exact B21  n1 ax v2 v3 v4 v5 v6 v8 w0 1 h _ _ _ hP hD hS (lv_sub hl [2, 3, 4, 5, 6, 7, 8, 9, 10, 1, 0] rfl)
  refine lv_iload hx hb dL_row_0 (lv_at hl 5 rfl) ?_
  refine lv_aload_n hx hb dL_row_2 rfl (lv_at hl 0 rfl) ?_
  refine lv_iconst (v := iI 4) hx hb dL_row_3 rfl ?_
  refine i_ald hx hb hK hP 0 0 rfl rfl (by decide) (by decide) rfl (Nat.le_of_ble_eq_true rfl) dL_row_4 ?_
  refine i_cmp_le (tgt := 14) hx hb h.1 h.2.1 dL_row_5 (by decide) (fun c1 => ?_) (fun c1 => ?_)
  · have h := h.2.2.1 c1
    refine lv_iload hx hb dL_row_14 (lv_at hl 5 rfl) ?_
    exact B16  ax p2 p3 p4 p5 p6 p8 p5 h _ _ _ hP hD hS (lv_sub hl [0, 1, 2, 3, 4, 5, 6, 7, 8] rfl)
  · have h := h.2.2.2 c1
    refine lv_aload_n hx hb dL_row_8 rfl (lv_at hl 0 rfl) ?_
    refine lv_iconst (v := iI 4) hx hb dL_row_9 rfl ?_
    refine i_ald hx hb hK hP 0 0 rfl rfl (by decide) (by decide) rfl (Nat.le_of_ble_eq_true rfl) dL_row_10 ?_
    refine lv_goto (tgt := 16) hx hb dL_row_11 (by decide) ?_
    exact B16  ax p2 p3 p4 p5 p6 p8 (ag 4) h _ _ _ hP hD hS (lv_sub hl [0, 1, 2, 3, 4, 5, 6, 7, 8] rfl)
