abbrev rmL_acts : Room := { frames := 9, cells := 5, slots := 30, locals := 202 }
set_option maxHeartbeats 4000000 in
set_option maxRecDepth 100000 in
theorem kL_acts (l : Launch) (hst : l.stackTraces = false) (X : XD) (a_ag a_ae : Nat) (ad : Nat → Nat) (ag : Nat → Int) (ae : Nat → Int) (sg : OS) (p3 : Int) (post : Int → (Nat → Int) → (Nat → Int) → OS → Prop) (h : wpL_acts ag ae sg p3 post) : MCi l yL_acts wsL_acts rmL_acts X [.ref (ad 0), .ref a_ag, .ref a_ae, .int (iI p3)] ([(a_ag, eI X 15 ag), (a_ae, eI X 50 ae)] ++ wo X ad sg) (S := (Nat → Int) × (Nat → Int) × OS) (fun u => ([(a_ag, eI X 15 u.1), (a_ae, eI X 50 u.2.1)] ++ wo X ad u.2.2)) (fun z u => post z u.1 u.2.1 u.2.2) 5 30 := by
  refine MCz.of (cc := cL_acts) (maxL := 16) (by decide +kernel) rfl rfl ?_
  intro p e s m args below meth c A ls Q hE0 hP hD hS hl hend
  obtain ⟨hx, hb, hr, hml, hlocks, hown, hts, hK, hE, hA, hnm⟩ := hE0
  have hl : lv_has ls 16 [(0, .ref (ad 0)), (1, .ref a_ag), (2, .ref a_ae), (3, .int (iI p3))] := hl
  have B241 : ∀ (ag : Nat → Int) (ae : Nat → Int) (sg : OS) (v9 : Int) (w0 : Int), wpL_acts_241 post ag ae sg v9 w0 → ∀ (H : Heap) (locs : List Loc) (ls : Array Slot), va_P X.1 vwCl ([(a_ag, eI X 15 ag), (a_ae, eI X 50 ae)] ++ wo X ad sg) H → va_D A ([(a_ag, eI X 15 ag), (a_ae, eI X 50 ae)] ++ wo X ad sg) → va_S A s.heap H locs → lv_has ls 16 [(0, .ref (ad 0)), (1, .ref a_ag), (9, .int (iI v9))] → W p l e rmL_acts s m args below meth c H locs 0 0 Q (F0 m 241 ls [.int (iI w0)]) := by
    intro  ag ae sg v9 w0 h H locs ls hP hD hS hl
    refine lv_istore (lv' := [(10, .int (iI w0)), (0, .ref (ad 0)), (1, .ref a_ag), (9, .int (iI v9))]) hx hb dL_acts_241 hl (by decide) rfl (fun ls hl => ?_)
    refine lv_aload_n hx hb dL_acts_243 rfl (lv_at hl 2 rfl) ?_
    refine lv_iload hx hb dL_acts_244 (lv_at hl 3 rfl) ?_
    refine i_ald hx hb hK hP 0 0 rfl rfl h.1 h.2.1 rfl (Nat.le_of_ble_eq_true rfl) dL_acts_246 ?_
    have h := h.2.2
    refine lv_istore (lv' := [(11, .int (iI (ag (v9).toNat))), (10, .int (iI w0)), (0, .ref (ad 0)), (1, .ref a_ag), (9, .int (iI v9))]) hx hb dL_acts_247 hl (by decide) rfl (fun ls hl => ?_)
    refine lv_aload_n hx hb dL_acts_249 rfl (lv_at hl 3 rfl) ?_
    refine lv_iload hx hb dL_acts_250 (lv_at hl 4 rfl) ?_
    refine lv_iload hx hb dL_acts_252 (lv_at hl 1 rfl) ?_
    refine i_ast hx hb hK hP hD hS 0 0 rfl rfl h.1 h.2.1 rfl (Nat.le_of_ble_eq_true rfl) dL_acts_254 (fun H locs hP hD hS => ?_)
    have hP : va_P X.1 vwCl ([(a_ag, eI X 15 (updI ag (v9).toNat w0)), (a_ae, eI X 50 ae)] ++ wo X ad sg) H := hP
    have hD : va_D A ([(a_ag, eI X 15 (updI ag (v9).toNat w0)), (a_ae, eI X 50 ae)] ++ wo X ad sg) := hD
    have h := h.2.2
    refine lv_aload_n hx hb dL_acts_255 rfl (lv_at hl 2 rfl) ?_
    refine lv_iload hx hb dL_acts_256 (lv_at hl 4 rfl) ?_
    refine lv_iload hx hb dL_acts_258 (lv_at hl 1 rfl) ?_
    refine t_i (xs := [(a_ag, eI X 15 (updI ag (v9).toNat w0)), (a_ae, eI X 50 ae)]) (isR := [0, 1]) (vx_runSW (As := [.ref (ad 0), .int (iI v9), .int (iI w0)]) (rest := []) ⟨hx, hb, hml, hown, hts⟩ (kL_sets l hst X ad sg v9 w0 _ h _) (vx_cwSW 3 hts gL_acts_L_sets rfl rfl rfl (by decide +kernel) ⟨(Nat.le_of_ble_eq_true rfl), (Nat.le_of_ble_eq_true rfl)⟩) ⟨pre_blind, pre_cutP hE hK hA hP hD hS⟩ rfl rfl hl.1 rfl (lv_room (Nat.le_of_ble_eq_true rfl)) dL_acts_260 ⟨(Nat.le_of_ble_eq_true rfl), (Nat.le_of_ble_eq_true rfl)⟩) hA hP hD hS rfl (by decide +kernel) (fun z2 sg_2 H locs h hP hD hS => ?_)
    have hP : va_P X.1 vwCl ([(a_ag, eI X 15 (updI ag (v9).toNat w0)), (a_ae, eI X 50 ae)] ++ wo X ad sg_2) H := hP
    have hD : va_D A ([(a_ag, eI X 15 (updI ag (v9).toNat w0)), (a_ae, eI X 50 ae)] ++ wo X ad sg_2) := hD
    refine lv_iload hx hb dL_acts_263 (lv_at hl 0 rfl) ?_
    refine i_cmp_ne (tgt := 272) hx hb h.1 h.2.1 dL_acts_265 (by decide) (fun c3 => ?_) (fun c3 => ?_)
    · have h := h.2.2.1 c3
      refine lv_iconst (v := iI 0) hx hb dL_acts_272 rfl ?_
      exact hend _ _ _ _ _ _ 0 ((updI ag (v9).toNat w0), ae, sg_2) hP hD hS (Or.inl rfl) h (Nat.le_of_ble_eq_true rfl) (Nat.le_of_ble_eq_true rfl) dL_acts_273
    · have h := h.2.2.2 c3
      refine lv_iconst (v := iI 1) hx hb dL_acts_268 rfl ?_
      refine lv_goto (tgt := 273) hx hb dL_acts_269 (by decide) ?_
      exact hend _ _ _ _ _ _ 1 ((updI ag (v9).toNat w0), ae, sg_2) hP hD hS (Or.inr rfl) h (Nat.le_of_ble_eq_true rfl) (Nat.le_of_ble_eq_true rfl) dL_acts_273
  have B182 : ∀ (ag : Nat → Int) (ae : Nat → Int) (sg : OS) (v9 : Int) (w0 : Int) (w1 : Int) (w2 : Int), wpL_acts_182 post ag ae sg v9 w0 w1 w2 → ∀ (H : Heap) (locs : List Loc) (ls : Array Slot), va_P X.1 vwCl ([(a_ag, eI X 15 ag), (a_ae, eI X 50 ae)] ++ wo X ad sg) H → va_D A ([(a_ag, eI X 15 ag), (a_ae, eI X 50 ae)] ++ wo X ad sg) → va_S A s.heap H locs → lv_has ls 16 [(0, .ref (ad 0)), (1, .ref a_ag), (9, .int (iI v9))] → W p l e rmL_acts s m args below meth c H locs 0 0 Q (F0 m 182 ls [.int (iI w0), .int (iI w1), .int (iI w2)]) := by
    intro  ag ae sg v9 w0 w1 w2 h H locs ls hP hD hS hl
    refine i_rem hx hb h.1 h.2.1 h.2.2.1 h.2.2.2.1 dL_acts_182 ?_
    have h := h.2.2.2.2
    refine i_add hx hb dL_acts_183 ?_
    refine lv_goto (tgt := 241) hx hb dL_acts_184 (by decide) ?_
    refine W.widen (k := 0) (n := 0) (Nat.le_of_ble_eq_true rfl) (Nat.le_of_ble_eq_true rfl) ?_
    exact B241  ag ae sg v9 (w2 + (w1 % w0)) h _ _ _ hP hD hS (lv_sub hl [0, 1, 2] rfl)
  have B212 : ∀ (ag : Nat → Int) (ae : Nat → Int) (sg : OS) (v9 : Int) (w0 : Int) (w1 : Int) (w2 : Int), wpL_acts_212 post ag ae sg v9 w0 w1 w2 → ∀ (H : Heap) (locs : List Loc) (ls : Array Slot), va_P X.1 vwCl ([(a_ag, eI X 15 ag), (a_ae, eI X 50 ae)] ++ wo X ad sg) H → va_D A ([(a_ag, eI X 15 ag), (a_ae, eI X 50 ae)] ++ wo X ad sg) → va_S A s.heap H locs → lv_has ls 16 [(0, .ref (ad 0)), (1, .ref a_ag), (9, .int (iI v9))] → W p l e rmL_acts s m args below meth c H locs 0 0 Q (F0 m 212 ls [.int (iI w0), .int (iI w1), .int (iI w2)]) := by
    intro  ag ae sg v9 w0 w1 w2 h H locs ls hP hD hS hl
    refine i_rem hx hb h.1 h.2.1 h.2.2.1 h.2.2.2.1 dL_acts_212 ?_
    have h := h.2.2.2.2
    refine i_add hx hb dL_acts_213 ?_
    refine lv_goto (tgt := 241) hx hb dL_acts_214 (by decide) ?_
    refine W.widen (k := 0) (n := 0) (Nat.le_of_ble_eq_true rfl) (Nat.le_of_ble_eq_true rfl) ?_
    exact B241  ag ae sg v9 (w2 + (w1 % w0)) h _ _ _ hP hD hS (lv_sub hl [0, 1, 2] rfl)
  have B148 : ∀ (ag : Nat → Int) (ae : Nat → Int) (sg : OS) (v4 : Int), wpL_acts_148 post ag ae sg v4 → ∀ (H : Heap) (locs : List Loc) (ls : Array Slot), va_P X.1 vwCl ([(a_ag, eI X 15 ag), (a_ae, eI X 50 ae)] ++ wo X ad sg) H → va_D A ([(a_ag, eI X 15 ag), (a_ae, eI X 50 ae)] ++ wo X ad sg) → va_S A s.heap H locs → lv_has ls 16 [(0, .ref (ad 0)), (1, .ref a_ag), (4, .int (iI v4))] → W p l e rmL_acts s m args below meth c H locs 0 0 Q (F0 m 148 ls []) := by
    intro  ag ae sg v4 h H locs ls hP hD hS hl
    refine lv_iload hx hb dL_acts_148 (lv_at hl 2 rfl) ?_
    refine lv_bipush (v := iI 6) hx hb dL_acts_150 (by decide +kernel) ?_
    refine i_rem hx hb h.1 h.2.1 (by decide) (by decide) dL_acts_152 ?_
    have h := h.2.2
    refine lv_istore (lv' := [(9, .int (iI (v4 % 6))), (0, .ref (ad 0)), (1, .ref a_ag), (4, .int (iI v4))]) hx hb dL_acts_153 hl (by decide) rfl (fun ls hl => ?_)
    refine lv_iload hx hb dL_acts_155 (lv_at hl 0 rfl) ?_
    refine i_if_ne (tgt := 187) hx hb h.1 dL_acts_157 (by decide) (fun c1 => ?_) (fun c1 => ?_)
    · have h := h.2.1 c1
      refine lv_iload hx hb dL_acts_187 (lv_at hl 0 rfl) ?_
      refine lv_iconst (v := iI 1) hx hb dL_acts_189 rfl ?_
      refine i_cmp_ne (tgt := 217) hx hb h.1 (inR_lit rfl) dL_acts_190 (by decide) (fun c2 => ?_) (fun c2 => ?_)
      · have h := h.2.1 c2
        refine lv_iload hx hb dL_acts_217 (lv_at hl 0 rfl) ?_
        refine lv_iconst (v := iI 5) hx hb dL_acts_219 rfl ?_
        refine i_cmp_ne (tgt := 233) hx hb h.1 (inR_lit rfl) dL_acts_220 (by decide) (fun c3 => ?_) (fun c3 => ?_)
        · have h := h.2.1 c3
          refine lv_iload hx hb dL_acts_233 (lv_at hl 3 rfl) ?_
          refine lv_bipush (v := iI 6) hx hb dL_acts_235 (by decide +kernel) ?_
          refine i_div hx hb h.1 h.2.1 (by decide) (by decide) dL_acts_237 ?_
          have h := h.2.2
          refine lv_bipush (v := iI 11) hx hb dL_acts_238 (by decide +kernel) ?_
          refine i_rem hx hb h.1 h.2.1 (by decide) (by decide) dL_acts_240 ?_
          have h := h.2.2
          refine W.widen (k := 0) (n := 0) (Nat.le_of_ble_eq_true rfl) (Nat.le_of_ble_eq_true rfl) ?_
          exact B241  ag ae sg (v4 % 6) ((v4 / 6) % 11) h _ _ _ hP hD hS (lv_sub hl [1, 2, 0] rfl)
        · have h := h.2.2 c3
          refine lv_iload hx hb dL_acts_223 (lv_at hl 3 rfl) ?_
          refine lv_bipush (v := iI 6) hx hb dL_acts_225 (by decide +kernel) ?_
          refine i_div hx hb h.1 h.2.1 (by decide) (by decide) dL_acts_227 ?_
          have h := h.2.2
          refine lv_iconst (v := iI 2) hx hb dL_acts_228 rfl ?_
          refine i_rem hx hb h.1 h.2.1 (by decide) (by decide) dL_acts_229 ?_
          have h := h.2.2
          refine lv_goto (tgt := 241) hx hb dL_acts_230 (by decide) ?_
          refine W.widen (k := 0) (n := 0) (Nat.le_of_ble_eq_true rfl) (Nat.le_of_ble_eq_true rfl) ?_
          exact B241  ag ae sg (v4 % 6) ((v4 / 6) % 2) h _ _ _ hP hD hS (lv_sub hl [1, 2, 0] rfl)
      · have h := h.2.2 c2
        refine lv_iconst (v := iI 2) hx hb dL_acts_193 rfl ?_
        refine lv_iload hx hb dL_acts_194 (lv_at hl 3 rfl) ?_
        refine lv_bipush (v := iI 6) hx hb dL_acts_196 (by decide +kernel) ?_
        refine i_div hx hb h.1 h.2.1 (by decide) (by decide) dL_acts_198 ?_
        have h := h.2.2
        refine lv_iload hx hb dL_acts_199 (lv_at hl 3 rfl) ?_
        refine lv_iconst (v := iI 5) hx hb dL_acts_201 rfl ?_
        refine i_rem hx hb h.1 h.2.1 (by decide) (by decide) dL_acts_202 ?_
        have h := h.2.2
        refine i_if_ne (tgt := 211) hx hb h.1 dL_acts_203 (by decide) (fun c4 => ?_) (fun c4 => ?_)
        · have h := h.2.1 c4
          refine lv_iconst (v := iI 3) hx hb dL_acts_211 rfl ?_
          refine W.widen (k := 0) (n := 0) (Nat.le_of_ble_eq_true rfl) (Nat.le_of_ble_eq_true rfl) ?_
          exact B212  ag ae sg (v4 % 6) 3 (v4 / 6) 2 h _ _ _ hP hD hS (lv_sub hl [1, 2, 0] rfl)
        · have h := h.2.2 c4
          refine lv_bipush (v := iI 19) hx hb dL_acts_206 (by decide +kernel) ?_
          refine lv_goto (tgt := 212) hx hb dL_acts_208 (by decide) ?_
          refine W.widen (k := 0) (n := 0) (Nat.le_of_ble_eq_true rfl) (Nat.le_of_ble_eq_true rfl) ?_
          exact B212  ag ae sg (v4 % 6) 19 (v4 / 6) 2 h _ _ _ hP hD hS (lv_sub hl [1, 2, 0] rfl)
    · have h := h.2.2 c1
      refine lv_bipush (v := iI 20) hx hb dL_acts_160 (by decide +kernel) ?_
      refine lv_iload hx hb dL_acts_162 (lv_at hl 3 rfl) ?_
      refine lv_bipush (v := iI 6) hx hb dL_acts_164 (by decide +kernel) ?_
      refine i_div hx hb h.1 h.2.1 (by decide) (by decide) dL_acts_166 ?_
      have h := h.2.2
      refine lv_iload hx hb dL_acts_167 (lv_at hl 3 rfl) ?_
      refine lv_iconst (v := iI 5) hx hb dL_acts_169 rfl ?_
      refine i_rem hx hb h.1 h.2.1 (by decide) (by decide) dL_acts_170 ?_
      have h := h.2.2
      refine i_if_ne (tgt := 180) hx hb h.1 dL_acts_171 (by decide) (fun c5 => ?_) (fun c5 => ?_)
      · have h := h.2.1 c5
        refine lv_bipush (v := iI 40) hx hb dL_acts_180 (by decide +kernel) ?_
        refine W.widen (k := 0) (n := 0) (Nat.le_of_ble_eq_true rfl) (Nat.le_of_ble_eq_true rfl) ?_
        exact B182  ag ae sg (v4 % 6) 40 (v4 / 6) 20 h _ _ _ hP hD hS (lv_sub hl [1, 2, 0] rfl)
      · have h := h.2.2 c5
        refine lv_sipush (v := iI 181) hx hb dL_acts_174 (by decide +kernel) ?_
        refine lv_goto (tgt := 182) hx hb dL_acts_177 (by decide) ?_
        refine W.widen (k := 0) (n := 0) (Nat.le_of_ble_eq_true rfl) (Nat.le_of_ble_eq_true rfl) ?_
        exact B182  ag ae sg (v4 % 6) 181 (v4 / 6) 20 h _ _ _ hP hD hS (lv_sub hl [1, 2, 0] rfl)
  have B401 : ∀ (ag : Nat → Int) (ae : Nat → Int) (sg : OS) (v13 : Int) (w0 : Int) (w1 : Int), wpL_acts_401 post ag ae sg v13 w0 w1 → ∀ (H : Heap) (locs : List Loc) (ls : Array Slot), va_P X.1 vwCl ([(a_ag, eI X 15 ag), (a_ae, eI X 50 ae)] ++ wo X ad sg) H → va_D A ([(a_ag, eI X 15 ag), (a_ae, eI X 50 ae)] ++ wo X ad sg) → va_S A s.heap H locs → lv_has ls 16 [(13, .int (iI v13))] → W p l e rmL_acts s m args below meth c H locs 0 0 Q (F0 m 401 ls [.int (iI w0), .int (iI w1), .ref (ad 0)]) := by
    intro  ag ae sg v13 w0 w1 h H locs ls hP hD hS hl
    refine t_i (xs := [(a_ag, eI X 15 ag), (a_ae, eI X 50 ae)]) (isR := [0, 1]) (vx_runSW (As := [.ref (ad 0), .int (iI w1), .int (iI w0)]) (rest := []) ⟨hx, hb, hml, hown, hts⟩ (kL_ends l hst X ad sg w1 w0 _ h _) (vx_cwSW 3 hts gL_acts_L_ends rfl rfl rfl (by decide +kernel) ⟨(Nat.le_of_ble_eq_true rfl), (Nat.le_of_ble_eq_true rfl)⟩) ⟨pre_blind, pre_cutP hE hK hA hP hD hS⟩ rfl rfl hl.1 rfl (lv_room (Nat.le_of_ble_eq_true rfl)) dL_acts_401 ⟨(Nat.le_of_ble_eq_true rfl), (Nat.le_of_ble_eq_true rfl)⟩) hA hP hD hS rfl (by decide +kernel) (fun z2 sg_2 H locs h hP hD hS => ?_)
    have hP : va_P X.1 vwCl ([(a_ag, eI X 15 ag), (a_ae, eI X 50 ae)] ++ wo X ad sg_2) H := hP
    have hD : va_D A ([(a_ag, eI X 15 ag), (a_ae, eI X 50 ae)] ++ wo X ad sg_2) := hD
    refine lv_iload hx hb dL_acts_404 (lv_at hl 0 rfl) ?_
    refine i_cmp_ne (tgt := 413) hx hb h.1 h.2.1 dL_acts_406 (by decide) (fun c3 => ?_) (fun c3 => ?_)
    · have h := h.2.2.1 c3
      refine lv_iconst (v := iI 0) hx hb dL_acts_413 rfl ?_
      exact hend _ _ _ _ _ _ 0 (ag, ae, sg_2) hP hD hS (Or.inl rfl) h (Nat.le_of_ble_eq_true rfl) (Nat.le_of_ble_eq_true rfl) dL_acts_414
    · have h := h.2.2.2 c3
      refine lv_iconst (v := iI 1) hx hb dL_acts_409 rfl ?_
      refine lv_goto (tgt := 414) hx hb dL_acts_410 (by decide) ?_
      exact hend _ _ _ _ _ _ 1 (ag, ae, sg_2) hP hD hS (Or.inr rfl) h (Nat.le_of_ble_eq_true rfl) (Nat.le_of_ble_eq_true rfl) dL_acts_414
  have B385 : ∀ (ag : Nat → Int) (ae : Nat → Int) (sg : OS) (v4 : Int) (v6 : Int) (v13 : Int) (w0 : Int) (w1 : Int), wpL_acts_385 post ag ae sg v4 v6 v13 w0 w1 → ∀ (H : Heap) (locs : List Loc) (ls : Array Slot), va_P X.1 vwCl ([(a_ag, eI X 15 ag), (a_ae, eI X 50 ae)] ++ wo X ad sg) H → va_D A ([(a_ag, eI X 15 ag), (a_ae, eI X 50 ae)] ++ wo X ad sg) → va_S A s.heap H locs → lv_has ls 16 [(0, .ref (ad 0)), (4, .int (iI v4)), (6, .int (iI v6)), (13, .int (iI v13))] → W p l e rmL_acts s m args below meth c H locs 0 0 Q (F0 m 385 ls [.int (iI w0), .int (iI w1), .ref a_ae]) := by
    intro  ag ae sg v4 v6 v13 w0 w1 h H locs ls hP hD hS hl
    refine i_ast hx hb hK hP hD hS 1 0 rfl rfl h.1 h.2.1 rfl (Nat.le_of_ble_eq_true rfl) dL_acts_385 (fun H locs hP hD hS => ?_)
    have hP : va_P X.1 vwCl ([(a_ag, eI X 15 ag), (a_ae, eI X 50 (updI ae (w1).toNat w0))] ++ wo X ad sg) H := hP
    have hD : va_D A ([(a_ag, eI X 15 ag), (a_ae, eI X 50 (updI ae (w1).toNat w0))] ++ wo X ad sg) := hD
    have h := h.2.2
    refine lv_aload_n hx hb dL_acts_386 rfl (lv_at hl 0 rfl) ?_
    refine lv_iload hx hb dL_acts_387 (lv_at hl 2 rfl) ?_
    refine lv_iload hx hb dL_acts_389 (lv_at hl 1 rfl) ?_
    refine lv_iconst (v := iI 3) hx hb dL_acts_391 rfl ?_
    refine i_rem hx hb h.1 h.2.1 (by decide) (by decide) dL_acts_392 ?_
    have h := h.2.2
    refine i_if_le (tgt := 400) hx hb h.1 dL_acts_393 (by decide) (fun c1 => ?_) (fun c1 => ?_)
    · have h := h.2.1 c1
      refine lv_iconst (v := iI 0) hx hb dL_acts_400 rfl ?_
      refine W.widen (k := 0) (n := 0) (Nat.le_of_ble_eq_true rfl) (Nat.le_of_ble_eq_true rfl) ?_
      exact B401  ag (updI ae (w1).toNat w0) sg v13 0 v6 h _ _ _ hP hD hS (lv_sub hl [3] rfl)
    · have h := h.2.2 c1
      refine lv_iconst (v := iI 1) hx hb dL_acts_396 rfl ?_
      refine lv_goto (tgt := 401) hx hb dL_acts_397 (by decide) ?_
      refine W.widen (k := 0) (n := 0) (Nat.le_of_ble_eq_true rfl) (Nat.le_of_ble_eq_true rfl) ?_
      exact B401  ag (updI ae (w1).toNat w0) sg v13 1 v6 h _ _ _ hP hD hS (lv_sub hl [3] rfl)
  have B334 : ∀ (ag : Nat → Int) (ae : Nat → Int) (sg : OS) (v4 : Int) (v5 : Int) (v6 : Int), wpL_acts_334 post ag ae sg v4 v5 v6 → ∀ (H : Heap) (locs : List Loc) (ls : Array Slot), va_P X.1 vwCl ([(a_ag, eI X 15 ag), (a_ae, eI X 50 ae)] ++ wo X ad sg) H → va_D A ([(a_ag, eI X 15 ag), (a_ae, eI X 50 ae)] ++ wo X ad sg) → va_S A s.heap H locs → lv_has ls 16 [(0, .ref (ad 0)), (2, .ref a_ae), (4, .int (iI v4)), (5, .int (iI v5)), (6, .int (iI v6))] → W p l e rmL_acts s m args below meth c H locs 0 0 Q (F0 m 334 ls []) := by
    intro  ag ae sg v4 v5 v6 h H locs ls hP hD hS hl
    refine lv_iload hx hb dL_acts_334 (lv_at hl 3 rfl) ?_
    refine i_if_ne (tgt := 356) hx hb h.1 dL_acts_336 (by decide) (fun c1 => ?_) (fun c1 => ?_)
    · have h := h.2.1 c1
      refine lv_aload_n hx hb dL_acts_356 rfl (lv_at hl 1 rfl) ?_
      refine lv_iconst (v := iI 5) hx hb dL_acts_357 rfl ?_
      refine lv_iload hx hb dL_acts_358 (lv_at hl 4 rfl) ?_
      refine i_mul hx hb dL_acts_360 ?_
      refine lv_iconst (v := iI 4) hx hb dL_acts_361 rfl ?_
      refine i_add hx hb dL_acts_362 ?_
      refine i_ald hx hb hK hP 1 0 rfl rfl h.1 h.2.1 rfl (Nat.le_of_ble_eq_true rfl) dL_acts_363 ?_
      have h := h.2.2
      refine lv_istore (lv' := [(13, .int (iI (ae ((5 * v6) + 4).toNat))), (0, .ref (ad 0)), (2, .ref a_ae), (4, .int (iI v4)), (5, .int (iI v5)), (6, .int (iI v6))]) hx hb dL_acts_364 hl (by decide) rfl (fun ls hl => ?_)
      refine lv_aload_n hx hb dL_acts_366 rfl (lv_at hl 2 rfl) ?_
      refine lv_iconst (v := iI 5) hx hb dL_acts_367 rfl ?_
      refine lv_iload hx hb dL_acts_368 (lv_at hl 5 rfl) ?_
      refine i_mul hx hb dL_acts_370 ?_
      refine lv_iconst (v := iI 4) hx hb dL_acts_371 rfl ?_
      refine i_add hx hb dL_acts_372 ?_
      refine lv_iload hx hb dL_acts_373 (lv_at hl 3 rfl) ?_
      refine lv_iconst (v := iI 3) hx hb dL_acts_375 rfl ?_
      refine i_rem hx hb h.1 h.2.1 (by decide) (by decide) dL_acts_376 ?_
      have h := h.2.2
      refine i_if_ne (tgt := 384) hx hb h.1 dL_acts_377 (by decide) (fun c2 => ?_) (fun c2 => ?_)
      · have h := h.2.1 c2
        refine lv_iconst (v := iI 1) hx hb dL_acts_384 rfl ?_
        refine W.widen (k := 0) (n := 0) (Nat.le_of_ble_eq_true rfl) (Nat.le_of_ble_eq_true rfl) ?_
        exact B385  ag ae sg v4 v6 (ae ((5 * v6) + 4).toNat) 1 ((5 * v6) + 4) h _ _ _ hP hD hS (lv_sub hl [1, 3, 5, 0] rfl)
      · have h := h.2.2 c2
        refine lv_iconst (v := iI 0) hx hb dL_acts_380 rfl ?_
        refine lv_goto (tgt := 385) hx hb dL_acts_381 (by decide) ?_
        refine W.widen (k := 0) (n := 0) (Nat.le_of_ble_eq_true rfl) (Nat.le_of_ble_eq_true rfl) ?_
        exact B385  ag ae sg v4 v6 (ae ((5 * v6) + 4).toNat) 0 ((5 * v6) + 4) h _ _ _ hP hD hS (lv_sub hl [1, 3, 5, 0] rfl)
    · have h := h.2.2 c1
      refine lv_aload_n hx hb dL_acts_339 rfl (lv_at hl 0 rfl) ?_
      refine lv_iconst (v := iI 0) hx hb dL_acts_340 rfl ?_
      refine lv_iconst (v := iI 1) hx hb dL_acts_341 rfl ?_
      refine t_i (xs := [(a_ag, eI X 15 ag), (a_ae, eI X 50 ae)]) (isR := [0, 1]) (vx_runSW (As := [.ref (ad 0), .int (iI 0), .int (iI 1)]) (rest := []) ⟨hx, hb, hml, hown, hts⟩ (kL_ends l hst X ad sg 0 1 _ h _) (vx_cwSW 3 hts gL_acts_L_ends rfl rfl rfl (by decide +kernel) ⟨(Nat.le_of_ble_eq_true rfl), (Nat.le_of_ble_eq_true rfl)⟩) ⟨pre_blind, pre_cutP hE hK hA hP hD hS⟩ rfl rfl hl.1 rfl (lv_room (Nat.le_of_ble_eq_true rfl)) dL_acts_342 ⟨(Nat.le_of_ble_eq_true rfl), (Nat.le_of_ble_eq_true rfl)⟩) hA hP hD hS rfl (by decide +kernel) (fun z4 sg_4 H locs h hP hD hS => ?_)
      have hP : va_P X.1 vwCl ([(a_ag, eI X 15 ag), (a_ae, eI X 50 ae)] ++ wo X ad sg_4) H := hP
      have hD : va_D A ([(a_ag, eI X 15 ag), (a_ae, eI X 50 ae)] ++ wo X ad sg_4) := hD
      refine lv_ldc (v := iI (-100001)) hx hb hown (hts (.constant RL 54 (-100001)) (by decide +kernel)) dL_acts_345 ?_
      refine i_cmp_ne (tgt := 354) hx hb h.1 (inR_lit rfl) dL_acts_347 (by decide) (fun c5 => ?_) (fun c5 => ?_)
      · have h := h.2.1 c5
        refine lv_iconst (v := iI 0) hx hb dL_acts_354 rfl ?_
        exact hend _ _ _ _ _ _ 0 (ag, ae, sg_4) hP hD hS (Or.inl rfl) h (Nat.le_of_ble_eq_true rfl) (Nat.le_of_ble_eq_true rfl) dL_acts_355
      · have h := h.2.2 c5
        refine lv_iconst (v := iI 1) hx hb dL_acts_350 rfl ?_
        refine lv_goto (tgt := 355) hx hb dL_acts_351 (by decide) ?_
        exact hend _ _ _ _ _ _ 1 (ag, ae, sg_4) hP hD hS (Or.inr rfl) h (Nat.le_of_ble_eq_true rfl) (Nat.le_of_ble_eq_true rfl) dL_acts_355
  have B415 : ∀ (ag : Nat → Int) (ae : Nat → Int) (sg : OS) (v5 : Int) (v6 : Int) (v7 : Int) (v8 : Int), wpL_acts_415 post ag ae sg v5 v6 v7 v8 → ∀ (H : Heap) (locs : List Loc) (ls : Array Slot), va_P X.1 vwCl ([(a_ag, eI X 15 ag), (a_ae, eI X 50 ae)] ++ wo X ad sg) H → va_D A ([(a_ag, eI X 15 ag), (a_ae, eI X 50 ae)] ++ wo X ad sg) → va_S A s.heap H locs → lv_has ls 16 [(0, .ref (ad 0)), (2, .ref a_ae), (5, .int (iI v5)), (6, .int (iI v6)), (7, .int (iI v7)), (8, .int (iI v8))] → W p l e rmL_acts s m args below meth c H locs 0 0 Q (F0 m 415 ls []) := by
    intro  ag ae sg v5 v6 v7 v8 h H locs ls hP hD hS hl
    refine lv_iload hx hb dL_acts_415 (lv_at hl 2 rfl) ?_
    refine i_if_ne (tgt := 438) hx hb h.1 dL_acts_417 (by decide) (fun c1 => ?_) (fun c1 => ?_)
    · have h := h.2.1 c1
      refine lv_aload_n hx hb dL_acts_438 rfl (lv_at hl 1 rfl) ?_
      refine lv_iconst (v := iI 5) hx hb dL_acts_439 rfl ?_
      refine lv_iload hx hb dL_acts_440 (lv_at hl 3 rfl) ?_
      refine i_mul hx hb dL_acts_442 ?_
      refine lv_iconst (v := iI 2) hx hb dL_acts_443 rfl ?_
      refine i_add hx hb dL_acts_444 ?_
      refine lv_iload hx hb dL_acts_445 (lv_at hl 4 rfl) ?_
      refine i_ast hx hb hK hP hD hS 1 0 rfl rfl h.1 h.2.1 rfl (Nat.le_of_ble_eq_true rfl) dL_acts_447 (fun H locs hP hD hS => ?_)
      have hP : va_P X.1 vwCl ([(a_ag, eI X 15 ag), (a_ae, eI X 50 (updI ae ((5 * v6) + 2).toNat v7))] ++ wo X ad sg) H := hP
      have hD : va_D A ([(a_ag, eI X 15 ag), (a_ae, eI X 50 (updI ae ((5 * v6) + 2).toNat v7))] ++ wo X ad sg) := hD
      have h := h.2.2
      refine lv_aload_n hx hb dL_acts_448 rfl (lv_at hl 1 rfl) ?_
      refine lv_iconst (v := iI 5) hx hb dL_acts_449 rfl ?_
      refine lv_iload hx hb dL_acts_450 (lv_at hl 3 rfl) ?_
      refine i_mul hx hb dL_acts_452 ?_
      refine lv_iconst (v := iI 3) hx hb dL_acts_453 rfl ?_
      refine i_add hx hb dL_acts_454 ?_
      refine lv_iload hx hb dL_acts_455 (lv_at hl 5 rfl) ?_
      refine i_ast hx hb hK hP hD hS 1 0 rfl rfl h.1 h.2.1 rfl (Nat.le_of_ble_eq_true rfl) dL_acts_457 (fun H locs hP hD hS => ?_)
      have hP : va_P X.1 vwCl ([(a_ag, eI X 15 ag), (a_ae, eI X 50 (updI (updI ae ((5 * v6) + 2).toNat v7) ((5 * v6) + 3).toNat v8))] ++ wo X ad sg) H := hP
      have hD : va_D A ([(a_ag, eI X 15 ag), (a_ae, eI X 50 (updI (updI ae ((5 * v6) + 2).toNat v7) ((5 * v6) + 3).toNat v8))] ++ wo X ad sg) := hD
      have h := h.2.2
      refine lv_aload_n hx hb dL_acts_458 rfl (lv_at hl 0 rfl) ?_
      refine lv_iload hx hb dL_acts_459 (lv_at hl 3 rfl) ?_
      refine lv_iload hx hb dL_acts_461 (lv_at hl 4 rfl) ?_
      refine lv_iload hx hb dL_acts_463 (lv_at hl 5 rfl) ?_
      refine t_i (xs := [(a_ag, eI X 15 ag), (a_ae, eI X 50 (updI (updI ae ((5 * v6) + 2).toNat v7) ((5 * v6) + 3).toNat v8))]) (isR := [0, 1]) (vx_runSW (As := [.ref (ad 0), .int (iI v6), .int (iI v7), .int (iI v8)]) (rest := []) ⟨hx, hb, hml, hown, hts⟩ (kL_signs l hst X ad sg v6 v7 v8 _ h _) (vx_cwSW 4 hts gL_acts_L_signs rfl rfl rfl (by decide +kernel) ⟨(Nat.le_of_ble_eq_true rfl), (Nat.le_of_ble_eq_true rfl)⟩) ⟨pre_blind, pre_cutP hE hK hA hP hD hS⟩ rfl rfl hl.1 rfl (lv_room (Nat.le_of_ble_eq_true rfl)) dL_acts_465 ⟨(Nat.le_of_ble_eq_true rfl), (Nat.le_of_ble_eq_true rfl)⟩) hA hP hD hS rfl (by decide +kernel) (fun z3 sg_3 H locs h hP hD hS => ?_)
      have hP : va_P X.1 vwCl ([(a_ag, eI X 15 ag), (a_ae, eI X 50 (updI (updI ae ((5 * v6) + 2).toNat v7) ((5 * v6) + 3).toNat v8))] ++ wo X ad sg_3) H := hP
      have hD : va_D A ([(a_ag, eI X 15 ag), (a_ae, eI X 50 (updI (updI ae ((5 * v6) + 2).toNat v7) ((5 * v6) + 3).toNat v8))] ++ wo X ad sg_3) := hD
      refine lv_aload_n hx hb dL_acts_468 rfl (lv_at hl 1 rfl) ?_
      refine lv_iload hx hb dL_acts_469 (lv_at hl 3 rfl) ?_
      refine u_i (xs := [(a_ag, eI X 15 ag), (a_ae, eI X 50 (updI (updI ae ((5 * v6) + 2).toNat v7) ((5 * v6) + 3).toNat v8))]) (isC := [1]) (isR := [0]) (wr := [(a_ag, eI X 15 ag)]) (va_runS (As := [.ref a_ae, .int (iI v6)]) (rest := [.int (iI z3)]) ⟨hx, hb, hml, hown, hts⟩ (kL_width l X a_ae (updI (updI ae ((5 * v6) + 2).toNat v7) ((5 * v6) + 3).toNat v8) v6 _ h _) (va_cwS 2 hts gL_acts_L_width rfl rfl rfl (by decide +kernel) ⟨(Nat.le_of_ble_eq_true rfl), (Nat.le_of_ble_eq_true rfl)⟩) ⟨pre_blind, pre_cutQ hE hK hA hP hD hS (isC := [1]) rfl rfl⟩ rfl rfl hl.1 rfl (lv_room (Nat.le_of_ble_eq_true rfl)) dL_acts_471 ⟨(Nat.le_of_ble_eq_true rfl), (Nat.le_of_ble_eq_true rfl)⟩) hA hP hD hS rfl rfl (by decide +kernel) (by decide +kernel) (fun z4 u4 H locs h hP hD hS => ?_)
      have hP : va_P X.1 vwCl ([(a_ag, eI X 15 ag), (a_ae, eI X 50 (updI (updI ae ((5 * v6) + 2).toNat v7) ((5 * v6) + 3).toNat v8))] ++ wo X ad sg_3) H := hP
      have hD : va_D A ([(a_ag, eI X 15 ag), (a_ae, eI X 50 (updI (updI ae ((5 * v6) + 2).toNat v7) ((5 * v6) + 3).toNat v8))] ++ wo X ad sg_3) := hD
      refine i_cmp_ne (tgt := 481) hx hb h.1 h.2.1 dL_acts_474 (by decide) (fun c5 => ?_) (fun c5 => ?_)
      · have h := h.2.2.1 c5
        refine lv_iconst (v := iI 0) hx hb dL_acts_481 rfl ?_
        exact hend _ _ _ _ _ _ 0 (ag, (updI (updI ae ((5 * v6) + 2).toNat v7) ((5 * v6) + 3).toNat v8), sg_3) hP hD hS (Or.inl rfl) h (Nat.le_of_ble_eq_true rfl) (Nat.le_of_ble_eq_true rfl) dL_acts_482
      · have h := h.2.2.2 c5
        refine lv_iconst (v := iI 1) hx hb dL_acts_477 rfl ?_
        refine lv_goto (tgt := 482) hx hb dL_acts_478 (by decide) ?_
        exact hend _ _ _ _ _ _ 1 (ag, (updI (updI ae ((5 * v6) + 2).toNat v7) ((5 * v6) + 3).toNat v8), sg_3) hP hD hS (Or.inr rfl) h (Nat.le_of_ble_eq_true rfl) (Nat.le_of_ble_eq_true rfl) dL_acts_482
    · have h := h.2.2 c1
      refine lv_aload_n hx hb dL_acts_420 rfl (lv_at hl 0 rfl) ?_
      refine lv_iconst (v := iI 0) hx hb dL_acts_421 rfl ?_
      refine lv_iconst (v := iI (-1)) hx hb dL_acts_422 rfl ?_
      refine lv_iconst (v := iI 1) hx hb dL_acts_423 rfl ?_
      refine t_i (xs := [(a_ag, eI X 15 ag), (a_ae, eI X 50 ae)]) (isR := [0, 1]) (vx_runSW (As := [.ref (ad 0), .int (iI 0), .int (iI (-1)), .int (iI 1)]) (rest := []) ⟨hx, hb, hml, hown, hts⟩ (kL_signs l hst X ad sg 0 (-1) 1 _ h _) (vx_cwSW 4 hts gL_acts_L_signs rfl rfl rfl (by decide +kernel) ⟨(Nat.le_of_ble_eq_true rfl), (Nat.le_of_ble_eq_true rfl)⟩) ⟨pre_blind, pre_cutP hE hK hA hP hD hS⟩ rfl rfl hl.1 rfl (lv_room (Nat.le_of_ble_eq_true rfl)) dL_acts_424 ⟨(Nat.le_of_ble_eq_true rfl), (Nat.le_of_ble_eq_true rfl)⟩) hA hP hD hS rfl (by decide +kernel) (fun z7 sg_7 H locs h hP hD hS => ?_)
      have hP : va_P X.1 vwCl ([(a_ag, eI X 15 ag), (a_ae, eI X 50 ae)] ++ wo X ad sg_7) H := hP
      have hD : va_D A ([(a_ag, eI X 15 ag), (a_ae, eI X 50 ae)] ++ wo X ad sg_7) := hD
      refine lv_ldc (v := iI (-100001)) hx hb hown (hts (.constant RL 54 (-100001)) (by decide +kernel)) dL_acts_427 ?_
      refine i_cmp_ne (tgt := 436) hx hb h.1 (inR_lit rfl) dL_acts_429 (by decide) (fun c8 => ?_) (fun c8 => ?_)
      · have h := h.2.1 c8
        refine lv_iconst (v := iI 0) hx hb dL_acts_436 rfl ?_
        exact hend _ _ _ _ _ _ 0 (ag, ae, sg_7) hP hD hS (Or.inl rfl) h (Nat.le_of_ble_eq_true rfl) (Nat.le_of_ble_eq_true rfl) dL_acts_437
      · have h := h.2.2 c8
        refine lv_iconst (v := iI 1) hx hb dL_acts_432 rfl ?_
        refine lv_goto (tgt := 437) hx hb dL_acts_433 (by decide) ?_
        exact hend _ _ _ _ _ _ 1 (ag, ae, sg_7) hP hD hS (Or.inr rfl) h (Nat.le_of_ble_eq_true rfl) (Nat.le_of_ble_eq_true rfl) dL_acts_437
  have B495 : ∀ (ag : Nat → Int) (ae : Nat → Int) (sg : OS) (v5 : Int), wpL_acts_495 post ag ae sg v5 → ∀ (H : Heap) (locs : List Loc) (ls : Array Slot), va_P X.1 vwCl ([(a_ag, eI X 15 ag), (a_ae, eI X 50 ae)] ++ wo X ad sg) H → va_D A ([(a_ag, eI X 15 ag), (a_ae, eI X 50 ae)] ++ wo X ad sg) → va_S A s.heap H locs → lv_has ls 16 [(0, .ref (ad 0)), (5, .int (iI v5))] → W p l e rmL_acts s m args below meth c H locs 0 0 Q (F0 m 495 ls []) := by
    intro  ag ae sg v5 h H locs ls hP hD hS hl
    refine lv_aload_n hx hb dL_acts_495 rfl (lv_at hl 0 rfl) ?_
    refine lv_iload hx hb dL_acts_496 (lv_at hl 1 rfl) ?_
    refine t_i (xs := [(a_ag, eI X 15 ag), (a_ae, eI X 50 ae)]) (isR := [0, 1]) (vx_runSW (As := [.ref (ad 0), .int (iI v5)]) (rest := []) ⟨hx, hb, hml, hown, hts⟩ (kL_drops l hst X ad sg v5 _ h _) (vx_cwSW 2 hts gL_acts_L_drops rfl rfl rfl (by decide +kernel) ⟨(Nat.le_of_ble_eq_true rfl), (Nat.le_of_ble_eq_true rfl)⟩) ⟨pre_blind, pre_cutP hE hK hA hP hD hS⟩ rfl rfl hl.1 rfl (lv_room (Nat.le_of_ble_eq_true rfl)) dL_acts_498 ⟨(Nat.le_of_ble_eq_true rfl), (Nat.le_of_ble_eq_true rfl)⟩) hA hP hD hS rfl (by decide +kernel) (fun z2 sg_2 H locs h hP hD hS => ?_)
    have hP : va_P X.1 vwCl ([(a_ag, eI X 15 ag), (a_ae, eI X 50 ae)] ++ wo X ad sg_2) H := hP
    have hD : va_D A ([(a_ag, eI X 15 ag), (a_ae, eI X 50 ae)] ++ wo X ad sg_2) := hD
    refine lv_ldc (v := iI (-100001)) hx hb hown (hts (.constant RL 54 (-100001)) (by decide +kernel)) dL_acts_501 ?_
    refine i_cmp_ne (tgt := 510) hx hb h.1 (inR_lit rfl) dL_acts_503 (by decide) (fun c3 => ?_) (fun c3 => ?_)
    · have h := h.2.1 c3
      refine lv_iconst (v := iI 0) hx hb dL_acts_510 rfl ?_
      exact hend _ _ _ _ _ _ 0 (ag, ae, sg_2) hP hD hS (Or.inl rfl) h (Nat.le_of_ble_eq_true rfl) (Nat.le_of_ble_eq_true rfl) dL_acts_511
    · have h := h.2.2 c3
      refine lv_iconst (v := iI 1) hx hb dL_acts_506 rfl ?_
      refine lv_goto (tgt := 511) hx hb dL_acts_507 (by decide) ?_
      exact hend _ _ _ _ _ _ 1 (ag, ae, sg_2) hP hD hS (Or.inr rfl) h (Nat.le_of_ble_eq_true rfl) (Nat.le_of_ble_eq_true rfl) dL_acts_511
  have B518 : ∀ (n : Nat) (ag : Nat → Int) (ae : Nat → Int) (sg : OS) (v5 : Int) (v6 : Int) (v14 : Int), wpL_acts_518 post n ag ae sg v5 v6 v14 → ∀ (H : Heap) (locs : List Loc) (ls : Array Slot), va_P X.1 vwCl ([(a_ag, eI X 15 ag), (a_ae, eI X 50 ae)] ++ wo X ad sg) H → va_D A ([(a_ag, eI X 15 ag), (a_ae, eI X 50 ae)] ++ wo X ad sg) → va_S A s.heap H locs → lv_has ls 16 [(0, .ref (ad 0)), (1, .ref a_ag), (2, .ref a_ae), (5, .int (iI v5)), (6, .int (iI v6)), (14, .int (iI v14))] → W p l e rmL_acts s m args below meth c H locs 0 0 Q (F0 m 518 ls []) := by
    intro  n
    induction n with
    | zero => intro ag ae sg v5 v6 v14 h; exact h.elim
    | succ n ih =>
      intro ag ae sg v5 v6 v14 h H locs ls hP hD hS hl
      refine lv_iload hx hb dL_acts_518 (lv_at hl 5 rfl) ?_
      refine lv_bipush (v := iI 45) hx hb dL_acts_520 (by decide +kernel) ?_
      refine i_cmp_ge (tgt := 541) hx hb h.1 (inR_lit rfl) dL_acts_522 (by decide) (fun c1 => ?_) (fun c1 => ?_)
      · have h := h.2.1 c1
        refine lv_aload_n hx hb dL_acts_541 rfl (lv_at hl 1 rfl) ?_
        refine lv_bipush (v := iI 14) hx hb dL_acts_542 (by decide +kernel) ?_
        refine lv_dup2_11 hx hb dL_acts_544 rfl rfl ?_
        refine i_ald hx hb hK hP 0 0 rfl rfl (by decide) (by decide) rfl (Nat.le_of_ble_eq_true rfl) dL_acts_545 ?_
        refine lv_iconst (v := iI 1) hx hb dL_acts_546 rfl ?_
        refine i_sub hx hb dL_acts_547 ?_
        refine i_ast hx hb hK hP hD hS 0 0 rfl rfl (by decide) (by decide) rfl (Nat.le_of_ble_eq_true rfl) dL_acts_548 (fun H locs hP hD hS => ?_)
        have hP : va_P X.1 vwCl ([(a_ag, eI X 15 (updI ag 14 (ag 14 - 1))), (a_ae, eI X 50 ae)] ++ wo X ad sg) H := hP
        have hD : va_D A ([(a_ag, eI X 15 (updI ag 14 (ag 14 - 1))), (a_ae, eI X 50 ae)] ++ wo X ad sg) := hD
        refine lv_aload_n hx hb dL_acts_549 rfl (lv_at hl 0 rfl) ?_
        refine lv_iload hx hb dL_acts_550 (lv_at hl 4 rfl) ?_
        refine t_i (xs := [(a_ag, eI X 15 (updI ag 14 (ag 14 - 1))), (a_ae, eI X 50 ae)]) (isR := [0, 1]) (vx_runSW (As := [.ref (ad 0), .int (iI v6)]) (rest := []) ⟨hx, hb, hml, hown, hts⟩ (kL_drops l hst X ad sg v6 _ h _) (vx_cwSW 2 hts gL_acts_L_drops rfl rfl rfl (by decide +kernel) ⟨(Nat.le_of_ble_eq_true rfl), (Nat.le_of_ble_eq_true rfl)⟩) ⟨pre_blind, pre_cutP hE hK hA hP hD hS⟩ rfl rfl hl.1 rfl (lv_room (Nat.le_of_ble_eq_true rfl)) dL_acts_552 ⟨(Nat.le_of_ble_eq_true rfl), (Nat.le_of_ble_eq_true rfl)⟩) hA hP hD hS rfl (by decide +kernel) (fun z3 sg_3 H locs h hP hD hS => ?_)
        have hP : va_P X.1 vwCl ([(a_ag, eI X 15 (updI ag 14 (ag 14 - 1))), (a_ae, eI X 50 ae)] ++ wo X ad sg_3) H := hP
        have hD : va_D A ([(a_ag, eI X 15 (updI ag 14 (ag 14 - 1))), (a_ae, eI X 50 ae)] ++ wo X ad sg_3) := hD
        refine lv_iload hx hb dL_acts_555 (lv_at hl 3 rfl) ?_
        refine lv_iconst (v := iI 1) hx hb dL_acts_557 rfl ?_
        refine i_sub hx hb dL_acts_558 ?_
        refine i_cmp_ne (tgt := 566) hx hb h.1 h.2.1 dL_acts_559 (by decide) (fun c4 => ?_) (fun c4 => ?_)
        · have h := h.2.2.1 c4
          refine lv_iconst (v := iI 0) hx hb dL_acts_566 rfl ?_
          exact hend _ _ _ _ _ _ 0 ((updI ag 14 (ag 14 - 1)), ae, sg_3) hP hD hS (Or.inl rfl) h (Nat.le_of_ble_eq_true rfl) (Nat.le_of_ble_eq_true rfl) dL_acts_567
        · have h := h.2.2.2 c4
          refine lv_iconst (v := iI 1) hx hb dL_acts_562 rfl ?_
          refine lv_goto (tgt := 567) hx hb dL_acts_563 (by decide) ?_
          exact hend _ _ _ _ _ _ 1 ((updI ag 14 (ag 14 - 1)), ae, sg_3) hP hD hS (Or.inr rfl) h (Nat.le_of_ble_eq_true rfl) (Nat.le_of_ble_eq_true rfl) dL_acts_567
      · have h := h.2.2 c1
        refine lv_aload_n hx hb dL_acts_525 rfl (lv_at hl 2 rfl) ?_
        refine lv_iload hx hb dL_acts_526 (lv_at hl 5 rfl) ?_
        refine lv_aload_n hx hb dL_acts_528 rfl (lv_at hl 2 rfl) ?_
        refine lv_iload hx hb dL_acts_529 (lv_at hl 5 rfl) ?_
        refine lv_iconst (v := iI 5) hx hb dL_acts_531 rfl ?_
        refine i_add hx hb dL_acts_532 ?_
        refine i_ald hx hb hK hP 1 0 rfl rfl h.1 h.2.1 rfl (Nat.le_of_ble_eq_true rfl) dL_acts_533 ?_
        have h := h.2.2
        refine i_ast hx hb hK hP hD hS 1 0 rfl rfl h.1 h.2.1 rfl (Nat.le_of_ble_eq_true rfl) dL_acts_534 (fun H locs hP hD hS => ?_)
        have hP : va_P X.1 vwCl ([(a_ag, eI X 15 ag), (a_ae, eI X 50 (updI ae (v14).toNat (ae (v14 + 5).toNat)))] ++ wo X ad sg) H := hP
        have hD : va_D A ([(a_ag, eI X 15 ag), (a_ae, eI X 50 (updI ae (v14).toNat (ae (v14 + 5).toNat)))] ++ wo X ad sg) := hD
        have h := h.2.2
        refine lv_iinc (v := iI (v14 + 1)) (lv' := [(14, .int (iI (v14 + 1))), (0, .ref (ad 0)), (1, .ref a_ag), (2, .ref a_ae), (5, .int (iI v5)), (6, .int (iI v6))]) hx hb dL_acts_535 hl (k := 5) rfl (iI_add _ _) (by decide) rfl (fun ls hl => ?_)
        refine lv_goto (tgt := 518) hx hb dL_acts_538 (by decide) ?_
        refine W.widen (k := 0) (n := 0) (Nat.le_of_ble_eq_true rfl) (Nat.le_of_ble_eq_true rfl) ?_
        exact ih ag (updI ae (v14).toNat (ae (v14 + 5).toNat)) sg v5 v6 (v14 + 1) h _ _ _ hP hD hS (lv_sub hl [1, 2, 3, 4, 5, 0] rfl)
  have B616 : ∀ (n : Nat) (ag : Nat → Int) (ae : Nat → Int) (sg : OS) (v4 : Int) (v5 : Int) (v7 : Int) (v8 : Int) (v14 : Int) (v15 : Int), wpL_acts_616 post n ag ae sg v4 v5 v7 v8 v14 v15 → ∀ (H : Heap) (locs : List Loc) (ls : Array Slot), va_P X.1 vwCl ([(a_ag, eI X 15 ag), (a_ae, eI X 50 ae)] ++ wo X ad sg) H → va_D A ([(a_ag, eI X 15 ag), (a_ae, eI X 50 ae)] ++ wo X ad sg) → va_S A s.heap H locs → lv_has ls 16 [(0, .ref (ad 0)), (1, .ref a_ag), (2, .ref a_ae), (4, .int (iI v4)), (5, .int (iI v5)), (7, .int (iI v7)), (8, .int (iI v8)), (14, .int (iI v14)), (15, .int (iI v15))] → W p l e rmL_acts s m args below meth c H locs 0 0 Q (F0 m 616 ls []) := by
    intro  n
    induction n with
    | zero => intro ag ae sg v4 v5 v7 v8 v14 v15 h; exact h.elim
    | succ n ih =>
      intro ag ae sg v4 v5 v7 v8 v14 v15 h H locs ls hP hD hS hl
      refine lv_iload hx hb dL_acts_616 (lv_at hl 8 rfl) ?_
      refine lv_iconst (v := iI 5) hx hb dL_acts_618 rfl ?_
      refine lv_iload hx hb dL_acts_619 (lv_at hl 7 rfl) ?_
      refine i_mul hx hb dL_acts_621 ?_
      refine lv_iconst (v := iI 5) hx hb dL_acts_622 rfl ?_
      refine i_add hx hb dL_acts_623 ?_
      refine i_cmp_lt (tgt := 643) hx hb h.1 h.2.1 dL_acts_624 (by decide) (fun c1 => ?_) (fun c1 => ?_)
      · have h := h.2.2.1 c1
        refine lv_aload_n hx hb dL_acts_643 rfl (lv_at hl 2 rfl) ?_
        refine lv_iconst (v := iI 5) hx hb dL_acts_644 rfl ?_
        refine lv_iload hx hb dL_acts_645 (lv_at hl 7 rfl) ?_
        refine i_mul hx hb dL_acts_647 ?_
        refine lv_iload hx hb dL_acts_648 (lv_at hl 3 rfl) ?_
        refine lv_bipush (v := iI 26) hx hb dL_acts_650 (by decide +kernel) ?_
        refine i_rem hx hb h.1 h.2.1 (by decide) (by decide) dL_acts_652 ?_
        have h := h.2.2
        refine i_ast hx hb hK hP hD hS 1 0 rfl rfl h.1 h.2.1 rfl (Nat.le_of_ble_eq_true rfl) dL_acts_653 (fun H locs hP hD hS => ?_)
        have hP : va_P X.1 vwCl ([(a_ag, eI X 15 ag), (a_ae, eI X 50 (updI ae (5 * v14).toNat (v4 % 26)))] ++ wo X ad sg) H := hP
        have hD : va_D A ([(a_ag, eI X 15 ag), (a_ae, eI X 50 (updI ae (5 * v14).toNat (v4 % 26)))] ++ wo X ad sg) := hD
        have h := h.2.2
        refine lv_aload_n hx hb dL_acts_654 rfl (lv_at hl 2 rfl) ?_
        refine lv_iconst (v := iI 5) hx hb dL_acts_655 rfl ?_
        refine lv_iload hx hb dL_acts_656 (lv_at hl 7 rfl) ?_
        refine i_mul hx hb dL_acts_658 ?_
        refine lv_iconst (v := iI 1) hx hb dL_acts_659 rfl ?_
        refine i_add hx hb dL_acts_660 ?_
        refine lv_iconst (v := iI 1) hx hb dL_acts_661 rfl ?_
        refine lv_iload hx hb dL_acts_662 (lv_at hl 3 rfl) ?_
        refine lv_bipush (v := iI 26) hx hb dL_acts_664 (by decide +kernel) ?_
        refine i_div hx hb h.1 h.2.1 (by decide) (by decide) dL_acts_666 ?_
        have h := h.2.2
        refine lv_bipush (v := iI 12) hx hb dL_acts_667 (by decide +kernel) ?_
        refine i_rem hx hb h.1 h.2.1 (by decide) (by decide) dL_acts_669 ?_
        have h := h.2.2
        refine i_add hx hb dL_acts_670 ?_
        refine i_ast hx hb hK hP hD hS 1 0 rfl rfl h.1 h.2.1 rfl (Nat.le_of_ble_eq_true rfl) dL_acts_671 (fun H locs hP hD hS => ?_)
        have hP : va_P X.1 vwCl ([(a_ag, eI X 15 ag), (a_ae, eI X 50 (updI (updI ae (5 * v14).toNat (v4 % 26)) ((5 * v14) + 1).toNat (1 + ((v4 / 26) % 12))))] ++ wo X ad sg) H := hP
        have hD : va_D A ([(a_ag, eI X 15 ag), (a_ae, eI X 50 (updI (updI ae (5 * v14).toNat (v4 % 26)) ((5 * v14) + 1).toNat (1 + ((v4 / 26) % 12))))] ++ wo X ad sg) := hD
        have h := h.2.2
        refine lv_aload_n hx hb dL_acts_672 rfl (lv_at hl 2 rfl) ?_
        refine lv_iconst (v := iI 5) hx hb dL_acts_673 rfl ?_
        refine lv_iload hx hb dL_acts_674 (lv_at hl 7 rfl) ?_
        refine i_mul hx hb dL_acts_676 ?_
        refine lv_iconst (v := iI 2) hx hb dL_acts_677 rfl ?_
        refine i_add hx hb dL_acts_678 ?_
        refine lv_iload hx hb dL_acts_679 (lv_at hl 5 rfl) ?_
        refine i_ast hx hb hK hP hD hS 1 0 rfl rfl h.1 h.2.1 rfl (Nat.le_of_ble_eq_true rfl) dL_acts_681 (fun H locs hP hD hS => ?_)
        have hP : va_P X.1 vwCl ([(a_ag, eI X 15 ag), (a_ae, eI X 50 (updI (updI (updI ae (5 * v14).toNat (v4 % 26)) ((5 * v14) + 1).toNat (1 + ((v4 / 26) % 12))) ((5 * v14) + 2).toNat v7))] ++ wo X ad sg) H := hP
        have hD : va_D A ([(a_ag, eI X 15 ag), (a_ae, eI X 50 (updI (updI (updI ae (5 * v14).toNat (v4 % 26)) ((5 * v14) + 1).toNat (1 + ((v4 / 26) % 12))) ((5 * v14) + 2).toNat v7))] ++ wo X ad sg) := hD
        have h := h.2.2
        refine lv_aload_n hx hb dL_acts_682 rfl (lv_at hl 2 rfl) ?_
        refine lv_iconst (v := iI 5) hx hb dL_acts_683 rfl ?_
        refine lv_iload hx hb dL_acts_684 (lv_at hl 7 rfl) ?_
        refine i_mul hx hb dL_acts_686 ?_
        refine lv_iconst (v := iI 3) hx hb dL_acts_687 rfl ?_
        refine i_add hx hb dL_acts_688 ?_
        refine lv_iload hx hb dL_acts_689 (lv_at hl 6 rfl) ?_
        refine i_ast hx hb hK hP hD hS 1 0 rfl rfl h.1 h.2.1 rfl (Nat.le_of_ble_eq_true rfl) dL_acts_691 (fun H locs hP hD hS => ?_)
        have hP : va_P X.1 vwCl ([(a_ag, eI X 15 ag), (a_ae, eI X 50 (updI (updI (updI (updI ae (5 * v14).toNat (v4 % 26)) ((5 * v14) + 1).toNat (1 + ((v4 / 26) % 12))) ((5 * v14) + 2).toNat v7) ((5 * v14) + 3).toNat v8))] ++ wo X ad sg) H := hP
        have hD : va_D A ([(a_ag, eI X 15 ag), (a_ae, eI X 50 (updI (updI (updI (updI ae (5 * v14).toNat (v4 % 26)) ((5 * v14) + 1).toNat (1 + ((v4 / 26) % 12))) ((5 * v14) + 2).toNat v7) ((5 * v14) + 3).toNat v8))] ++ wo X ad sg) := hD
        have h := h.2.2
        refine lv_aload_n hx hb dL_acts_692 rfl (lv_at hl 2 rfl) ?_
        refine lv_iconst (v := iI 5) hx hb dL_acts_693 rfl ?_
        refine lv_iload hx hb dL_acts_694 (lv_at hl 7 rfl) ?_
        refine i_mul hx hb dL_acts_696 ?_
        refine lv_iconst (v := iI 4) hx hb dL_acts_697 rfl ?_
        refine i_add hx hb dL_acts_698 ?_
        refine lv_iconst (v := iI 0) hx hb dL_acts_699 rfl ?_
        refine i_ast hx hb hK hP hD hS 1 0 rfl rfl h.1 h.2.1 rfl (Nat.le_of_ble_eq_true rfl) dL_acts_700 (fun H locs hP hD hS => ?_)
        have hP : va_P X.1 vwCl ([(a_ag, eI X 15 ag), (a_ae, eI X 50 (updI (updI (updI (updI (updI ae (5 * v14).toNat (v4 % 26)) ((5 * v14) + 1).toNat (1 + ((v4 / 26) % 12))) ((5 * v14) + 2).toNat v7) ((5 * v14) + 3).toNat v8) ((5 * v14) + 4).toNat 0))] ++ wo X ad sg) H := hP
        have hD : va_D A ([(a_ag, eI X 15 ag), (a_ae, eI X 50 (updI (updI (updI (updI (updI ae (5 * v14).toNat (v4 % 26)) ((5 * v14) + 1).toNat (1 + ((v4 / 26) % 12))) ((5 * v14) + 2).toNat v7) ((5 * v14) + 3).toNat v8) ((5 * v14) + 4).toNat 0))] ++ wo X ad sg) := hD
        have h := h.2.2
        refine lv_aload_n hx hb dL_acts_701 rfl (lv_at hl 1 rfl) ?_
        refine lv_bipush (v := iI 14) hx hb dL_acts_702 (by decide +kernel) ?_
        refine lv_dup2_11 hx hb dL_acts_704 rfl rfl ?_
        refine i_ald hx hb hK hP 0 0 rfl rfl (by decide) (by decide) rfl (Nat.le_of_ble_eq_true rfl) dL_acts_705 ?_
        refine lv_iconst (v := iI 1) hx hb dL_acts_706 rfl ?_
        refine i_add hx hb dL_acts_707 ?_
        refine i_ast hx hb hK hP hD hS 0 0 rfl rfl (by decide) (by decide) rfl (Nat.le_of_ble_eq_true rfl) dL_acts_708 (fun H locs hP hD hS => ?_)
        have hP : va_P X.1 vwCl ([(a_ag, eI X 15 (updI ag 14 (ag 14 + 1))), (a_ae, eI X 50 (updI (updI (updI (updI (updI ae (5 * v14).toNat (v4 % 26)) ((5 * v14) + 1).toNat (1 + ((v4 / 26) % 12))) ((5 * v14) + 2).toNat v7) ((5 * v14) + 3).toNat v8) ((5 * v14) + 4).toNat 0))] ++ wo X ad sg) H := hP
        have hD : va_D A ([(a_ag, eI X 15 (updI ag 14 (ag 14 + 1))), (a_ae, eI X 50 (updI (updI (updI (updI (updI ae (5 * v14).toNat (v4 % 26)) ((5 * v14) + 1).toNat (1 + ((v4 / 26) % 12))) ((5 * v14) + 2).toNat v7) ((5 * v14) + 3).toNat v8) ((5 * v14) + 4).toNat 0))] ++ wo X ad sg) := hD
        refine lv_aload_n hx hb dL_acts_709 rfl (lv_at hl 0 rfl) ?_
        refine lv_iload hx hb dL_acts_710 (lv_at hl 7 rfl) ?_
        refine lv_iload hx hb dL_acts_712 (lv_at hl 3 rfl) ?_
        refine lv_bipush (v := iI 26) hx hb dL_acts_714 (by decide +kernel) ?_
        refine i_rem hx hb h.1 h.2.1 (by decide) (by decide) dL_acts_716 ?_
        have h := h.2.2
        refine lv_aload_n hx hb dL_acts_717 rfl (lv_at hl 2 rfl) ?_
        refine lv_iconst (v := iI 5) hx hb dL_acts_718 rfl ?_
        refine lv_iload hx hb dL_acts_719 (lv_at hl 7 rfl) ?_
        refine i_mul hx hb dL_acts_721 ?_
        refine lv_iconst (v := iI 1) hx hb dL_acts_722 rfl ?_
        refine i_add hx hb dL_acts_723 ?_
        refine i_ald hx hb hK hP 1 0 rfl rfl h.1 h.2.1 rfl (Nat.le_of_ble_eq_true rfl) dL_acts_724 ?_
        have h := h.2.2
        refine lv_iload hx hb dL_acts_725 (lv_at hl 5 rfl) ?_
        refine lv_iload hx hb dL_acts_727 (lv_at hl 6 rfl) ?_
        refine t_i (xs := [(a_ag, eI X 15 (updI ag 14 (ag 14 + 1))), (a_ae, eI X 50 (updI (updI (updI (updI (updI ae (5 * v14).toNat (v4 % 26)) ((5 * v14) + 1).toNat (1 + ((v4 / 26) % 12))) ((5 * v14) + 2).toNat v7) ((5 * v14) + 3).toNat v8) ((5 * v14) + 4).toNat 0))]) (isR := [0, 1]) (vx_runSW (As := [.ref (ad 0), .int (iI v14), .int (iI (v4 % 26)), .int (iI ((updI (updI (updI (updI (updI ae (5 * v14).toNat (v4 % 26)) ((5 * v14) + 1).toNat (1 + ((v4 / 26) % 12))) ((5 * v14) + 2).toNat v7) ((5 * v14) + 3).toNat v8) ((5 * v14) + 4).toNat 0) ((5 * v14) + 1).toNat)), .int (iI v7), .int (iI v8)]) (rest := []) ⟨hx, hb, hml, hown, hts⟩ (kL_adds l hst X ad sg v14 (v4 % 26) ((updI (updI (updI (updI (updI ae (5 * v14).toNat (v4 % 26)) ((5 * v14) + 1).toNat (1 + ((v4 / 26) % 12))) ((5 * v14) + 2).toNat v7) ((5 * v14) + 3).toNat v8) ((5 * v14) + 4).toNat 0) ((5 * v14) + 1).toNat) v7 v8 _ h _) (vx_cwSW 6 hts gL_acts_L_adds rfl rfl rfl (by decide +kernel) ⟨(Nat.le_of_ble_eq_true rfl), (Nat.le_of_ble_eq_true rfl)⟩) ⟨pre_blind, pre_cutP hE hK hA hP hD hS⟩ rfl rfl hl.1 rfl (lv_room (Nat.le_of_ble_eq_true rfl)) dL_acts_729 ⟨(Nat.le_of_ble_eq_true rfl), (Nat.le_of_ble_eq_true rfl)⟩) hA hP hD hS rfl (by decide +kernel) (fun z3 sg_3 H locs h hP hD hS => ?_)
        have hP : va_P X.1 vwCl ([(a_ag, eI X 15 (updI ag 14 (ag 14 + 1))), (a_ae, eI X 50 (updI (updI (updI (updI (updI ae (5 * v14).toNat (v4 % 26)) ((5 * v14) + 1).toNat (1 + ((v4 / 26) % 12))) ((5 * v14) + 2).toNat v7) ((5 * v14) + 3).toNat v8) ((5 * v14) + 4).toNat 0))] ++ wo X ad sg_3) H := hP
        have hD : va_D A ([(a_ag, eI X 15 (updI ag 14 (ag 14 + 1))), (a_ae, eI X 50 (updI (updI (updI (updI (updI ae (5 * v14).toNat (v4 % 26)) ((5 * v14) + 1).toNat (1 + ((v4 / 26) % 12))) ((5 * v14) + 2).toNat v7) ((5 * v14) + 3).toNat v8) ((5 * v14) + 4).toNat 0))] ++ wo X ad sg_3) := hD
        refine lv_iload hx hb dL_acts_732 (lv_at hl 4 rfl) ?_
        refine lv_iconst (v := iI 1) hx hb dL_acts_734 rfl ?_
        refine i_add hx hb dL_acts_735 ?_
        refine i_cmp_ne (tgt := 743) hx hb h.1 h.2.1 dL_acts_736 (by decide) (fun c4 => ?_) (fun c4 => ?_)
        · have h := h.2.2.1 c4
          refine lv_iconst (v := iI 0) hx hb dL_acts_743 rfl ?_
          exact hend _ _ _ _ _ _ 0 ((updI ag 14 (ag 14 + 1)), (updI (updI (updI (updI (updI ae (5 * v14).toNat (v4 % 26)) ((5 * v14) + 1).toNat (1 + ((v4 / 26) % 12))) ((5 * v14) + 2).toNat v7) ((5 * v14) + 3).toNat v8) ((5 * v14) + 4).toNat 0), sg_3) hP hD hS (Or.inl rfl) h (Nat.le_of_ble_eq_true rfl) (Nat.le_of_ble_eq_true rfl) dL_acts_744
        · have h := h.2.2.2 c4
          refine lv_iconst (v := iI 1) hx hb dL_acts_739 rfl ?_
          refine lv_goto (tgt := 744) hx hb dL_acts_740 (by decide) ?_
          exact hend _ _ _ _ _ _ 1 ((updI ag 14 (ag 14 + 1)), (updI (updI (updI (updI (updI ae (5 * v14).toNat (v4 % 26)) ((5 * v14) + 1).toNat (1 + ((v4 / 26) % 12))) ((5 * v14) + 2).toNat v7) ((5 * v14) + 3).toNat v8) ((5 * v14) + 4).toNat 0), sg_3) hP hD hS (Or.inr rfl) h (Nat.le_of_ble_eq_true rfl) (Nat.le_of_ble_eq_true rfl) dL_acts_744
      · have h := h.2.2.2 c1
        refine lv_aload_n hx hb dL_acts_627 rfl (lv_at hl 2 rfl) ?_
        refine lv_iload hx hb dL_acts_628 (lv_at hl 8 rfl) ?_
        refine lv_aload_n hx hb dL_acts_630 rfl (lv_at hl 2 rfl) ?_
        refine lv_iload hx hb dL_acts_631 (lv_at hl 8 rfl) ?_
        refine lv_iconst (v := iI 5) hx hb dL_acts_633 rfl ?_
        refine i_sub hx hb dL_acts_634 ?_
        refine i_ald hx hb hK hP 1 0 rfl rfl h.1 h.2.1 rfl (Nat.le_of_ble_eq_true rfl) dL_acts_635 ?_
        have h := h.2.2
        refine i_ast hx hb hK hP hD hS 1 0 rfl rfl h.1 h.2.1 rfl (Nat.le_of_ble_eq_true rfl) dL_acts_636 (fun H locs hP hD hS => ?_)
        have hP : va_P X.1 vwCl ([(a_ag, eI X 15 ag), (a_ae, eI X 50 (updI ae (v15).toNat (ae (v15 - 5).toNat)))] ++ wo X ad sg) H := hP
        have hD : va_D A ([(a_ag, eI X 15 ag), (a_ae, eI X 50 (updI ae (v15).toNat (ae (v15 - 5).toNat)))] ++ wo X ad sg) := hD
        have h := h.2.2
        refine lv_iinc (v := iI (v15 + (-1))) (lv' := [(15, .int (iI (v15 + (-1)))), (0, .ref (ad 0)), (1, .ref a_ag), (2, .ref a_ae), (4, .int (iI v4)), (5, .int (iI v5)), (7, .int (iI v7)), (8, .int (iI v8)), (14, .int (iI v14))]) hx hb dL_acts_637 hl (k := 8) rfl (iI_add _ _) (by decide) rfl (fun ls hl => ?_)
        refine lv_goto (tgt := 616) hx hb dL_acts_640 (by decide) ?_
        refine W.widen (k := 0) (n := 0) (Nat.le_of_ble_eq_true rfl) (Nat.le_of_ble_eq_true rfl) ?_
        exact ih ag (updI ae (v15).toNat (ae (v15 - 5).toNat)) sg v4 v5 v7 v8 v14 (v15 + (-1)) h _ _ _ hP hD hS (lv_sub hl [1, 2, 3, 4, 5, 6, 7, 8, 0] rfl)
  have B88 : ∀ (ag : Nat → Int) (ae : Nat → Int) (sg : OS) (v3 : Int) (v4 : Int) (v5 : Int) (v6 : Int) (v7 : Int) (w0 : Int), wpL_acts_88 post ag ae sg v3 v4 v5 v6 v7 w0 → ∀ (H : Heap) (locs : List Loc) (ls : Array Slot), va_P X.1 vwCl ([(a_ag, eI X 15 ag), (a_ae, eI X 50 ae)] ++ wo X ad sg) H → va_D A ([(a_ag, eI X 15 ag), (a_ae, eI X 50 ae)] ++ wo X ad sg) → va_S A s.heap H locs → lv_has ls 16 [(0, .ref (ad 0)), (1, .ref a_ag), (2, .ref a_ae), (3, .int (iI v3)), (4, .int (iI v4)), (5, .int (iI v5)), (6, .int (iI v6)), (7, .int (iI v7))] → W p l e rmL_acts s m args below meth c H locs 0 0 Q (F0 m 88 ls [.int (iI w0)]) := by
    intro  ag ae sg v3 v4 v5 v6 v7 w0 h H locs ls hP hD hS hl
    refine lv_istore (lv' := [(8, .int (iI w0)), (0, .ref (ad 0)), (1, .ref a_ag), (2, .ref a_ae), (3, .int (iI v3)), (4, .int (iI v4)), (5, .int (iI v5)), (6, .int (iI v6)), (7, .int (iI v7))]) hx hb dL_acts_88 hl (by decide) rfl (fun ls hl => ?_)
    refine lv_iload_n hx hb dL_acts_90 rfl (lv_at hl 4 rfl) ?_
    refine lv_bipush (v := iI 16) hx hb dL_acts_91 (by decide +kernel) ?_
    refine u_i (xs := [(a_ag, eI X 15 ag), (a_ae, eI X 50 ae)]) (isC := []) (isR := [0, 1]) (wr := [(a_ag, eI X 15 ag), (a_ae, eI X 50 ae)]) (va_runS (As := [.int (iI v3), .int (iI 16)]) (rest := []) ⟨hx, hb, hml, hown, hts⟩ (kL_low l X v3 16 _ h _) (va_cwS 2 hts gL_acts_L_low rfl rfl rfl (by decide +kernel) ⟨(Nat.le_of_ble_eq_true rfl), (Nat.le_of_ble_eq_true rfl)⟩) ⟨pre_blind, pre_cutQ hE hK hA hP hD hS (isC := []) rfl rfl⟩ rfl rfl hl.1 rfl (lv_room (Nat.le_of_ble_eq_true rfl)) dL_acts_93 ⟨(Nat.le_of_ble_eq_true rfl), (Nat.le_of_ble_eq_true rfl)⟩) hA hP hD hS rfl rfl (by decide +kernel) (by decide +kernel) (fun z1 u1 H locs h hP hD hS => ?_)
    have hP : va_P X.1 vwCl ([(a_ag, eI X 15 ag), (a_ae, eI X 50 ae)] ++ wo X ad sg) H := hP
    have hD : va_D A ([(a_ag, eI X 15 ag), (a_ae, eI X 50 ae)] ++ wo X ad sg) := hD
    have hsw := h
    have h0 : inR z1 := h.1
    have hc13 : (z1 < 0 ∨ 8 < z1) ∨ z1 = 0 ∨ z1 = 1 ∨ z1 = 2 ∨ z1 = 3 ∨ z1 = 4 ∨ z1 = 5 ∨ z1 = 6 ∨ z1 = 7 ∨ z1 = 8 := by omega
    rcases hc13 with c13 | c13 | c13 | c13 | c13 | c13 | c13 | c13 | c13 | c13
    · have h := hsw.2.2.2.2.2.2.2.2.2.2 c13
      refine i_tsd (tgt := 568) hx hb h0 c13 dL_acts_96 (by decide) ?_
      refine lv_iload hx hb dL_acts_568 (lv_at hl 6 rfl) ?_
      refine lv_bipush (v := iI 10) hx hb dL_acts_570 (by decide +kernel) ?_
      refine i_cmp_ne (tgt := 596) hx hb h.1 (inR_lit rfl) dL_acts_572 (by decide) (fun c8 => ?_) (fun c8 => ?_)
      · have h := h.2.1 c8
        refine lv_iload hx hb dL_acts_596 (lv_at hl 5 rfl) ?_
        refine lv_bipush (v := iI 7) hx hb dL_acts_598 (by decide +kernel) ?_
        refine i_div hx hb h.1 h.2.1 (by decide) (by decide) dL_acts_600 ?_
        have h := h.2.2
        refine lv_iload hx hb dL_acts_601 (lv_at hl 6 rfl) ?_
        refine lv_iconst (v := iI 1) hx hb dL_acts_603 rfl ?_
        refine i_add hx hb dL_acts_604 ?_
        refine i_rem hx hb h.1 h.2.1 h.2.2.1 h.2.2.2.1 dL_acts_605 ?_
        have h := h.2.2.2.2
        refine lv_istore (lv' := [(14, .int (iI ((v4 / 7) % (v5 + 1)))), (8, .int (iI w0)), (0, .ref (ad 0)), (1, .ref a_ag), (2, .ref a_ae), (3, .int (iI v3)), (4, .int (iI v4)), (5, .int (iI v5)), (6, .int (iI v6)), (7, .int (iI v7))]) hx hb dL_acts_606 hl (by decide) rfl (fun ls hl => ?_)
        refine lv_iconst (v := iI 5) hx hb dL_acts_608 rfl ?_
        refine lv_iload hx hb dL_acts_609 (lv_at hl 7 rfl) ?_
        refine i_mul hx hb dL_acts_611 ?_
        refine lv_iconst (v := iI 4) hx hb dL_acts_612 rfl ?_
        refine i_add hx hb dL_acts_613 ?_
        refine lv_istore (lv' := [(15, .int (iI ((5 * v5) + 4))), (14, .int (iI ((v4 / 7) % (v5 + 1)))), (8, .int (iI w0)), (0, .ref (ad 0)), (1, .ref a_ag), (2, .ref a_ae), (3, .int (iI v3)), (4, .int (iI v4)), (5, .int (iI v5)), (6, .int (iI v6)), (7, .int (iI v7))]) hx hb dL_acts_614 hl (by decide) rfl (fun ls hl => ?_)
        refine W.widen (k := 0) (n := 0) (Nat.le_of_ble_eq_true rfl) (Nat.le_of_ble_eq_true rfl) ?_
        obtain ⟨n9, h⟩ := h
        exact B616  n9 ag ae sg v4 v5 v7 w0 ((v4 / 7) % (v5 + 1)) ((5 * v5) + 4) h _ _ _ hP hD hS (lv_sub hl [3, 4, 5, 7, 8, 10, 2, 1, 0] rfl)
      · have h := h.2.2 c8
        refine lv_aload_n hx hb dL_acts_575 rfl (lv_at hl 1 rfl) ?_
        refine lv_iconst (v := iI 0) hx hb dL_acts_576 rfl ?_
        refine lv_iconst (v := iI 0) hx hb dL_acts_577 rfl ?_
        refine lv_bipush (v := iI 13) hx hb dL_acts_578 (by decide +kernel) ?_
        refine lv_iconst (v := iI (-1)) hx hb dL_acts_580 rfl ?_
        refine lv_iconst (v := iI (-1)) hx hb dL_acts_581 rfl ?_
        refine t_i (xs := [(a_ag, eI X 15 ag), (a_ae, eI X 50 ae)]) (isR := [0, 1]) (vx_runSW (As := [.ref (ad 0), .int (iI 0), .int (iI 0), .int (iI 13), .int (iI (-1)), .int (iI (-1))]) (rest := []) ⟨hx, hb, hml, hown, hts⟩ (kL_adds l hst X ad sg 0 0 13 (-1) (-1) _ h _) (vx_cwSW 6 hts gL_acts_L_adds rfl rfl rfl (by decide +kernel) ⟨(Nat.le_of_ble_eq_true rfl), (Nat.le_of_ble_eq_true rfl)⟩) ⟨pre_blind, pre_cutP hE hK hA hP hD hS⟩ rfl rfl hl.1 rfl (lv_room (Nat.le_of_ble_eq_true rfl)) dL_acts_582 ⟨(Nat.le_of_ble_eq_true rfl), (Nat.le_of_ble_eq_true rfl)⟩) hA hP hD hS rfl (by decide +kernel) (fun z11 sg_11 H locs h hP hD hS => ?_)
        have hP : va_P X.1 vwCl ([(a_ag, eI X 15 ag), (a_ae, eI X 50 ae)] ++ wo X ad sg_11) H := hP
        have hD : va_D A ([(a_ag, eI X 15 ag), (a_ae, eI X 50 ae)] ++ wo X ad sg_11) := hD
        refine lv_ldc (v := iI (-100002)) hx hb hown (hts (.constant RL 67 (-100002)) (by decide +kernel)) dL_acts_585 ?_
        refine i_cmp_ne (tgt := 594) hx hb h.1 (inR_lit rfl) dL_acts_587 (by decide) (fun c12 => ?_) (fun c12 => ?_)
        · have h := h.2.1 c12
          refine lv_iconst (v := iI 0) hx hb dL_acts_594 rfl ?_
          exact hend _ _ _ _ _ _ 0 (ag, ae, sg_11) hP hD hS (Or.inl rfl) h (Nat.le_of_ble_eq_true rfl) (Nat.le_of_ble_eq_true rfl) dL_acts_595
        · have h := h.2.2 c12
          refine lv_iconst (v := iI 1) hx hb dL_acts_590 rfl ?_
          refine lv_goto (tgt := 595) hx hb dL_acts_591 (by decide) ?_
          exact hend _ _ _ _ _ _ 1 (ag, ae, sg_11) hP hD hS (Or.inr rfl) h (Nat.le_of_ble_eq_true rfl) (Nat.le_of_ble_eq_true rfl) dL_acts_595
    · have h := hsw.2.1 c13
      refine i_tsw (tgt := 148) (off := 52) hx hb h0 c13 dL_acts_96 rfl rfl (by decide) ?_
      refine W.widen (k := 0) (n := 0) (Nat.le_of_ble_eq_true rfl) (Nat.le_of_ble_eq_true rfl) ?_
      exact B148  ag ae sg v4 h _ _ _ hP hD hS (lv_sub hl [1, 2, 5] rfl)
    · have h := hsw.2.2.1 c13
      refine i_tsw (tgt := 148) (off := 52) hx hb h0 c13 dL_acts_96 rfl rfl (by decide) ?_
      refine W.widen (k := 0) (n := 0) (Nat.le_of_ble_eq_true rfl) (Nat.le_of_ble_eq_true rfl) ?_
      exact B148  ag ae sg v4 h _ _ _ hP hD hS (lv_sub hl [1, 2, 5] rfl)
    · have h := hsw.2.2.2.1 c13
      refine i_tsw (tgt := 148) (off := 52) hx hb h0 c13 dL_acts_96 rfl rfl (by decide) ?_
      refine W.widen (k := 0) (n := 0) (Nat.le_of_ble_eq_true rfl) (Nat.le_of_ble_eq_true rfl) ?_
      exact B148  ag ae sg v4 h _ _ _ hP hD hS (lv_sub hl [1, 2, 5] rfl)
    · have h := hsw.2.2.2.2.1 c13
      refine i_tsw (tgt := 274) (off := 178) hx hb h0 c13 dL_acts_96 rfl rfl (by decide) ?_
      refine lv_aload_n hx hb dL_acts_274 rfl (lv_at hl 2 rfl) ?_
      refine lv_bipush (v := iI 6) hx hb dL_acts_275 (by decide +kernel) ?_
      refine lv_iload hx hb dL_acts_277 (lv_at hl 5 rfl) ?_
      refine lv_bipush (v := iI 8) hx hb dL_acts_279 (by decide +kernel) ?_
      refine i_rem hx hb h.1 h.2.1 (by decide) (by decide) dL_acts_281 ?_
      have h := h.2.2
      refine i_add hx hb dL_acts_282 ?_
      refine i_ald hx hb hK hP 0 0 rfl rfl h.1 h.2.1 rfl (Nat.le_of_ble_eq_true rfl) dL_acts_283 ?_
      have h := h.2.2
      refine lv_istore (lv' := [(12, .int (iI (ag (6 + (v4 % 8)).toNat))), (8, .int (iI w0)), (0, .ref (ad 0)), (1, .ref a_ag), (2, .ref a_ae), (3, .int (iI v3)), (4, .int (iI v4)), (5, .int (iI v5)), (6, .int (iI v6)), (7, .int (iI v7))]) hx hb dL_acts_284 hl (by decide) rfl (fun ls hl => ?_)
      refine lv_aload_n hx hb dL_acts_286 rfl (lv_at hl 3 rfl) ?_
      refine lv_bipush (v := iI 6) hx hb dL_acts_287 (by decide +kernel) ?_
      refine lv_iload hx hb dL_acts_289 (lv_at hl 6 rfl) ?_
      refine lv_bipush (v := iI 8) hx hb dL_acts_291 (by decide +kernel) ?_
      refine i_rem hx hb h.1 h.2.1 (by decide) (by decide) dL_acts_293 ?_
      have h := h.2.2
      refine i_add hx hb dL_acts_294 ?_
      refine lv_iload hx hb dL_acts_295 (lv_at hl 6 rfl) ?_
      refine lv_bipush (v := iI 8) hx hb dL_acts_297 (by decide +kernel) ?_
      refine i_div hx hb h.1 h.2.1 (by decide) (by decide) dL_acts_299 ?_
      have h := h.2.2
      refine lv_bipush (v := iI 101) hx hb dL_acts_300 (by decide +kernel) ?_
      refine i_rem hx hb h.1 h.2.1 (by decide) (by decide) dL_acts_302 ?_
      have h := h.2.2
      refine i_ast hx hb hK hP hD hS 0 0 rfl rfl h.1 h.2.1 rfl (Nat.le_of_ble_eq_true rfl) dL_acts_303 (fun H locs hP hD hS => ?_)
      have hP : va_P X.1 vwCl ([(a_ag, eI X 15 (updI ag (6 + (v4 % 8)).toNat ((v4 / 8) % 101))), (a_ae, eI X 50 ae)] ++ wo X ad sg) H := hP
      have hD : va_D A ([(a_ag, eI X 15 (updI ag (6 + (v4 % 8)).toNat ((v4 / 8) % 101))), (a_ae, eI X 50 ae)] ++ wo X ad sg) := hD
      have h := h.2.2
      refine lv_aload_n hx hb dL_acts_304 rfl (lv_at hl 2 rfl) ?_
      refine lv_iload hx hb dL_acts_305 (lv_at hl 6 rfl) ?_
      refine lv_bipush (v := iI 8) hx hb dL_acts_307 (by decide +kernel) ?_
      refine i_rem hx hb h.1 h.2.1 (by decide) (by decide) dL_acts_309 ?_
      have h := h.2.2
      refine lv_aload_n hx hb dL_acts_310 rfl (lv_at hl 3 rfl) ?_
      refine lv_bipush (v := iI 6) hx hb dL_acts_311 (by decide +kernel) ?_
      refine lv_iload hx hb dL_acts_313 (lv_at hl 6 rfl) ?_
      refine lv_bipush (v := iI 8) hx hb dL_acts_315 (by decide +kernel) ?_
      refine i_rem hx hb h.1 h.2.1 (by decide) (by decide) dL_acts_317 ?_
      have h := h.2.2
      refine i_add hx hb dL_acts_318 ?_
      refine i_ald hx hb hK hP 0 0 rfl rfl h.1 h.2.1 rfl (Nat.le_of_ble_eq_true rfl) dL_acts_319 ?_
      have h := h.2.2
      refine t_i (xs := [(a_ag, eI X 15 (updI ag (6 + (v4 % 8)).toNat ((v4 / 8) % 101))), (a_ae, eI X 50 ae)]) (isR := [0, 1]) (vx_runSW (As := [.ref (ad 0), .int (iI (v4 % 8)), .int (iI ((updI ag (6 + (v4 % 8)).toNat ((v4 / 8) % 101)) (6 + (v4 % 8)).toNat))]) (rest := []) ⟨hx, hb, hml, hown, hts⟩ (kL_shares l hst X ad sg (v4 % 8) ((updI ag (6 + (v4 % 8)).toNat ((v4 / 8) % 101)) (6 + (v4 % 8)).toNat) _ h _) (vx_cwSW 3 hts gL_acts_L_shares rfl rfl rfl (by decide +kernel) ⟨(Nat.le_of_ble_eq_true rfl), (Nat.le_of_ble_eq_true rfl)⟩) ⟨pre_blind, pre_cutP hE hK hA hP hD hS⟩ rfl rfl hl.1 rfl (lv_room (Nat.le_of_ble_eq_true rfl)) dL_acts_320 ⟨(Nat.le_of_ble_eq_true rfl), (Nat.le_of_ble_eq_true rfl)⟩) hA hP hD hS rfl (by decide +kernel) (fun z3 sg_3 H locs h hP hD hS => ?_)
      have hP : va_P X.1 vwCl ([(a_ag, eI X 15 (updI ag (6 + (v4 % 8)).toNat ((v4 / 8) % 101))), (a_ae, eI X 50 ae)] ++ wo X ad sg_3) H := hP
      have hD : va_D A ([(a_ag, eI X 15 (updI ag (6 + (v4 % 8)).toNat ((v4 / 8) % 101))), (a_ae, eI X 50 ae)] ++ wo X ad sg_3) := hD
      refine lv_iload hx hb dL_acts_323 (lv_at hl 0 rfl) ?_
      refine i_cmp_ne (tgt := 332) hx hb h.1 h.2.1 dL_acts_325 (by decide) (fun c4 => ?_) (fun c4 => ?_)
      · have h := h.2.2.1 c4
        refine lv_iconst (v := iI 0) hx hb dL_acts_332 rfl ?_
        exact hend _ _ _ _ _ _ 0 ((updI ag (6 + (v4 % 8)).toNat ((v4 / 8) % 101)), ae, sg_3) hP hD hS (Or.inl rfl) h (Nat.le_of_ble_eq_true rfl) (Nat.le_of_ble_eq_true rfl) dL_acts_333
      · have h := h.2.2.2 c4
        refine lv_iconst (v := iI 1) hx hb dL_acts_328 rfl ?_
        refine lv_goto (tgt := 333) hx hb dL_acts_329 (by decide) ?_
        exact hend _ _ _ _ _ _ 1 ((updI ag (6 + (v4 % 8)).toNat ((v4 / 8) % 101)), ae, sg_3) hP hD hS (Or.inr rfl) h (Nat.le_of_ble_eq_true rfl) (Nat.le_of_ble_eq_true rfl) dL_acts_333
    · have h := hsw.2.2.2.2.2.1 c13
      refine i_tsw (tgt := 334) (off := 238) hx hb h0 c13 dL_acts_96 rfl rfl (by decide) ?_
      refine W.widen (k := 0) (n := 0) (Nat.le_of_ble_eq_true rfl) (Nat.le_of_ble_eq_true rfl) ?_
      exact B334  ag ae sg v4 v5 v6 h _ _ _ hP hD hS (lv_sub hl [1, 3, 5, 6, 7] rfl)
    · have h := hsw.2.2.2.2.2.2.1 c13
      refine i_tsw (tgt := 334) (off := 238) hx hb h0 c13 dL_acts_96 rfl rfl (by decide) ?_
      refine W.widen (k := 0) (n := 0) (Nat.le_of_ble_eq_true rfl) (Nat.le_of_ble_eq_true rfl) ?_
      exact B334  ag ae sg v4 v5 v6 h _ _ _ hP hD hS (lv_sub hl [1, 3, 5, 6, 7] rfl)
    · have h := hsw.2.2.2.2.2.2.2.1 c13
      refine i_tsw (tgt := 415) (off := 319) hx hb h0 c13 dL_acts_96 rfl rfl (by decide) ?_
      refine W.widen (k := 0) (n := 0) (Nat.le_of_ble_eq_true rfl) (Nat.le_of_ble_eq_true rfl) ?_
      exact B415  ag ae sg v5 v6 v7 w0 h _ _ _ hP hD hS (lv_sub hl [1, 3, 6, 7, 8, 0] rfl)
    · have h := hsw.2.2.2.2.2.2.2.2.1 c13
      refine i_tsw (tgt := 415) (off := 319) hx hb h0 c13 dL_acts_96 rfl rfl (by decide) ?_
      refine W.widen (k := 0) (n := 0) (Nat.le_of_ble_eq_true rfl) (Nat.le_of_ble_eq_true rfl) ?_
      exact B415  ag ae sg v5 v6 v7 w0 h _ _ _ hP hD hS (lv_sub hl [1, 3, 6, 7, 8, 0] rfl)
    · have h := hsw.2.2.2.2.2.2.2.2.2.1 c13
      refine i_tsw (tgt := 483) (off := 387) hx hb h0 c13 dL_acts_96 rfl rfl (by decide) ?_
      refine lv_iload hx hb dL_acts_483 (lv_at hl 6 rfl) ?_
      refine i_if_eq (tgt := 495) hx hb h.1 dL_acts_485 (by decide) (fun c5 => ?_) (fun c5 => ?_)
      · have h := h.2.1 c5
        refine W.widen (k := 0) (n := 0) (Nat.le_of_ble_eq_true rfl) (Nat.le_of_ble_eq_true rfl) ?_
        exact B495  ag ae sg v5 h _ _ _ hP hD hS (lv_sub hl [1, 6] rfl)
      · have h := h.2.2 c5
        refine lv_iload hx hb dL_acts_488 (lv_at hl 5 rfl) ?_
        refine lv_iconst (v := iI 3) hx hb dL_acts_490 rfl ?_
        refine i_rem hx hb h.1 h.2.1 (by decide) (by decide) dL_acts_491 ?_
        have h := h.2.2
        refine i_if_le (tgt := 512) hx hb h.1 dL_acts_492 (by decide) (fun c6 => ?_) (fun c6 => ?_)
        · have h := h.2.1 c6
          refine lv_iconst (v := iI 5) hx hb dL_acts_512 rfl ?_
          refine lv_iload hx hb dL_acts_513 (lv_at hl 7 rfl) ?_
          refine i_mul hx hb dL_acts_515 ?_
          refine lv_istore (lv' := [(14, .int (iI (5 * v6))), (8, .int (iI w0)), (0, .ref (ad 0)), (1, .ref a_ag), (2, .ref a_ae), (3, .int (iI v3)), (4, .int (iI v4)), (5, .int (iI v5)), (6, .int (iI v6)), (7, .int (iI v7))]) hx hb dL_acts_516 hl (by decide) rfl (fun ls hl => ?_)
          refine W.widen (k := 0) (n := 0) (Nat.le_of_ble_eq_true rfl) (Nat.le_of_ble_eq_true rfl) ?_
          obtain ⟨n7, h⟩ := h
          exact B518  n7 ag ae sg v5 v6 (5 * v6) h _ _ _ hP hD hS (lv_sub hl [2, 3, 4, 7, 8, 0] rfl)
        · have h := h.2.2 c6
          refine W.widen (k := 0) (n := 0) (Nat.le_of_ble_eq_true rfl) (Nat.le_of_ble_eq_true rfl) ?_
          exact B495  ag ae sg v5 h _ _ _ hP hD hS (lv_sub hl [1, 6] rfl)
  have B82 : ∀ (ag : Nat → Int) (ae : Nat → Int) (sg : OS) (v3 : Int) (v4 : Int) (v5 : Int) (v6 : Int) (v7 : Int), wpL_acts_82 post ag ae sg v3 v4 v5 v6 v7 → ∀ (H : Heap) (locs : List Loc) (ls : Array Slot), va_P X.1 vwCl ([(a_ag, eI X 15 ag), (a_ae, eI X 50 ae)] ++ wo X ad sg) H → va_D A ([(a_ag, eI X 15 ag), (a_ae, eI X 50 ae)] ++ wo X ad sg) → va_S A s.heap H locs → lv_has ls 16 [(0, .ref (ad 0)), (1, .ref a_ag), (2, .ref a_ae), (3, .int (iI v3)), (4, .int (iI v4)), (5, .int (iI v5)), (6, .int (iI v6)), (7, .int (iI v7))] → W p l e rmL_acts s m args below meth c H locs 0 0 Q (F0 m 82 ls []) := by
    intro  ag ae sg v3 v4 v5 v6 v7 h H locs ls hP hD hS hl
    refine lv_iconst (v := iI (-1)) hx hb dL_acts_82 rfl ?_
    refine lv_goto (tgt := 88) hx hb dL_acts_83 (by decide) ?_
    refine W.widen (k := 0) (n := 0) (Nat.le_of_ble_eq_true rfl) (Nat.le_of_ble_eq_true rfl) ?_
    exact B88  ag ae sg v3 v4 v5 v6 v7 (-1) h _ _ _ hP hD hS (lv_sub hl [0, 1, 2, 3, 4, 5, 6, 7] rfl)
  have B67 : ∀ (ag : Nat → Int) (ae : Nat → Int) (sg : OS) (v3 : Int) (v4 : Int) (v5 : Int) (v6 : Int) (v8 : Int) (w0 : Int), wpL_acts_67 post ag ae sg v3 v4 v5 v6 v8 w0 → ∀ (H : Heap) (locs : List Loc) (ls : Array Slot), va_P X.1 vwCl ([(a_ag, eI X 15 ag), (a_ae, eI X 50 ae)] ++ wo X ad sg) H → va_D A ([(a_ag, eI X 15 ag), (a_ae, eI X 50 ae)] ++ wo X ad sg) → va_S A s.heap H locs → lv_has ls 16 [(0, .ref (ad 0)), (1, .ref a_ag), (2, .ref a_ae), (3, .int (iI v3)), (4, .int (iI v4)), (5, .int (iI v5)), (6, .int (iI v6)), (8, .int (iI v8))] → W p l e rmL_acts s m args below meth c H locs 0 0 Q (F0 m 67 ls [.int (iI w0)]) := by
    intro  ag ae sg v3 v4 v5 v6 v8 w0 h H locs ls hP hD hS hl
    refine lv_istore (lv' := [(7, .int (iI w0)), (0, .ref (ad 0)), (1, .ref a_ag), (2, .ref a_ae), (3, .int (iI v3)), (4, .int (iI v4)), (5, .int (iI v5)), (6, .int (iI v6)), (8, .int (iI v8))]) hx hb dL_acts_67 hl (by decide) rfl (fun ls hl => ?_)
    refine lv_iload hx hb dL_acts_69 (lv_at hl 8 rfl) ?_
    refine lv_iconst (v := iI 1) hx hb dL_acts_71 rfl ?_
    refine i_cmp_eq (tgt := 82) hx hb h.1 (inR_lit rfl) dL_acts_72 (by decide) (fun c1 => ?_) (fun c1 => ?_)
    · have h := h.2.1 c1
      refine W.widen (k := 0) (n := 0) (Nat.le_of_ble_eq_true rfl) (Nat.le_of_ble_eq_true rfl) ?_
      exact B82  ag ae sg v3 v4 v5 v6 w0 h _ _ _ hP hD hS (lv_sub hl [1, 2, 3, 4, 5, 6, 7, 0] rfl)
    · have h := h.2.2 c1
      refine lv_iload hx hb dL_acts_75 (lv_at hl 8 rfl) ?_
      refine lv_bipush (v := iI 7) hx hb dL_acts_77 (by decide +kernel) ?_
      refine i_cmp_le (tgt := 86) hx hb h.1 (inR_lit rfl) dL_acts_79 (by decide) (fun c2 => ?_) (fun c2 => ?_)
      · have h := h.2.1 c2
        refine lv_iload hx hb dL_acts_86 (lv_at hl 8 rfl) ?_
        refine W.widen (k := 0) (n := 0) (Nat.le_of_ble_eq_true rfl) (Nat.le_of_ble_eq_true rfl) ?_
        exact B88  ag ae sg v3 v4 v5 v6 w0 v8 h _ _ _ hP hD hS (lv_sub hl [1, 2, 3, 4, 5, 6, 7, 0] rfl)
      · have h := h.2.2 c2
        refine W.widen (k := 0) (n := 0) (Nat.le_of_ble_eq_true rfl) (Nat.le_of_ble_eq_true rfl) ?_
        exact B82  ag ae sg v3 v4 v5 v6 w0 h _ _ _ hP hD hS (lv_sub hl [1, 2, 3, 4, 5, 6, 7, 0] rfl)
  have B30 : ∀ (ag : Nat → Int) (ae : Nat → Int) (sg : OS) (v3 : Int) (v4 : Int) (v5 : Int) (w0 : Int), wpL_acts_30 post ag ae sg v3 v4 v5 w0 → ∀ (H : Heap) (locs : List Loc) (ls : Array Slot), va_P X.1 vwCl ([(a_ag, eI X 15 ag), (a_ae, eI X 50 ae)] ++ wo X ad sg) H → va_D A ([(a_ag, eI X 15 ag), (a_ae, eI X 50 ae)] ++ wo X ad sg) → va_S A s.heap H locs → lv_has ls 16 [(0, .ref (ad 0)), (1, .ref a_ag), (2, .ref a_ae), (3, .int (iI v3)), (4, .int (iI v4)), (5, .int (iI v5))] → W p l e rmL_acts s m args below meth c H locs 0 0 Q (F0 m 30 ls [.int (iI w0)]) := by
    intro  ag ae sg v3 v4 v5 w0 h H locs ls hP hD hS hl
    refine lv_istore (lv' := [(6, .int (iI w0)), (0, .ref (ad 0)), (1, .ref a_ag), (2, .ref a_ae), (3, .int (iI v3)), (4, .int (iI v4)), (5, .int (iI v5))]) hx hb dL_acts_30 hl (by decide) rfl (fun ls hl => ?_)
    refine lv_iload hx hb dL_acts_32 (lv_at hl 5 rfl) ?_
    refine lv_bipush (v := iI 10) hx hb dL_acts_34 (by decide +kernel) ?_
    refine i_div hx hb h.1 h.2.1 (by decide) (by decide) dL_acts_36 ?_
    have h := h.2.2
    refine lv_iconst (v := iI 4) hx hb dL_acts_37 rfl ?_
    refine i_rem hx hb h.1 h.2.1 (by decide) (by decide) dL_acts_38 ?_
    have h := h.2.2
    refine lv_iconst (v := iI 1) hx hb dL_acts_39 rfl ?_
    refine i_sub hx hb dL_acts_40 ?_
    refine lv_istore (lv' := [(7, .int (iI (((v4 / 10) % 4) - 1))), (6, .int (iI w0)), (0, .ref (ad 0)), (1, .ref a_ag), (2, .ref a_ae), (3, .int (iI v3)), (4, .int (iI v4)), (5, .int (iI v5))]) hx hb dL_acts_41 hl (by decide) rfl (fun ls hl => ?_)
    refine lv_iload hx hb dL_acts_43 (lv_at hl 6 rfl) ?_
    refine lv_bipush (v := iI 40) hx hb dL_acts_45 (by decide +kernel) ?_
    refine i_div hx hb h.1 h.2.1 (by decide) (by decide) dL_acts_47 ?_
    have h := h.2.2
    refine lv_bipush (v := iI 10) hx hb dL_acts_48 (by decide +kernel) ?_
    refine i_rem hx hb h.1 h.2.1 (by decide) (by decide) dL_acts_50 ?_
    have h := h.2.2
    refine lv_iconst (v := iI 1) hx hb dL_acts_51 rfl ?_
    refine i_sub hx hb dL_acts_52 ?_
    refine lv_istore (lv' := [(8, .int (iI (((v4 / 40) % 10) - 1))), (7, .int (iI (((v4 / 10) % 4) - 1))), (6, .int (iI w0)), (0, .ref (ad 0)), (1, .ref a_ag), (2, .ref a_ae), (3, .int (iI v3)), (4, .int (iI v4)), (5, .int (iI v5))]) hx hb dL_acts_53 hl (by decide) rfl (fun ls hl => ?_)
    refine lv_iload hx hb dL_acts_55 (lv_at hl 1 rfl) ?_
    refine lv_iconst (v := iI 1) hx hb dL_acts_57 rfl ?_
    refine i_cmp_le (tgt := 65) hx hb h.1 (inR_lit rfl) dL_acts_58 (by decide) (fun c1 => ?_) (fun c1 => ?_)
    · have h := h.2.1 c1
      refine lv_iload hx hb dL_acts_65 (lv_at hl 1 rfl) ?_
      refine W.widen (k := 0) (n := 0) (Nat.le_of_ble_eq_true rfl) (Nat.le_of_ble_eq_true rfl) ?_
      exact B67  ag ae sg v3 v4 v5 w0 (((v4 / 40) % 10) - 1) (((v4 / 10) % 4) - 1) h _ _ _ hP hD hS (lv_sub hl [3, 4, 5, 6, 7, 8, 2, 0] rfl)
    · have h := h.2.2 c1
      refine lv_iconst (v := iI (-1)) hx hb dL_acts_61 rfl ?_
      refine lv_goto (tgt := 67) hx hb dL_acts_62 (by decide) ?_
      refine W.widen (k := 0) (n := 0) (Nat.le_of_ble_eq_true rfl) (Nat.le_of_ble_eq_true rfl) ?_
      exact B67  ag ae sg v3 v4 v5 w0 (((v4 / 40) % 10) - 1) (-1) h _ _ _ hP hD hS (lv_sub hl [3, 4, 5, 6, 7, 8, 2, 0] rfl)
  refine lv_iload_n hx hb dL_acts_0 rfl (lv_at hl 3 rfl) ?_
  refine lv_iconst (v := iI 5) hx hb dL_acts_1 rfl ?_
  refine i_shr hx hb dL_acts_2 (fun q1 hq1 => ?_)
  have h := h q1 hq1
  refine lv_ldc (v := iI 10000000) hx hb hown (hts (.constant RL 38 (10000000)) (by decide +kernel)) dL_acts_3 ?_
  refine u_i (xs := [(a_ag, eI X 15 ag), (a_ae, eI X 50 ae)]) (isC := []) (isR := [0, 1]) (wr := [(a_ag, eI X 15 ag), (a_ae, eI X 50 ae)]) (va_runS (As := [.int (iI q1), .int (iI 10000000)]) (rest := []) ⟨hx, hb, hml, hown, hts⟩ (kL_low l X q1 10000000 _ h _) (va_cwS 2 hts gL_acts_L_low rfl rfl rfl (by decide +kernel) ⟨(Nat.le_of_ble_eq_true rfl), (Nat.le_of_ble_eq_true rfl)⟩) ⟨pre_blind, pre_cutQ hE hK hA hP hD hS (isC := []) rfl rfl⟩ rfl rfl hl.1 rfl (lv_room (Nat.le_of_ble_eq_true rfl)) dL_acts_5 ⟨(Nat.le_of_ble_eq_true rfl), (Nat.le_of_ble_eq_true rfl)⟩) hA hP hD hS rfl rfl (by decide +kernel) (by decide +kernel) (fun z2 u2 H locs h hP hD hS => ?_)
  have hP : va_P X.1 vwCl ([(a_ag, eI X 15 ag), (a_ae, eI X 50 ae)] ++ wo X ad sg) H := hP
  have hD : va_D A ([(a_ag, eI X 15 ag), (a_ae, eI X 50 ae)] ++ wo X ad sg) := hD
  refine lv_istore (lv' := [(4, .int (iI z2)), (0, .ref (ad 0)), (1, .ref a_ag), (2, .ref a_ae), (3, .int (iI p3))]) hx hb dL_acts_8 hl (by decide) rfl (fun ls hl => ?_)
  refine lv_aload_n hx hb dL_acts_10 rfl (lv_at hl 2 rfl) ?_
  refine lv_bipush (v := iI 14) hx hb dL_acts_11 (by decide +kernel) ?_
  refine i_ald hx hb hK hP 0 0 rfl rfl (by decide) (by decide) rfl (Nat.le_of_ble_eq_true rfl) dL_acts_13 ?_
  refine lv_istore (lv' := [(5, .int (iI (ag 14))), (4, .int (iI z2)), (0, .ref (ad 0)), (1, .ref a_ag), (2, .ref a_ae), (3, .int (iI p3))]) hx hb dL_acts_14 hl (by decide) rfl (fun ls hl => ?_)
  refine lv_iload hx hb dL_acts_16 (lv_at hl 0 rfl) ?_
  refine i_if_ne (tgt := 25) hx hb h.1 dL_acts_18 (by decide) (fun c3 => ?_) (fun c3 => ?_)
  · have h := h.2.1 c3
    refine lv_iload hx hb dL_acts_25 (lv_at hl 1 rfl) ?_
    refine lv_iload hx hb dL_acts_27 (lv_at hl 0 rfl) ?_
    refine i_rem hx hb h.1 h.2.1 h.2.2.1 h.2.2.2.1 dL_acts_29 ?_
    have h := h.2.2.2.2
    refine W.widen (k := 0) (n := 0) (Nat.le_of_ble_eq_true rfl) (Nat.le_of_ble_eq_true rfl) ?_
    exact B30  ag ae sg p3 z2 (ag 14) (z2 % ag 14) h _ _ _ hP hD hS (lv_sub hl [2, 3, 4, 5, 1, 0] rfl)
  · have h := h.2.2 c3
    refine lv_iconst (v := iI 0) hx hb dL_acts_21 rfl ?_
    refine lv_goto (tgt := 30) hx hb dL_acts_22 (by decide) ?_
    refine W.widen (k := 0) (n := 0) (Nat.le_of_ble_eq_true rfl) (Nat.le_of_ble_eq_true rfl) ?_
    exact B30  ag ae sg p3 z2 (ag 14) 0 h _ _ _ hP hD hS (lv_sub hl [2, 3, 4, 5, 1, 0] rfl)
