abbrev rmL_sign : Room := { frames := 0, cells := 0, slots := 0, locals := 0 }
set_option maxHeartbeats 4000000 in
set_option maxRecDepth 100000 in
theorem kL_sign (l : Launch) (X : XD) (p0 : Int) (post : Int → Prop) (h : wpL_sign p0 post) : MCi l yL_sign wsL_sign rmL_sign X [.int (iI p0)] [] (S := Unit) (fun _ => []) (fun z _ => post z) 0 0 := by
  refine MCi.of (cc := cL_sign) (maxL := 1) (by decide +kernel) rfl rfl ?_
  intro p e s m args below meth c A ls Q hE0 hP hD hS hl hend
  obtain ⟨hx, hb, hr, hml, hlocks, hown, hts, hK, hE, hA, hnm⟩ := hE0
  have hl : lv_has ls 1 [(0, .int (iI p0))] := hl
  refine lv_iload_n hx hb dL_sign_0 rfl (lv_at hl 0 rfl) ?_
  refine i_if_ge (tgt := 8) hx hb h.1 dL_sign_1 (by decide) (fun c1 => ?_) (fun c1 => ?_)
  · have h := h.2.1 c1
    refine lv_iload_n hx hb dL_sign_8 rfl (lv_at hl 0 rfl) ?_
    refine i_if_eq (tgt := 17) hx hb h.1 dL_sign_9 (by decide) (fun c2 => ?_) (fun c2 => ?_)
    · have h := h.2.1 c2
      refine lv_iconst (v := iI 3) hx hb dL_sign_17 rfl ?_
      refine lv_goto (tgt := 22) hx hb dL_sign_18 (by decide) ?_
      exact hend _ _ _ _ _ _ 3 () hP hD hS h (Nat.le_of_ble_eq_true rfl) (Nat.le_of_ble_eq_true rfl) dL_sign_22
    · have h := h.2.2 c2
      refine lv_iload_n hx hb dL_sign_12 rfl (lv_at hl 0 rfl) ?_
      refine lv_iconst (v := iI 5) hx hb dL_sign_13 rfl ?_
      refine i_cmp_ne (tgt := 21) hx hb h.1 (inR_lit rfl) dL_sign_14 (by decide) (fun c3 => ?_) (fun c3 => ?_)
      · have h := h.2.1 c3
        refine lv_iconst (v := iI 2) hx hb dL_sign_21 rfl ?_
        exact hend _ _ _ _ _ _ 2 () hP hD hS h (Nat.le_of_ble_eq_true rfl) (Nat.le_of_ble_eq_true rfl) dL_sign_22
      · have h := h.2.2 c3
        refine lv_iconst (v := iI 3) hx hb dL_sign_17 rfl ?_
        refine lv_goto (tgt := 22) hx hb dL_sign_18 (by decide) ?_
        exact hend _ _ _ _ _ _ 3 () hP hD hS h (Nat.le_of_ble_eq_true rfl) (Nat.le_of_ble_eq_true rfl) dL_sign_22
  · have h := h.2.2 c1
    refine lv_iconst (v := iI 0) hx hb dL_sign_4 rfl ?_
    refine lv_goto (tgt := 22) hx hb dL_sign_5 (by decide) ?_
    exact hend _ _ _ _ _ _ 0 () hP hD hS h (Nat.le_of_ble_eq_true rfl) (Nat.le_of_ble_eq_true rfl) dL_sign_22
abbrev rmL_low : Room := { frames := 0, cells := 0, slots := 0, locals := 0 }
set_option maxHeartbeats 4000000 in
set_option maxRecDepth 100000 in
theorem kL_low (l : Launch) (X : XD) (p0 : Int) (p1 : Int) (post : Int → Prop) (h : wpL_low p0 p1 post) : MCi l yL_low wsL_low rmL_low X [.int (iI p0), .int (iI p1)] [] (S := Unit) (fun _ => []) (fun z _ => post z) 0 0 := by
  refine MCi.of (cc := cL_low) (maxL := 2) (by decide +kernel) rfl rfl ?_
  intro p e s m args below meth c A ls Q hE0 hP hD hS hl hend
  obtain ⟨hx, hb, hr, hml, hlocks, hown, hts, hK, hE, hA, hnm⟩ := hE0
  have hl : lv_has ls 2 [(0, .int (iI p0)), (1, .int (iI p1))] := hl
  refine lv_iload_n hx hb dL_low_0 rfl (lv_at hl 0 rfl) ?_
  refine lv_ldc (v := iI 2147483647) hx hb hown (hts (.constant RL 8 (2147483647)) (by decide +kernel)) dL_low_1 ?_
  refine i_andp hx hb (Nat.le_of_ble_eq_true rfl) dL_low_3 (fun q1 hq1 => ?_)
  have h := h q1 hq1
  refine lv_iload_n hx hb dL_low_4 rfl (lv_at hl 1 rfl) ?_
  refine i_rem hx hb h.1 h.2.1 h.2.2.1 h.2.2.2.1 dL_low_5 ?_
  have h := h.2.2.2.2
  exact hend _ _ _ _ _ _ (q1 % p1) () hP hD hS h (Nat.le_of_ble_eq_true rfl) (Nat.le_of_ble_eq_true rfl) dL_low_6
abbrev rmL_width : Room := { frames := 1, cells := 0, slots := 0, locals := 20 }
set_option maxHeartbeats 4000000 in
set_option maxRecDepth 100000 in
theorem kL_width (l : Launch) (X : XD) (a_ae : Nat) (ae : Nat → Int) (p1 : Int) (post : Int → Prop) (h : wpL_width ae p1 post) : MCi l yL_width wsL_width rmL_width X [.ref a_ae, .int (iI p1)] [(a_ae, eI X 50 ae)] (S := Unit) (fun _ => [(a_ae, eI X 50 ae)]) (fun z _ => post z) 0 0 := by
  refine MCi.of (cc := cL_width) (maxL := 5) (by decide +kernel) rfl rfl ?_
  intro p e s m args below meth c A ls Q hE0 hP hD hS hl hend
  obtain ⟨hx, hb, hr, hml, hlocks, hown, hts, hK, hE, hA, hnm⟩ := hE0
  have hl : lv_has ls 5 [(0, .ref a_ae), (1, .int (iI p1))] := hl
  have B106 : ∀ (k24 : Int → Int → Int → Prop) (hk24 : ∀ (v1 : Int) (v2 : Int) (v3 : Int), k24 v1 v2 v3 → ∀ (H : Heap) (locs : List Loc) (ls : Array Slot), va_P X.1 vwCl [(a_ae, eI X 50 ae)] H → va_D A [(a_ae, eI X 50 ae)] → va_S A s.heap H locs → lv_has ls 5 [(0, .ref a_ae), (1, .int (iI v1)), (2, .int (iI v2)), (3, .int (iI v3))] → W p l e rmL_width s m args below meth c H locs 0 0 Q (F0 m 24 ls [])) (v1 : Int) (v3 : Int) (w0 : Int) (w1 : Int), wpL_width_106 ae post k24 v1 v3 w0 w1 → ∀ (H : Heap) (locs : List Loc) (ls : Array Slot), va_P X.1 vwCl [(a_ae, eI X 50 ae)] H → va_D A [(a_ae, eI X 50 ae)] → va_S A s.heap H locs → lv_has ls 5 [(0, .ref a_ae), (1, .int (iI v1)), (3, .int (iI v3))] → W p l e rmL_width s m args below meth c H locs 0 0 Q (F0 m 106 ls [.int (iI w0), .int (iI w1)]) := by
    intro k24 hk24 v1 v3 w0 w1 h H locs ls hP hD hS hl
    refine i_add hx hb dL_width_106 ?_
    refine lv_istore_n (lv' := [(2, .int (iI (w1 + w0))), (0, .ref a_ae), (1, .int (iI v1)), (3, .int (iI v3))]) hx hb dL_width_107 rfl hl (by decide) rfl (fun ls hl => ?_)
    refine lv_iinc (v := iI (v3 + 1)) (lv' := [(3, .int (iI (v3 + 1))), (2, .int (iI (w1 + w0))), (0, .ref a_ae), (1, .int (iI v1))]) hx hb dL_width_108 hl (k := 3) rfl (iI_add _ _) (by decide) rfl (fun ls hl => ?_)
    refine lv_goto (tgt := 24) hx hb dL_width_111 (by decide) ?_
    exact hk24 v1 (w1 + w0) (v3 + 1) h _ _ _ hP hD hS (lv_sub hl [2, 3, 1, 0] rfl)
  have B82 : ∀ (k24 : Int → Int → Int → Prop) (hk24 : ∀ (v1 : Int) (v2 : Int) (v3 : Int), k24 v1 v2 v3 → ∀ (H : Heap) (locs : List Loc) (ls : Array Slot), va_P X.1 vwCl [(a_ae, eI X 50 ae)] H → va_D A [(a_ae, eI X 50 ae)] → va_S A s.heap H locs → lv_has ls 5 [(0, .ref a_ae), (1, .int (iI v1)), (2, .int (iI v2)), (3, .int (iI v3))] → W p l e rmL_width s m args below meth c H locs 0 0 Q (F0 m 24 ls [])) (v1 : Int) (v3 : Int) (w0 : Int), wpL_width_82 ae post k24 v1 v3 w0 → ∀ (H : Heap) (locs : List Loc) (ls : Array Slot), va_P X.1 vwCl [(a_ae, eI X 50 ae)] H → va_D A [(a_ae, eI X 50 ae)] → va_S A s.heap H locs → lv_has ls 5 [(0, .ref a_ae), (1, .int (iI v1)), (3, .int (iI v3))] → W p l e rmL_width s m args below meth c H locs 0 0 Q (F0 m 82 ls [.int (iI w0)]) := by
    intro k24 hk24 v1 v3 w0 h H locs ls hP hD hS hl
    refine lv_iconst (v := iI 2) hx hb dL_width_82 rfl ?_
    refine lv_goto (tgt := 106) hx hb dL_width_83 (by decide) ?_
    exact B106 k24 hk24 v1 v3 2 w0 h _ _ _ hP hD hS (lv_sub hl [0, 1, 2] rfl)
  have B100 : ∀ (k24 : Int → Int → Int → Prop) (hk24 : ∀ (v1 : Int) (v2 : Int) (v3 : Int), k24 v1 v2 v3 → ∀ (H : Heap) (locs : List Loc) (ls : Array Slot), va_P X.1 vwCl [(a_ae, eI X 50 ae)] H → va_D A [(a_ae, eI X 50 ae)] → va_S A s.heap H locs → lv_has ls 5 [(0, .ref a_ae), (1, .int (iI v1)), (2, .int (iI v2)), (3, .int (iI v3))] → W p l e rmL_width s m args below meth c H locs 0 0 Q (F0 m 24 ls [])) (v1 : Int) (v3 : Int) (w0 : Int), wpL_width_100 ae post k24 v1 v3 w0 → ∀ (H : Heap) (locs : List Loc) (ls : Array Slot), va_P X.1 vwCl [(a_ae, eI X 50 ae)] H → va_D A [(a_ae, eI X 50 ae)] → va_S A s.heap H locs → lv_has ls 5 [(0, .ref a_ae), (1, .int (iI v1)), (3, .int (iI v3))] → W p l e rmL_width s m args below meth c H locs 0 0 Q (F0 m 100 ls [.int (iI w0)]) := by
    intro k24 hk24 v1 v3 w0 h H locs ls hP hD hS hl
    refine lv_bipush (v := iI 6) hx hb dL_width_100 (by decide +kernel) ?_
    refine lv_goto (tgt := 106) hx hb dL_width_102 (by decide) ?_
    exact B106 k24 hk24 v1 v3 6 w0 h _ _ _ hP hD hS (lv_sub hl [0, 1, 2] rfl)
  have B24 : ∀ (n : Nat) (v1 : Int) (v2 : Int) (v3 : Int), wpL_width_24 ae post n v1 v2 v3 → ∀ (H : Heap) (locs : List Loc) (ls : Array Slot), va_P X.1 vwCl [(a_ae, eI X 50 ae)] H → va_D A [(a_ae, eI X 50 ae)] → va_S A s.heap H locs → lv_has ls 5 [(0, .ref a_ae), (1, .int (iI v1)), (2, .int (iI v2)), (3, .int (iI v3))] → W p l e rmL_width s m args below meth c H locs 0 0 Q (F0 m 24 ls []) := by
    intro  n
    induction n with
    | zero => intro v1 v2 v3 h; exact h.elim
    | succ n ih =>
      intro v1 v2 v3 h H locs ls hP hD hS hl
      refine lv_iload_n hx hb dL_width_24 rfl (lv_at hl 3 rfl) ?_
      refine lv_aload_n hx hb dL_width_25 rfl (lv_at hl 0 rfl) ?_
      refine lv_iconst (v := iI 5) hx hb dL_width_26 rfl ?_
      refine lv_iload_n hx hb dL_width_27 rfl (lv_at hl 1 rfl) ?_
      refine i_mul hx hb dL_width_28 ?_
      refine lv_iconst (v := iI 1) hx hb dL_width_29 rfl ?_
      refine i_add hx hb dL_width_30 ?_
      refine i_ald hx hb hK hP 0 0 rfl rfl h.1 h.2.1 rfl (Nat.le_of_ble_eq_true rfl) dL_width_31 ?_
      have h := h.2.2
      refine i_cmp_ge (tgt := 114) hx hb h.1 h.2.1 dL_width_32 (by decide) (fun c1 => ?_) (fun c1 => ?_)
      · have h := h.2.2.1 c1
        refine lv_iload_n hx hb dL_width_114 rfl (lv_at hl 2 rfl) ?_
        exact hend _ _ _ _ _ _ v2 () hP hD hS h (Nat.le_of_ble_eq_true rfl) (Nat.le_of_ble_eq_true rfl) dL_width_115
      · have h := h.2.2.2 c1
        refine lv_aload_n hx hb dL_width_35 rfl (lv_at hl 0 rfl) ?_
        refine lv_iconst (v := iI 5) hx hb dL_width_36 rfl ?_
        refine lv_iload_n hx hb dL_width_37 rfl (lv_at hl 1 rfl) ?_
        refine i_mul hx hb dL_width_38 ?_
        refine i_ald hx hb hK hP 0 0 rfl rfl h.1 h.2.1 rfl (Nat.le_of_ble_eq_true rfl) dL_width_39 ?_
        have h := h.2.2
        refine lv_iload_n hx hb dL_width_40 rfl (lv_at hl 3 rfl) ?_
        refine i_add hx hb dL_width_41 ?_
        refine lv_bipush (v := iI 26) hx hb dL_width_42 (by decide +kernel) ?_
        refine i_rem hx hb h.1 h.2.1 (by decide) (by decide) dL_width_44 ?_
        have h := h.2.2
        refine lv_istore (lv' := [(4, .int (iI ((ae (5 * v1).toNat + v3) % 26))), (0, .ref a_ae), (1, .int (iI v1)), (2, .int (iI v2)), (3, .int (iI v3))]) hx hb dL_width_45 hl (by decide) rfl (fun ls hl => ?_)
        refine lv_iload_n hx hb dL_width_47 rfl (lv_at hl 3 rfl) ?_
        refine lv_iload hx hb dL_width_48 (lv_at hl 0 rfl) ?_
        refine lv_iconst (v := iI 5) hx hb dL_width_50 rfl ?_
        refine i_cmp_eq (tgt := 82) hx hb h.1 (inR_lit rfl) dL_width_51 (by decide) (fun c2 => ?_) (fun c2 => ?_)
        · have h := h.2.1 c2
          exact B82 (wpL_width_24 ae post n) ih v1 v3 v2 h _ _ _ hP hD hS (lv_sub hl [1, 2, 4] rfl)
        · have h := h.2.2 c2
          refine lv_iload hx hb dL_width_54 (lv_at hl 0 rfl) ?_
          refine lv_bipush (v := iI 8) hx hb dL_width_56 (by decide +kernel) ?_
          refine i_cmp_eq (tgt := 82) hx hb h.1 (inR_lit rfl) dL_width_58 (by decide) (fun c3 => ?_) (fun c3 => ?_)
          · have h := h.2.1 c3
            exact B82 (wpL_width_24 ae post n) ih v1 v3 v2 h _ _ _ hP hD hS (lv_sub hl [1, 2, 4] rfl)
          · have h := h.2.2 c3
            refine lv_iload hx hb dL_width_61 (lv_at hl 0 rfl) ?_
            refine lv_bipush (v := iI 9) hx hb dL_width_63 (by decide +kernel) ?_
            refine i_cmp_eq (tgt := 82) hx hb h.1 (inR_lit rfl) dL_width_65 (by decide) (fun c4 => ?_) (fun c4 => ?_)
            · have h := h.2.1 c4
              exact B82 (wpL_width_24 ae post n) ih v1 v3 v2 h _ _ _ hP hD hS (lv_sub hl [1, 2, 4] rfl)
            · have h := h.2.2 c4
              refine lv_iload hx hb dL_width_68 (lv_at hl 0 rfl) ?_
              refine lv_bipush (v := iI 11) hx hb dL_width_70 (by decide +kernel) ?_
              refine i_cmp_eq (tgt := 82) hx hb h.1 (inR_lit rfl) dL_width_72 (by decide) (fun c5 => ?_) (fun c5 => ?_)
              · have h := h.2.1 c5
                exact B82 (wpL_width_24 ae post n) ih v1 v3 v2 h _ _ _ hP hD hS (lv_sub hl [1, 2, 4] rfl)
              · have h := h.2.2 c5
                refine lv_iload hx hb dL_width_75 (lv_at hl 0 rfl) ?_
                refine lv_bipush (v := iI 19) hx hb dL_width_77 (by decide +kernel) ?_
                refine i_cmp_ne (tgt := 86) hx hb h.1 (inR_lit rfl) dL_width_79 (by decide) (fun c6 => ?_) (fun c6 => ?_)
                · have h := h.2.1 c6
                  refine lv_iload hx hb dL_width_86 (lv_at hl 0 rfl) ?_
                  refine lv_bipush (v := iI 12) hx hb dL_width_88 (by decide +kernel) ?_
                  refine i_cmp_eq (tgt := 100) hx hb h.1 (inR_lit rfl) dL_width_90 (by decide) (fun c7 => ?_) (fun c7 => ?_)
                  · have h := h.2.1 c7
                    exact B100 (wpL_width_24 ae post n) ih v1 v3 v2 h _ _ _ hP hD hS (lv_sub hl [1, 2, 4] rfl)
                  · have h := h.2.2 c7
                    refine lv_iload hx hb dL_width_93 (lv_at hl 0 rfl) ?_
                    refine lv_bipush (v := iI 22) hx hb dL_width_95 (by decide +kernel) ?_
                    refine i_cmp_ne (tgt := 105) hx hb h.1 (inR_lit rfl) dL_width_97 (by decide) (fun c8 => ?_) (fun c8 => ?_)
                    · have h := h.2.1 c8
                      refine lv_iconst (v := iI 4) hx hb dL_width_105 rfl ?_
                      exact B106 (wpL_width_24 ae post n) ih v1 v3 4 v2 h _ _ _ hP hD hS (lv_sub hl [1, 2, 4] rfl)
                    · have h := h.2.2 c8
                      exact B100 (wpL_width_24 ae post n) ih v1 v3 v2 h _ _ _ hP hD hS (lv_sub hl [1, 2, 4] rfl)
                · have h := h.2.2 c6
                  exact B82 (wpL_width_24 ae post n) ih v1 v3 v2 h _ _ _ hP hD hS (lv_sub hl [1, 2, 4] rfl)
  refine lv_aload_n hx hb dL_width_0 rfl (lv_at hl 0 rfl) ?_
  refine lv_iconst (v := iI 5) hx hb dL_width_1 rfl ?_
  refine lv_iload_n hx hb dL_width_2 rfl (lv_at hl 1 rfl) ?_
  refine i_mul hx hb dL_width_3 ?_
  refine lv_iconst (v := iI 2) hx hb dL_width_4 rfl ?_
  refine i_add hx hb dL_width_5 ?_
  refine i_ald hx hb hK hP 0 0 rfl rfl h.1 h.2.1 rfl (Nat.le_of_ble_eq_true rfl) dL_width_6 ?_
  have h := h.2.2
  refine e_i (isC := []) (isR := [0]) (wr := [(a_ae, eI X 50 ae)]) (va_runS (As := [.int (iI (ae ((5 * p1) + 2).toNat))]) (rest := []) ⟨hx, hb, hml, hown, hts⟩ (kL_sign l X (ae ((5 * p1) + 2).toNat) _ h _) (va_cwS 1 hts gL_width_L_sign rfl rfl rfl (by decide +kernel) ⟨(Nat.le_of_ble_eq_true rfl), (Nat.le_of_ble_eq_true rfl)⟩) ⟨pre_blind, pre_cut hE hK hA hP hD hS (isC := []) rfl (by decide +kernel)⟩ rfl rfl hl.1 rfl (lv_room (Nat.le_of_ble_eq_true rfl)) dL_width_7 ⟨(Nat.le_of_ble_eq_true rfl), (Nat.le_of_ble_eq_true rfl)⟩) hA hP hD hS rfl rfl (by decide +kernel) (by decide +kernel) (fun z1 u1 H locs h hP hD hS => ?_)
  have hP : va_P X.1 vwCl [(a_ae, eI X 50 ae)] H := hP
  have hD : va_D A [(a_ae, eI X 50 ae)] := hD
  refine lv_aload_n hx hb dL_width_10 rfl (lv_at hl 0 rfl) ?_
  refine lv_iconst (v := iI 5) hx hb dL_width_11 rfl ?_
  refine lv_iload_n hx hb dL_width_12 rfl (lv_at hl 1 rfl) ?_
  refine i_mul hx hb dL_width_13 ?_
  refine lv_iconst (v := iI 3) hx hb dL_width_14 rfl ?_
  refine i_add hx hb dL_width_15 ?_
  refine i_ald hx hb hK hP 0 0 rfl rfl h.1 h.2.1 rfl (Nat.le_of_ble_eq_true rfl) dL_width_16 ?_
  have h := h.2.2
  refine e_i (isC := []) (isR := [0]) (wr := [(a_ae, eI X 50 ae)]) (va_runS (As := [.int (iI (ae ((5 * p1) + 3).toNat))]) (rest := [.int (iI z1)]) ⟨hx, hb, hml, hown, hts⟩ (kL_sign l X (ae ((5 * p1) + 3).toNat) _ h _) (va_cwS 1 hts gL_width_L_sign rfl rfl rfl (by decide +kernel) ⟨(Nat.le_of_ble_eq_true rfl), (Nat.le_of_ble_eq_true rfl)⟩) ⟨pre_blind, pre_cut hE hK hA hP hD hS (isC := []) rfl (by decide +kernel)⟩ rfl rfl hl.1 rfl (lv_room (Nat.le_of_ble_eq_true rfl)) dL_width_17 ⟨(Nat.le_of_ble_eq_true rfl), (Nat.le_of_ble_eq_true rfl)⟩) hA hP hD hS rfl rfl (by decide +kernel) (by decide +kernel) (fun z2 u2 H locs h hP hD hS => ?_)
  have hP : va_P X.1 vwCl [(a_ae, eI X 50 ae)] H := hP
  have hD : va_D A [(a_ae, eI X 50 ae)] := hD
  refine i_add hx hb dL_width_20 ?_
  refine lv_istore_n (lv' := [(2, .int (iI (z1 + z2))), (0, .ref a_ae), (1, .int (iI p1))]) hx hb dL_width_21 rfl hl (by decide) rfl (fun ls hl => ?_)
  refine lv_iconst (v := iI 0) hx hb dL_width_22 rfl ?_
  refine lv_istore_n (lv' := [(3, .int (iI 0)), (2, .int (iI (z1 + z2))), (0, .ref a_ae), (1, .int (iI p1))]) hx hb dL_width_23 rfl hl (by decide) rfl (fun ls hl => ?_)
  obtain ⟨n3, h⟩ := h
  exact B24  n3 p1 (z1 + z2) 0 h _ _ _ hP hD hS (lv_sub hl [2, 3, 1, 0] rfl)
abbrev rmL_natural : Room := { frames := 2, cells := 0, slots := 0, locals := 44 }
set_option maxHeartbeats 4000000 in
set_option maxRecDepth 100000 in
theorem kL_natural (l : Launch) (X : XD) (a_ae : Nat) (ae : Nat → Int) (p1 : Int) (p2 : Int) (post : Int → Prop) (h : wpL_natural ae p1 p2 post) : MCi l yL_natural wsL_natural rmL_natural X [.ref a_ae, .int (iI p1), .int (iI p2)] [(a_ae, eI X 50 ae)] (S := Unit) (fun _ => [(a_ae, eI X 50 ae)]) (fun z _ => post z) 0 0 := by
  refine MCi.of (cc := cL_natural) (maxL := 5) (by decide +kernel) rfl rfl ?_
  intro p e s m args below meth c A ls Q hE0 hP hD hS hl hend
  obtain ⟨hx, hb, hr, hml, hlocks, hown, hts, hK, hE, hA, hnm⟩ := hE0
  have hl : lv_has ls 5 [(0, .ref a_ae), (1, .int (iI p1)), (2, .int (iI p2))] := hl
  have B9 : ∀ (n : Nat) (v1 : Int) (v2 : Int) (v3 : Int) (v4 : Int), wpL_natural_9 ae post n v1 v2 v3 v4 → ∀ (H : Heap) (locs : List Loc) (ls : Array Slot), va_P X.1 vwCl [(a_ae, eI X 50 ae)] H → va_D A [(a_ae, eI X 50 ae)] → va_S A s.heap H locs → lv_has ls 5 [(0, .ref a_ae), (1, .int (iI v1)), (2, .int (iI v2)), (3, .int (iI v3)), (4, .int (iI v4))] → W p l e rmL_natural s m args below meth c H locs 0 0 Q (F0 m 9 ls []) := by
    intro  n
    induction n with
    | zero => intro v1 v2 v3 v4 h; exact h.elim
    | succ n ih =>
      intro v1 v2 v3 v4 h H locs ls hP hD hS hl
      refine lv_iload hx hb dL_natural_9 (lv_at hl 4 rfl) ?_
      refine lv_iload_n hx hb dL_natural_11 rfl (lv_at hl 1 rfl) ?_
      refine lv_iload_n hx hb dL_natural_12 rfl (lv_at hl 2 rfl) ?_
      refine i_add hx hb dL_natural_13 ?_
      refine i_cmp_ge (tgt := 32) hx hb h.1 h.2.1 dL_natural_14 (by decide) (fun c1 => ?_) (fun c1 => ?_)
      · have h := h.2.2.1 c1
        refine lv_iload_n hx hb dL_natural_32 rfl (lv_at hl 3 rfl) ?_
        exact hend _ _ _ _ _ _ v3 () hP hD hS h (Nat.le_of_ble_eq_true rfl) (Nat.le_of_ble_eq_true rfl) dL_natural_33
      · have h := h.2.2.2 c1
        refine lv_iload_n hx hb dL_natural_17 rfl (lv_at hl 3 rfl) ?_
        refine lv_aload_n hx hb dL_natural_18 rfl (lv_at hl 0 rfl) ?_
        refine lv_iload hx hb dL_natural_19 (lv_at hl 4 rfl) ?_
        refine e_i (isC := [0]) (isR := []) (wr := []) (va_runS (As := [.ref a_ae, .int (iI v4)]) (rest := [.int (iI v3)]) ⟨hx, hb, hml, hown, hts⟩ (kL_width l X a_ae ae v4 _ h _) (va_cwS 2 hts gL_natural_L_width rfl rfl rfl (by decide +kernel) ⟨(Nat.le_of_ble_eq_true rfl), (Nat.le_of_ble_eq_true rfl)⟩) ⟨pre_blind, pre_cut hE hK hA hP hD hS (isC := [0]) rfl (by decide +kernel)⟩ rfl rfl hl.1 rfl (lv_room (Nat.le_of_ble_eq_true rfl)) dL_natural_21 ⟨(Nat.le_of_ble_eq_true rfl), (Nat.le_of_ble_eq_true rfl)⟩) hA hP hD hS rfl rfl (by decide +kernel) (by decide +kernel) (fun z2 u2 H locs h hP hD hS => ?_)
        have hP : va_P X.1 vwCl [(a_ae, eI X 50 ae)] H := hP
        have hD : va_D A [(a_ae, eI X 50 ae)] := hD
        refine i_add hx hb dL_natural_24 ?_
        refine lv_istore_n (lv' := [(3, .int (iI (v3 + z2))), (0, .ref a_ae), (1, .int (iI v1)), (2, .int (iI v2)), (4, .int (iI v4))]) hx hb dL_natural_25 rfl hl (by decide) rfl (fun ls hl => ?_)
        refine lv_iinc (v := iI (v4 + 1)) (lv' := [(4, .int (iI (v4 + 1))), (3, .int (iI (v3 + z2))), (0, .ref a_ae), (1, .int (iI v1)), (2, .int (iI v2))]) hx hb dL_natural_26 hl (k := 4) rfl (iI_add _ _) (by decide) rfl (fun ls hl => ?_)
        refine lv_goto (tgt := 9) hx hb dL_natural_29 (by decide) ?_
        exact ih v1 v2 (v3 + z2) (v4 + 1) h _ _ _ hP hD hS (lv_sub hl [2, 3, 4, 1, 0] rfl)
  refine lv_iconst (v := iI 2) hx hb dL_natural_0 rfl ?_
  refine lv_iload_n hx hb dL_natural_1 rfl (lv_at hl 2 rfl) ?_
  refine i_mul hx hb dL_natural_2 ?_
  refine lv_iconst (v := iI 2) hx hb dL_natural_3 rfl ?_
  refine i_sub hx hb dL_natural_4 ?_
  refine lv_istore_n (lv' := [(3, .int (iI ((2 * p2) - 2))), (0, .ref a_ae), (1, .int (iI p1)), (2, .int (iI p2))]) hx hb dL_natural_5 rfl hl (by decide) rfl (fun ls hl => ?_)
  refine lv_iload_n hx hb dL_natural_6 rfl (lv_at hl 2 rfl) ?_
  refine lv_istore (lv' := [(4, .int (iI p1)), (3, .int (iI ((2 * p2) - 2))), (0, .ref a_ae), (1, .int (iI p1)), (2, .int (iI p2))]) hx hb dL_natural_7 hl (by decide) rfl (fun ls hl => ?_)
  obtain ⟨n1, h⟩ := h
  exact B9  n1 p1 p2 ((2 * p2) - 2) p1 h _ _ _ hP hD hS (lv_sub hl [2, 3, 4, 1, 0] rfl)
abbrev rmL_hang : Room := { frames := 1, cells := 0, slots := 0, locals := 20 }
set_option maxHeartbeats 4000000 in
set_option maxRecDepth 100000 in
theorem kL_hang (l : Launch) (X : XD) (a_ag : Nat) (ag : Nat → Int) (p1 : Int) (p2 : Int) (post : Int → Prop) (h : wpL_hang ag p1 p2 post) : MCi l yL_hang wsL_hang rmL_hang X [.ref a_ag, .int (iI p1), .int (iI p2)] [(a_ag, eI X 15 ag)] (S := Unit) (fun _ => [(a_ag, eI X 15 ag)]) (fun z _ => post z) 0 0 := by
  refine MCi.of (cc := cL_hang) (maxL := 4) (by decide +kernel) rfl rfl ?_
  intro p e s m args below meth c A ls Q hE0 hP hD hS hl hend
  obtain ⟨hx, hb, hr, hml, hlocks, hown, hts, hK, hE, hA, hnm⟩ := hE0
  have hl : lv_has ls 4 [(0, .ref a_ag), (1, .int (iI p1)), (2, .int (iI p2))] := hl
  have B22 : ∀ (v2 : Int) (w0 : Int), wpL_hang_22 ag post v2 w0 → ∀ (H : Heap) (locs : List Loc) (ls : Array Slot), va_P X.1 vwCl [(a_ag, eI X 15 ag)] H → va_D A [(a_ag, eI X 15 ag)] → va_S A s.heap H locs → lv_has ls 4 [(2, .int (iI v2))] → W p l e rmL_hang s m args below meth c H locs 0 0 Q (F0 m 22 ls [.int (iI w0)]) := by
    intro  v2 w0 h H locs ls hP hD hS hl
    refine lv_istore_n (lv' := [(3, .int (iI w0)), (2, .int (iI v2))]) hx hb dL_hang_22 rfl hl (by decide) rfl (fun ls hl => ?_)
    refine lv_iload_n hx hb dL_hang_23 rfl (lv_at hl 0 rfl) ?_
    refine lv_iload_n hx hb dL_hang_24 rfl (lv_at hl 1 rfl) ?_
    refine i_cmp_le (tgt := 32) hx hb h.1 h.2.1 dL_hang_25 (by decide) (fun c1 => ?_) (fun c1 => ?_)
    · have h := h.2.2.1 c1
      refine lv_iload_n hx hb dL_hang_32 rfl (lv_at hl 0 rfl) ?_
      exact hend _ _ _ _ _ _ w0 () hP hD hS h (Nat.le_of_ble_eq_true rfl) (Nat.le_of_ble_eq_true rfl) dL_hang_33
    · have h := h.2.2.2 c1
      refine lv_iload_n hx hb dL_hang_28 rfl (lv_at hl 1 rfl) ?_
      refine lv_goto (tgt := 33) hx hb dL_hang_29 (by decide) ?_
      exact hend _ _ _ _ _ _ v2 () hP hD hS h (Nat.le_of_ble_eq_true rfl) (Nat.le_of_ble_eq_true rfl) dL_hang_33
  refine lv_iload_n hx hb dL_hang_0 rfl (lv_at hl 1 rfl) ?_
  refine i_if_ge (tgt := 8) hx hb h.1 dL_hang_1 (by decide) (fun c1 => ?_) (fun c1 => ?_)
  · have h := h.2.1 c1
    refine lv_iload_n hx hb dL_hang_8 rfl (lv_at hl 1 rfl) ?_
    refine e_i (isC := []) (isR := [0]) (wr := [(a_ag, eI X 15 ag)]) (va_runS (As := [.int (iI p1)]) (rest := []) ⟨hx, hb, hml, hown, hts⟩ (kL_sign l X p1 _ h _) (va_cwS 1 hts gL_hang_L_sign rfl rfl rfl (by decide +kernel) ⟨(Nat.le_of_ble_eq_true rfl), (Nat.le_of_ble_eq_true rfl)⟩) ⟨pre_blind, pre_cut hE hK hA hP hD hS (isC := []) rfl (by decide +kernel)⟩ rfl rfl hl.1 rfl (lv_room (Nat.le_of_ble_eq_true rfl)) dL_hang_9 ⟨(Nat.le_of_ble_eq_true rfl), (Nat.le_of_ble_eq_true rfl)⟩) hA hP hD hS rfl rfl (by decide +kernel) (by decide +kernel) (fun z2 u2 H locs h hP hD hS => ?_)
    have hP : va_P X.1 vwCl [(a_ag, eI X 15 ag)] H := hP
    have hD : va_D A [(a_ag, eI X 15 ag)] := hD
    refine lv_aload_n hx hb dL_hang_12 rfl (lv_at hl 0 rfl) ?_
    refine lv_bipush (v := iI 6) hx hb dL_hang_13 (by decide +kernel) ?_
    refine lv_iload_n hx hb dL_hang_15 rfl (lv_at hl 1 rfl) ?_
    refine i_add hx hb dL_hang_16 ?_
    refine i_ald hx hb hK hP 0 0 rfl rfl h.1 h.2.1 rfl (Nat.le_of_ble_eq_true rfl) dL_hang_17 ?_
    have h := h.2.2
    refine i_mul hx hb dL_hang_18 ?_
    refine lv_bipush (v := iI 100) hx hb dL_hang_19 (by decide +kernel) ?_
    refine i_div hx hb h.1 h.2.1 (by decide) (by decide) dL_hang_21 ?_
    have h := h.2.2
    exact B22  p2 ((z2 * ag (6 + p1).toNat) / 100) h _ _ _ hP hD hS (lv_sub hl [2] rfl)
  · have h := h.2.2 c1
    refine lv_iconst (v := iI 0) hx hb dL_hang_4 rfl ?_
    refine lv_goto (tgt := 22) hx hb dL_hang_5 (by decide) ?_
    exact B22  p2 0 h _ _ _ hP hD hS (lv_sub hl [2] rfl)
abbrev rmL_closes : Room := { frames := 0, cells := 0, slots := 0, locals := 0 }
set_option maxHeartbeats 4000000 in
set_option maxRecDepth 100000 in
theorem kL_closes (l : Launch) (X : XD) (a_ag a_ae : Nat) (ag : Nat → Int) (ae : Nat → Int) (p2 : Int) (post : Int → Prop) (h : wpL_closes ag ae p2 post) : MCi l yL_closes wsL_closes rmL_closes X [.ref a_ag, .ref a_ae, .int (iI p2)] [(a_ag, eI X 15 ag), (a_ae, eI X 50 ae)] (S := Unit) (fun _ => [(a_ag, eI X 15 ag), (a_ae, eI X 50 ae)]) (fun z _ => post z) 0 0 := by
  refine MCz.of (cc := cL_closes) (maxL := 3) (by decide +kernel) rfl rfl ?_
  intro p e s m args below meth c A ls Q hE0 hP hD hS hl hend
  obtain ⟨hx, hb, hr, hml, hlocks, hown, hts, hK, hE, hA, hnm⟩ := hE0
  have hl : lv_has ls 3 [(0, .ref a_ag), (1, .ref a_ae), (2, .int (iI p2))] := hl
  refine lv_aload_n hx hb dL_closes_0 rfl (lv_at hl 1 rfl) ?_
  refine lv_iconst (v := iI 5) hx hb dL_closes_1 rfl ?_
  refine lv_iload_n hx hb dL_closes_2 rfl (lv_at hl 2 rfl) ?_
  refine i_mul hx hb dL_closes_3 ?_
  refine lv_iconst (v := iI 4) hx hb dL_closes_4 rfl ?_
  refine i_add hx hb dL_closes_5 ?_
  refine i_ald hx hb hK hP 1 0 rfl rfl h.1 h.2.1 rfl (Nat.le_of_ble_eq_true rfl) dL_closes_6 ?_
  have h := h.2.2
  refine lv_iconst (v := iI 1) hx hb dL_closes_7 rfl ?_
  refine i_cmp_eq (tgt := 21) hx hb h.1 (inR_lit rfl) dL_closes_8 (by decide) (fun c1 => ?_) (fun c1 => ?_)
  · have h := h.2.1 c1
    refine lv_iconst (v := iI 1) hx hb dL_closes_21 rfl ?_
    refine lv_goto (tgt := 26) hx hb dL_closes_22 (by decide) ?_
    exact hend _ _ _ _ _ _ 1 () hP hD hS (Or.inr rfl) h (Nat.le_of_ble_eq_true rfl) (Nat.le_of_ble_eq_true rfl) dL_closes_26
  · have h := h.2.2 c1
    refine lv_iload_n hx hb dL_closes_11 rfl (lv_at hl 2 rfl) ?_
    refine lv_iconst (v := iI 1) hx hb dL_closes_12 rfl ?_
    refine i_add hx hb dL_closes_13 ?_
    refine lv_aload_n hx hb dL_closes_14 rfl (lv_at hl 0 rfl) ?_
    refine lv_bipush (v := iI 14) hx hb dL_closes_15 (by decide +kernel) ?_
    refine i_ald hx hb hK hP 0 0 rfl rfl (by decide) (by decide) rfl (Nat.le_of_ble_eq_true rfl) dL_closes_17 ?_
    refine i_cmp_ne (tgt := 25) hx hb h.1 h.2.1 dL_closes_18 (by decide) (fun c2 => ?_) (fun c2 => ?_)
    · have h := h.2.2.1 c2
      refine lv_iconst (v := iI 0) hx hb dL_closes_25 rfl ?_
      exact hend _ _ _ _ _ _ 0 () hP hD hS (Or.inl rfl) h (Nat.le_of_ble_eq_true rfl) (Nat.le_of_ble_eq_true rfl) dL_closes_26
    · have h := h.2.2.2 c2
      refine lv_iconst (v := iI 1) hx hb dL_closes_21 rfl ?_
      refine lv_goto (tgt := 26) hx hb dL_closes_22 (by decide) ?_
      exact hend _ _ _ _ _ _ 1 () hP hD hS (Or.inr rfl) h (Nat.le_of_ble_eq_true rfl) (Nat.le_of_ble_eq_true rfl) dL_closes_26
abbrev rmL_empty : Room := { frames := 3, cells := 0, slots := 0, locals := 68 }
set_option maxHeartbeats 4000000 in
set_option maxRecDepth 100000 in
theorem kL_empty (l : Launch) (X : XD) (a_ag a_ae a_ax : Nat) (ag : Nat → Int) (ae : Nat → Int) (ax : Nat → Int) (p2 : Int) (p4 : Int) (post : Int → Prop) (h : wpL_empty ae ax p2 p4 post) : MCi l yL_empty wsL_empty rmL_empty X [.ref a_ag, .ref a_ae, .int (iI p2), .ref a_ax, .int (iI p4)] [(a_ag, eI X 15 ag), (a_ae, eI X 50 ae), (a_ax, eI X 60 ax)] (S := Unit) (fun _ => [(a_ag, eI X 15 ag), (a_ae, eI X 50 ae), (a_ax, eI X 60 ax)]) (fun z _ => post z) 0 0 := by
  refine MCi.of (cc := cL_empty) (maxL := 6) (by decide +kernel) rfl rfl ?_
  intro p e s m args below meth c A ls Q hE0 hP hD hS hl hend
  obtain ⟨hx, hb, hr, hml, hlocks, hown, hts, hK, hE, hA, hnm⟩ := hE0
  have hl : lv_has ls 6 [(0, .ref a_ag), (1, .ref a_ae), (2, .int (iI p2)), (3, .ref a_ax), (4, .int (iI p4))] := hl
  refine lv_bipush (v := iI 6) hx hb dL_empty_0 (by decide +kernel) ?_
  refine lv_iload hx hb dL_empty_2 (lv_at hl 4 rfl) ?_
  refine i_mul hx hb dL_empty_4 ?_
  refine lv_istore (lv' := [(5, .int (iI (6 * p4))), (0, .ref a_ag), (1, .ref a_ae), (2, .int (iI p2)), (3, .ref a_ax), (4, .int (iI p4))]) hx hb dL_empty_5 hl (by decide) rfl (fun ls hl => ?_)
  refine lv_aload_n hx hb dL_empty_7 rfl (lv_at hl 4 rfl) ?_
  refine lv_iload hx hb dL_empty_8 (lv_at hl 0 rfl) ?_
  refine lv_iconst (v := iI 5) hx hb dL_empty_10 rfl ?_
  refine i_add hx hb dL_empty_11 ?_
  refine i_ald hx hb hK hP 2 0 rfl rfl h.1 h.2.1 rfl (Nat.le_of_ble_eq_true rfl) dL_empty_12 ?_
  have h := h.2.2
  refine lv_iconst (v := iI 1) hx hb dL_empty_13 rfl ?_
  refine i_cmp_ne (tgt := 21) hx hb h.1 (inR_lit rfl) dL_empty_14 (by decide) (fun c1 => ?_) (fun c1 => ?_)
  · have h := h.2.1 c1
    refine lv_iload_n hx hb dL_empty_21 rfl (lv_at hl 3 rfl) ?_
    refine lv_aload_n hx hb dL_empty_22 rfl (lv_at hl 4 rfl) ?_
    refine lv_iload hx hb dL_empty_23 (lv_at hl 0 rfl) ?_
    refine lv_iconst (v := iI 4) hx hb dL_empty_25 rfl ?_
    refine i_add hx hb dL_empty_26 ?_
    refine i_ald hx hb hK hP 2 0 rfl rfl h.1 h.2.1 rfl (Nat.le_of_ble_eq_true rfl) dL_empty_27 ?_
    have h := h.2.2
    refine i_sub hx hb dL_empty_28 ?_
    refine lv_aload_n hx hb dL_empty_29 rfl (lv_at hl 4 rfl) ?_
    refine lv_iload hx hb dL_empty_30 (lv_at hl 0 rfl) ?_
    refine lv_iconst (v := iI 2) hx hb dL_empty_32 rfl ?_
    refine i_add hx hb dL_empty_33 ?_
    refine i_ald hx hb hK hP 2 0 rfl rfl h.1 h.2.1 rfl (Nat.le_of_ble_eq_true rfl) dL_empty_34 ?_
    have h := h.2.2
    refine i_add hx hb dL_empty_35 ?_
    refine lv_aload_n hx hb dL_empty_36 rfl (lv_at hl 4 rfl) ?_
    refine lv_iload hx hb dL_empty_37 (lv_at hl 0 rfl) ?_
    refine lv_iconst (v := iI 3) hx hb dL_empty_39 rfl ?_
    refine i_add hx hb dL_empty_40 ?_
    refine i_ald hx hb hK hP 2 0 rfl rfl h.1 h.2.1 rfl (Nat.le_of_ble_eq_true rfl) dL_empty_41 ?_
    have h := h.2.2
    refine i_add hx hb dL_empty_42 ?_
    refine lv_aload_n hx hb dL_empty_43 rfl (lv_at hl 2 rfl) ?_
    refine lv_aload_n hx hb dL_empty_44 rfl (lv_at hl 4 rfl) ?_
    refine lv_iload hx hb dL_empty_45 (lv_at hl 0 rfl) ?_
    refine i_ald hx hb hK hP 2 0 rfl rfl h.1 h.2.1 rfl (Nat.le_of_ble_eq_true rfl) dL_empty_47 ?_
    have h := h.2.2
    refine lv_aload_n hx hb dL_empty_48 rfl (lv_at hl 4 rfl) ?_
    refine lv_iload hx hb dL_empty_49 (lv_at hl 0 rfl) ?_
    refine lv_iconst (v := iI 1) hx hb dL_empty_51 rfl ?_
    refine i_add hx hb dL_empty_52 ?_
    refine i_ald hx hb hK hP 2 0 rfl rfl h.1 h.2.1 rfl (Nat.le_of_ble_eq_true rfl) dL_empty_53 ?_
    have h := h.2.2
    refine e_i (isC := [1]) (isR := [0, 2]) (wr := [(a_ag, eI X 15 ag), (a_ax, eI X 60 ax)]) (va_runS (As := [.ref a_ae, .int (iI (ax (6 * p4).toNat)), .int (iI (ax ((6 * p4) + 1).toNat))]) (rest := [.int (iI (((p2 - ax ((6 * p4) + 4).toNat) + ax ((6 * p4) + 2).toNat) + ax ((6 * p4) + 3).toNat))]) ⟨hx, hb, hml, hown, hts⟩ (kL_natural l X a_ae ae (ax (6 * p4).toNat) (ax ((6 * p4) + 1).toNat) _ h _) (va_cwS 3 hts gL_empty_L_natural rfl rfl rfl (by decide +kernel) ⟨(Nat.le_of_ble_eq_true rfl), (Nat.le_of_ble_eq_true rfl)⟩) ⟨pre_blind, pre_cut hE hK hA hP hD hS (isC := [1]) rfl (by decide +kernel)⟩ rfl rfl hl.1 rfl (lv_room (Nat.le_of_ble_eq_true rfl)) dL_empty_54 ⟨(Nat.le_of_ble_eq_true rfl), (Nat.le_of_ble_eq_true rfl)⟩) hA hP hD hS rfl rfl (by decide +kernel) (by decide +kernel) (fun z2 u2 H locs h hP hD hS => ?_)
    have hP : va_P X.1 vwCl [(a_ag, eI X 15 ag), (a_ax, eI X 60 ax), (a_ae, eI X 50 ae)] H := hP
    have hD : va_D A [(a_ag, eI X 15 ag), (a_ax, eI X 60 ax), (a_ae, eI X 50 ae)] := hD
    refine i_sub hx hb dL_empty_57 ?_
    have hP := hP.sub (ws' := [(a_ag, eI X 15 ag), (a_ae, eI X 50 ae), (a_ax, eI X 60 ax)]) [0, 2, 1] rfl
    have hD := hD.sub (ws' := [(a_ag, eI X 15 ag), (a_ae, eI X 50 ae), (a_ax, eI X 60 ax)]) [0, 2, 1] (by decide +kernel) rfl
    exact hend _ _ _ _ _ _ ((((p2 - ax ((6 * p4) + 4).toNat) + ax ((6 * p4) + 2).toNat) + ax ((6 * p4) + 3).toNat) - z2) () hP hD hS h (Nat.le_of_ble_eq_true rfl) (Nat.le_of_ble_eq_true rfl) dL_empty_58
  · have h := h.2.2 c1
    refine lv_iconst (v := iI 0) hx hb dL_empty_17 rfl ?_
    refine lv_goto (tgt := 58) hx hb dL_empty_18 (by decide) ?_
    exact hend _ _ _ _ _ _ 0 () hP hD hS h (Nat.le_of_ble_eq_true rfl) (Nat.le_of_ble_eq_true rfl) dL_empty_58
abbrev rmL_uneven : Room := { frames := 4, cells := 0, slots := 0, locals := 93 }
set_option maxHeartbeats 4000000 in
set_option maxRecDepth 100000 in
theorem kL_uneven (l : Launch) (X : XD) (a_ag a_ae a_ax a_ay : Nat) (ag : Nat → Int) (ae : Nat → Int) (ax : Nat → Int) (ay : Nat → Int) (p2 : Int) (post : Int → Prop) (h : wpL_uneven ag ae ax ay p2 post) : MCi l yL_uneven wsL_uneven rmL_uneven X [.ref a_ag, .ref a_ae, .int (iI p2), .ref a_ax, .ref a_ay] [(a_ag, eI X 15 ag), (a_ae, eI X 50 ae), (a_ax, eI X 60 ax), (a_ay, eI X 22 ay)] (S := Unit) (fun _ => [(a_ag, eI X 15 ag), (a_ae, eI X 50 ae), (a_ax, eI X 60 ax), (a_ay, eI X 22 ay)]) (fun z _ => post z) 0 0 := by
  refine MCi.of (cc := cL_uneven) (maxL := 8) (by decide +kernel) rfl rfl ?_
  intro p e s m args below meth c A ls Q hE0 hP hD hS hl hend
  obtain ⟨hx, hb, hr, hml, hlocks, hown, hts, hK, hE, hA, hnm⟩ := hE0
  have hl : lv_has ls 8 [(0, .ref a_ag), (1, .ref a_ae), (2, .int (iI p2)), (3, .ref a_ax), (4, .ref a_ay)] := hl
  have B64 : ∀ (k6 : Int → Int → Int → Prop) (hk6 : ∀ (v2 : Int) (v5 : Int) (v6 : Int), k6 v2 v5 v6 → ∀ (H : Heap) (locs : List Loc) (ls : Array Slot), va_P X.1 vwCl [(a_ag, eI X 15 ag), (a_ae, eI X 50 ae), (a_ax, eI X 60 ax), (a_ay, eI X 22 ay)] H → va_D A [(a_ag, eI X 15 ag), (a_ae, eI X 50 ae), (a_ax, eI X 60 ax), (a_ay, eI X 22 ay)] → va_S A s.heap H locs → lv_has ls 8 [(0, .ref a_ag), (1, .ref a_ae), (2, .int (iI v2)), (3, .ref a_ax), (4, .ref a_ay), (5, .int (iI v5)), (6, .int (iI v6))] → W p l e rmL_uneven s m args below meth c H locs 0 0 Q (F0 m 6 ls [])) (v2 : Int) (v6 : Int) (w0 : Int) (w1 : Int), wpL_uneven_64 ag ae ax ay post k6 v2 v6 w0 w1 → ∀ (H : Heap) (locs : List Loc) (ls : Array Slot), va_P X.1 vwCl [(a_ag, eI X 15 ag), (a_ae, eI X 50 ae), (a_ax, eI X 60 ax), (a_ay, eI X 22 ay)] H → va_D A [(a_ag, eI X 15 ag), (a_ae, eI X 50 ae), (a_ax, eI X 60 ax), (a_ay, eI X 22 ay)] → va_S A s.heap H locs → lv_has ls 8 [(0, .ref a_ag), (1, .ref a_ae), (2, .int (iI v2)), (3, .ref a_ax), (4, .ref a_ay), (6, .int (iI v6))] → W p l e rmL_uneven s m args below meth c H locs 0 0 Q (F0 m 64 ls [.int (iI w0), .int (iI w1)]) := by
    intro k6 hk6 v2 v6 w0 w1 h H locs ls hP hD hS hl
    refine i_add hx hb dL_uneven_64 ?_
    refine lv_istore (lv' := [(5, .int (iI (w1 + w0))), (0, .ref a_ag), (1, .ref a_ae), (2, .int (iI v2)), (3, .ref a_ax), (4, .ref a_ay), (6, .int (iI v6))]) hx hb dL_uneven_65 hl (by decide) rfl (fun ls hl => ?_)
    refine lv_iinc (v := iI (v6 + 1)) (lv' := [(6, .int (iI (v6 + 1))), (5, .int (iI (w1 + w0))), (0, .ref a_ag), (1, .ref a_ae), (2, .int (iI v2)), (3, .ref a_ax), (4, .ref a_ay)]) hx hb dL_uneven_67 hl (k := 6) rfl (iI_add _ _) (by decide) rfl (fun ls hl => ?_)
    refine lv_goto (tgt := 6) hx hb dL_uneven_70 (by decide) ?_
    exact hk6 v2 (w1 + w0) (v6 + 1) h _ _ _ hP hD hS (lv_sub hl [2, 3, 4, 5, 6, 1, 0] rfl)
  have B6 : ∀ (n : Nat) (v2 : Int) (v5 : Int) (v6 : Int), wpL_uneven_6 ag ae ax ay post n v2 v5 v6 → ∀ (H : Heap) (locs : List Loc) (ls : Array Slot), va_P X.1 vwCl [(a_ag, eI X 15 ag), (a_ae, eI X 50 ae), (a_ax, eI X 60 ax), (a_ay, eI X 22 ay)] H → va_D A [(a_ag, eI X 15 ag), (a_ae, eI X 50 ae), (a_ax, eI X 60 ax), (a_ay, eI X 22 ay)] → va_S A s.heap H locs → lv_has ls 8 [(0, .ref a_ag), (1, .ref a_ae), (2, .int (iI v2)), (3, .ref a_ax), (4, .ref a_ay), (5, .int (iI v5)), (6, .int (iI v6))] → W p l e rmL_uneven s m args below meth c H locs 0 0 Q (F0 m 6 ls []) := by
    intro  n
    induction n with
    | zero => intro v2 v5 v6 h; exact h.elim
    | succ n ih =>
      intro v2 v5 v6 h H locs ls hP hD hS hl
      refine lv_iload hx hb dL_uneven_6 (lv_at hl 6 rfl) ?_
      refine lv_aload hx hb dL_uneven_8 (lv_at hl 4 rfl) ?_
      refine lv_iconst (v := iI 0) hx hb dL_uneven_10 rfl ?_
      refine i_ald hx hb hK hP 3 0 rfl rfl (by decide) (by decide) rfl (Nat.le_of_ble_eq_true rfl) dL_uneven_11 ?_
      refine i_cmp_ge (tgt := 73) hx hb h.1 h.2.1 dL_uneven_12 (by decide) (fun c1 => ?_) (fun c1 => ?_)
      · have h := h.2.2.1 c1
        refine lv_iload hx hb dL_uneven_73 (lv_at hl 5 rfl) ?_
        exact hend _ _ _ _ _ _ v5 () hP hD hS h (Nat.le_of_ble_eq_true rfl) (Nat.le_of_ble_eq_true rfl) dL_uneven_75
      · have h := h.2.2.2 c1
        refine lv_aload_n hx hb dL_uneven_15 rfl (lv_at hl 0 rfl) ?_
        refine lv_aload_n hx hb dL_uneven_16 rfl (lv_at hl 1 rfl) ?_
        refine lv_iload_n hx hb dL_uneven_17 rfl (lv_at hl 2 rfl) ?_
        refine lv_aload_n hx hb dL_uneven_18 rfl (lv_at hl 3 rfl) ?_
        refine lv_iload hx hb dL_uneven_19 (lv_at hl 6 rfl) ?_
        refine e_i (isC := [0, 1, 2]) (isR := [3]) (wr := [(a_ay, eI X 22 ay)]) (va_runS (As := [.ref a_ag, .ref a_ae, .int (iI v2), .ref a_ax, .int (iI v6)]) (rest := []) ⟨hx, hb, hml, hown, hts⟩ (kL_empty l X a_ag a_ae a_ax ag ae ax v2 v6 _ h _) (va_cwS 5 hts gL_uneven_L_empty rfl rfl rfl (by decide +kernel) ⟨(Nat.le_of_ble_eq_true rfl), (Nat.le_of_ble_eq_true rfl)⟩) ⟨pre_blind, pre_cut hE hK hA hP hD hS (isC := [0, 1, 2]) rfl (by decide +kernel)⟩ rfl rfl hl.1 rfl (lv_room (Nat.le_of_ble_eq_true rfl)) dL_uneven_21 ⟨(Nat.le_of_ble_eq_true rfl), (Nat.le_of_ble_eq_true rfl)⟩) hA hP hD hS rfl rfl (by decide +kernel) (by decide +kernel) (fun z2 u2 H locs h hP hD hS => ?_)
        have hP : va_P X.1 vwCl [(a_ay, eI X 22 ay), (a_ag, eI X 15 ag), (a_ae, eI X 50 ae), (a_ax, eI X 60 ax)] H := hP
        have hD : va_D A [(a_ay, eI X 22 ay), (a_ag, eI X 15 ag), (a_ae, eI X 50 ae), (a_ax, eI X 60 ax)] := hD
        refine lv_istore (lv' := [(7, .int (iI z2)), (0, .ref a_ag), (1, .ref a_ae), (2, .int (iI v2)), (3, .ref a_ax), (4, .ref a_ay), (5, .int (iI v5)), (6, .int (iI v6))]) hx hb dL_uneven_24 hl (by decide) rfl (fun ls hl => ?_)
        refine lv_iload hx hb dL_uneven_26 (lv_at hl 6 rfl) ?_
        refine lv_aload_n hx hb dL_uneven_28 rfl (lv_at hl 1 rfl) ?_
        refine lv_aload_n hx hb dL_uneven_29 rfl (lv_at hl 2 rfl) ?_
        refine lv_aload_n hx hb dL_uneven_30 rfl (lv_at hl 4 rfl) ?_
        refine lv_bipush (v := iI 6) hx hb dL_uneven_31 (by decide +kernel) ?_
        refine lv_iload hx hb dL_uneven_33 (lv_at hl 7 rfl) ?_
        refine i_mul hx hb dL_uneven_35 ?_
        refine i_ald hx hb hK hP 3 0 rfl rfl h.1 h.2.1 rfl (Nat.le_of_ble_eq_true rfl) dL_uneven_36 ?_
        have h := h.2.2
        refine lv_aload_n hx hb dL_uneven_37 rfl (lv_at hl 4 rfl) ?_
        refine lv_bipush (v := iI 6) hx hb dL_uneven_38 (by decide +kernel) ?_
        refine lv_iload hx hb dL_uneven_40 (lv_at hl 7 rfl) ?_
        refine i_mul hx hb dL_uneven_42 ?_
        refine lv_iconst (v := iI 1) hx hb dL_uneven_43 rfl ?_
        refine i_add hx hb dL_uneven_44 ?_
        refine i_ald hx hb hK hP 3 0 rfl rfl h.1 h.2.1 rfl (Nat.le_of_ble_eq_true rfl) dL_uneven_45 ?_
        have h := h.2.2
        refine i_add hx hb dL_uneven_46 ?_
        refine lv_iconst (v := iI 1) hx hb dL_uneven_47 rfl ?_
        refine i_sub hx hb dL_uneven_48 ?_
        refine e_i (isC := [1, 2]) (isR := [0, 3]) (wr := [(a_ay, eI X 22 ay), (a_ax, eI X 60 ax)]) (va_runS (As := [.ref a_ag, .ref a_ae, .int (iI ((ax (6 * v6).toNat + ax ((6 * v6) + 1).toNat) - 1))]) (rest := [.int (iI v5)]) ⟨hx, hb, hml, hown, hts⟩ (kL_closes l X a_ag a_ae ag ae ((ax (6 * v6).toNat + ax ((6 * v6) + 1).toNat) - 1) _ h _) (va_cwS 3 hts gL_uneven_L_closes rfl rfl rfl (by decide +kernel) ⟨(Nat.le_of_ble_eq_true rfl), (Nat.le_of_ble_eq_true rfl)⟩) ⟨pre_blind, pre_cut hE hK hA hP hD hS (isC := [1, 2]) rfl (by decide +kernel)⟩ rfl rfl hl.1 rfl (lv_room (Nat.le_of_ble_eq_true rfl)) dL_uneven_49 ⟨(Nat.le_of_ble_eq_true rfl), (Nat.le_of_ble_eq_true rfl)⟩) hA hP hD hS rfl rfl (by decide +kernel) (by decide +kernel) (fun z3 u3 H locs h hP hD hS => ?_)
        have hP : va_P X.1 vwCl [(a_ay, eI X 22 ay), (a_ax, eI X 60 ax), (a_ag, eI X 15 ag), (a_ae, eI X 50 ae)] H := hP
        have hD : va_D A [(a_ay, eI X 22 ay), (a_ax, eI X 60 ax), (a_ag, eI X 15 ag), (a_ae, eI X 50 ae)] := hD
        refine i_if_eq (tgt := 59) hx hb h.1 dL_uneven_52 (by decide) (fun c4 => ?_) (fun c4 => ?_)
        · have h := h.2.1 c4
          refine lv_iload hx hb dL_uneven_59 (lv_at hl 0 rfl) ?_
          refine lv_iload hx hb dL_uneven_61 (lv_at hl 0 rfl) ?_
          refine i_mul hx hb dL_uneven_63 ?_
          have hP := hP.sub (ws' := [(a_ag, eI X 15 ag), (a_ae, eI X 50 ae), (a_ax, eI X 60 ax), (a_ay, eI X 22 ay)]) [2, 3, 1, 0] rfl
          have hD := hD.sub (ws' := [(a_ag, eI X 15 ag), (a_ae, eI X 50 ae), (a_ax, eI X 60 ax), (a_ay, eI X 22 ay)]) [2, 3, 1, 0] (by decide +kernel) rfl
          exact B64 (wpL_uneven_6 ag ae ax ay post n) ih v2 v6 (z2 * z2) v5 h _ _ _ hP hD hS (lv_sub hl [1, 2, 3, 4, 5, 7] rfl)
        · have h := h.2.2 c4
          refine lv_iconst (v := iI 0) hx hb dL_uneven_55 rfl ?_
          refine lv_goto (tgt := 64) hx hb dL_uneven_56 (by decide) ?_
          have hP := hP.sub (ws' := [(a_ag, eI X 15 ag), (a_ae, eI X 50 ae), (a_ax, eI X 60 ax), (a_ay, eI X 22 ay)]) [2, 3, 1, 0] rfl
          have hD := hD.sub (ws' := [(a_ag, eI X 15 ag), (a_ae, eI X 50 ae), (a_ax, eI X 60 ax), (a_ay, eI X 22 ay)]) [2, 3, 1, 0] (by decide +kernel) rfl
          exact B64 (wpL_uneven_6 ag ae ax ay post n) ih v2 v6 0 v5 h _ _ _ hP hD hS (lv_sub hl [1, 2, 3, 4, 5, 7] rfl)
  refine lv_iconst (v := iI 0) hx hb dL_uneven_0 rfl ?_
  refine lv_istore (lv' := [(5, .int (iI 0)), (0, .ref a_ag), (1, .ref a_ae), (2, .int (iI p2)), (3, .ref a_ax), (4, .ref a_ay)]) hx hb dL_uneven_1 hl (by decide) rfl (fun ls hl => ?_)
  refine lv_iconst (v := iI 0) hx hb dL_uneven_3 rfl ?_
  refine lv_istore (lv' := [(6, .int (iI 0)), (5, .int (iI 0)), (0, .ref a_ag), (1, .ref a_ae), (2, .int (iI p2)), (3, .ref a_ax), (4, .ref a_ay)]) hx hb dL_uneven_4 hl (by decide) rfl (fun ls hl => ?_)
  obtain ⟨n1, h⟩ := h
  exact B6  n1 p2 0 0 h _ _ _ hP hD hS (lv_sub hl [2, 3, 4, 5, 6, 1, 0] rfl)
abbrev rmL_starts : Room := { frames := 0, cells := 0, slots := 0, locals := 0 }
set_option maxHeartbeats 4000000 in
set_option maxRecDepth 100000 in
theorem kL_starts (l : Launch) (X : XD) (a_ag : Nat) (ag : Nat → Int) (post : (Nat → Int) → Prop) (h : wpL_starts ag post) : MCv l yL_starts wsL_starts rmL_starts X [.ref a_ag] [(a_ag, eI X 15 ag)] (S := Nat → Int) (fun u => [(a_ag, eI X 15 u)]) (fun u => post u) 0 0 := by
  refine MCv.of (cc := cL_starts) (maxL := 2) (by decide +kernel) rfl rfl ?_
  intro p e s m args below meth c A ls Q hE0 hP hD hS hl hend
  obtain ⟨hx, hb, hr, hml, hlocks, hown, hts, hK, hE, hA, hnm⟩ := hE0
  have hl : lv_has ls 2 [(0, .ref a_ag)] := hl
  have B57 : ∀ (k28 : (Nat → Int) → Int → Prop) (hk28 : ∀ (ag : Nat → Int) (v1 : Int), k28 ag v1 → ∀ (H : Heap) (locs : List Loc) (ls : Array Slot), va_P X.1 vwCl [(a_ag, eI X 15 ag)] H → va_D A [(a_ag, eI X 15 ag)] → va_S A s.heap H locs → lv_has ls 2 [(0, .ref a_ag), (1, .int (iI v1))] → W p l e rmL_starts s m args below meth c H locs 0 0 Q (F0 m 28 ls [])) (ag : Nat → Int) (v1 : Int) (w0 : Int) (w1 : Int), wpL_starts_57 post k28 ag v1 w0 w1 → ∀ (H : Heap) (locs : List Loc) (ls : Array Slot), va_P X.1 vwCl [(a_ag, eI X 15 ag)] H → va_D A [(a_ag, eI X 15 ag)] → va_S A s.heap H locs → lv_has ls 2 [(0, .ref a_ag), (1, .int (iI v1))] → W p l e rmL_starts s m args below meth c H locs 0 0 Q (F0 m 57 ls [.int (iI w0), .int (iI w1), .ref a_ag]) := by
    intro k28 hk28 ag v1 w0 w1 h H locs ls hP hD hS hl
    refine i_ast hx hb hK hP hD hS 0 0 rfl rfl h.1 h.2.1 rfl (Nat.le_of_ble_eq_true rfl) dL_starts_57 (fun H locs hP hD hS => ?_)
    have hP : va_P X.1 vwCl [(a_ag, eI X 15 (updI ag (w1).toNat w0))] H := hP
    have hD : va_D A [(a_ag, eI X 15 (updI ag (w1).toNat w0))] := hD
    have h := h.2.2
    refine lv_iinc (v := iI (v1 + 1)) (lv' := [(1, .int (iI (v1 + 1))), (0, .ref a_ag)]) hx hb dL_starts_58 hl (k := 1) rfl (iI_add _ _) (by decide) rfl (fun ls hl => ?_)
    refine lv_goto (tgt := 28) hx hb dL_starts_61 (by decide) ?_
    exact hk28 (updI ag (w1).toNat w0) (v1 + 1) h _ _ _ hP hD hS (lv_sub hl [1, 0] rfl)
  have B55 : ∀ (k28 : (Nat → Int) → Int → Prop) (hk28 : ∀ (ag : Nat → Int) (v1 : Int), k28 ag v1 → ∀ (H : Heap) (locs : List Loc) (ls : Array Slot), va_P X.1 vwCl [(a_ag, eI X 15 ag)] H → va_D A [(a_ag, eI X 15 ag)] → va_S A s.heap H locs → lv_has ls 2 [(0, .ref a_ag), (1, .int (iI v1))] → W p l e rmL_starts s m args below meth c H locs 0 0 Q (F0 m 28 ls [])) (ag : Nat → Int) (v1 : Int) (w0 : Int), wpL_starts_55 post k28 ag v1 w0 → ∀ (H : Heap) (locs : List Loc) (ls : Array Slot), va_P X.1 vwCl [(a_ag, eI X 15 ag)] H → va_D A [(a_ag, eI X 15 ag)] → va_S A s.heap H locs → lv_has ls 2 [(0, .ref a_ag), (1, .int (iI v1))] → W p l e rmL_starts s m args below meth c H locs 0 0 Q (F0 m 55 ls [.int (iI w0), .ref a_ag]) := by
    intro k28 hk28 ag v1 w0 h H locs ls hP hD hS hl
    refine lv_bipush (v := iI 50) hx hb dL_starts_55 (by decide +kernel) ?_
    exact B57 k28 hk28 ag v1 50 w0 h _ _ _ hP hD hS (lv_sub hl [0, 1] rfl)
  have B28 : ∀ (n : Nat) (ag : Nat → Int) (v1 : Int), wpL_starts_28 post n ag v1 → ∀ (H : Heap) (locs : List Loc) (ls : Array Slot), va_P X.1 vwCl [(a_ag, eI X 15 ag)] H → va_D A [(a_ag, eI X 15 ag)] → va_S A s.heap H locs → lv_has ls 2 [(0, .ref a_ag), (1, .int (iI v1))] → W p l e rmL_starts s m args below meth c H locs 0 0 Q (F0 m 28 ls []) := by
    intro  n
    induction n with
    | zero => intro ag v1 h; exact h.elim
    | succ n ih =>
      intro ag v1 h H locs ls hP hD hS hl
      refine lv_iload_n hx hb dL_starts_28 rfl (lv_at hl 1 rfl) ?_
      refine lv_bipush (v := iI 8) hx hb dL_starts_29 (by decide +kernel) ?_
      refine i_cmp_ge (tgt := 64) hx hb h.1 (inR_lit rfl) dL_starts_31 (by decide) (fun c1 => ?_) (fun c1 => ?_)
      · have h := h.2.1 c1
        exact hend _ _ _ _ _ _ ag hP hD hS h (Nat.le_of_ble_eq_true rfl) (Nat.le_of_ble_eq_true rfl) dL_starts_64
      · have h := h.2.2 c1
        refine lv_aload_n hx hb dL_starts_34 rfl (lv_at hl 0 rfl) ?_
        refine lv_bipush (v := iI 6) hx hb dL_starts_35 (by decide +kernel) ?_
        refine lv_iload_n hx hb dL_starts_37 rfl (lv_at hl 1 rfl) ?_
        refine i_add hx hb dL_starts_38 ?_
        refine lv_iload_n hx hb dL_starts_39 rfl (lv_at hl 1 rfl) ?_
        refine lv_iconst (v := iI 2) hx hb dL_starts_40 rfl ?_
        refine i_cmp_le (tgt := 55) hx hb h.1 (inR_lit rfl) dL_starts_41 (by decide) (fun c2 => ?_) (fun c2 => ?_)
        · have h := h.2.1 c2
          exact B55 (wpL_starts_28 post n) ih ag v1 (6 + v1) h _ _ _ hP hD hS (lv_sub hl [0, 1] rfl)
        · have h := h.2.2 c2
          refine lv_iload_n hx hb dL_starts_44 rfl (lv_at hl 1 rfl) ?_
          refine lv_bipush (v := iI 6) hx hb dL_starts_45 (by decide +kernel) ?_
          refine i_cmp_ge (tgt := 55) hx hb h.1 (inR_lit rfl) dL_starts_47 (by decide) (fun c3 => ?_) (fun c3 => ?_)
          · have h := h.2.1 c3
            exact B55 (wpL_starts_28 post n) ih ag v1 (6 + v1) h _ _ _ hP hD hS (lv_sub hl [0, 1] rfl)
          · have h := h.2.2 c3
            refine lv_bipush (v := iI 100) hx hb dL_starts_50 (by decide +kernel) ?_
            refine lv_goto (tgt := 57) hx hb dL_starts_52 (by decide) ?_
            exact B57 (wpL_starts_28 post n) ih ag v1 100 (6 + v1) h _ _ _ hP hD hS (lv_sub hl [0, 1] rfl)
  refine lv_aload_n hx hb dL_starts_0 rfl (lv_at hl 0 rfl) ?_
  refine lv_iconst (v := iI 0) hx hb dL_starts_1 rfl ?_
  refine lv_bipush (v := iI 60) hx hb dL_starts_2 (by decide +kernel) ?_
  refine i_ast hx hb hK hP hD hS 0 0 rfl rfl (by decide) (by decide) rfl (Nat.le_of_ble_eq_true rfl) dL_starts_4 (fun H locs hP hD hS => ?_)
  have hP : va_P X.1 vwCl [(a_ag, eI X 15 (updI ag 0 60))] H := hP
  have hD : va_D A [(a_ag, eI X 15 (updI ag 0 60))] := hD
  refine lv_aload_n hx hb dL_starts_5 rfl (lv_at hl 0 rfl) ?_
  refine lv_iconst (v := iI 1) hx hb dL_starts_6 rfl ?_
  refine lv_bipush (v := iI 6) hx hb dL_starts_7 (by decide +kernel) ?_
  refine i_ast hx hb hK hP hD hS 0 0 rfl rfl (by decide) (by decide) rfl (Nat.le_of_ble_eq_true rfl) dL_starts_9 (fun H locs hP hD hS => ?_)
  have hP : va_P X.1 vwCl [(a_ag, eI X 15 (updI (updI ag 0 60) 1 6))] H := hP
  have hD : va_D A [(a_ag, eI X 15 (updI (updI ag 0 60) 1 6))] := hD
  refine lv_aload_n hx hb dL_starts_10 rfl (lv_at hl 0 rfl) ?_
  refine lv_iconst (v := iI 2) hx hb dL_starts_11 rfl ?_
  refine lv_iconst (v := iI 3) hx hb dL_starts_12 rfl ?_
  refine i_ast hx hb hK hP hD hS 0 0 rfl rfl (by decide) (by decide) rfl (Nat.le_of_ble_eq_true rfl) dL_starts_13 (fun H locs hP hD hS => ?_)
  have hP : va_P X.1 vwCl [(a_ag, eI X 15 (updI (updI (updI ag 0 60) 1 6) 2 3))] H := hP
  have hD : va_D A [(a_ag, eI X 15 (updI (updI (updI ag 0 60) 1 6) 2 3))] := hD
  refine lv_aload_n hx hb dL_starts_14 rfl (lv_at hl 0 rfl) ?_
  refine lv_iconst (v := iI 3) hx hb dL_starts_15 rfl ?_
  refine lv_iconst (v := iI 3) hx hb dL_starts_16 rfl ?_
  refine i_ast hx hb hK hP hD hS 0 0 rfl rfl (by decide) (by decide) rfl (Nat.le_of_ble_eq_true rfl) dL_starts_17 (fun H locs hP hD hS => ?_)
  have hP : va_P X.1 vwCl [(a_ag, eI X 15 (updI (updI (updI (updI ag 0 60) 1 6) 2 3) 3 3))] H := hP
  have hD : va_D A [(a_ag, eI X 15 (updI (updI (updI (updI ag 0 60) 1 6) 2 3) 3 3))] := hD
  refine lv_aload_n hx hb dL_starts_18 rfl (lv_at hl 0 rfl) ?_
  refine lv_iconst (v := iI 4) hx hb dL_starts_19 rfl ?_
  refine lv_iconst (v := iI 2) hx hb dL_starts_20 rfl ?_
  refine i_ast hx hb hK hP hD hS 0 0 rfl rfl (by decide) (by decide) rfl (Nat.le_of_ble_eq_true rfl) dL_starts_21 (fun H locs hP hD hS => ?_)
  have hP : va_P X.1 vwCl [(a_ag, eI X 15 (updI (updI (updI (updI (updI ag 0 60) 1 6) 2 3) 3 3) 4 2))] H := hP
  have hD : va_D A [(a_ag, eI X 15 (updI (updI (updI (updI (updI ag 0 60) 1 6) 2 3) 3 3) 4 2))] := hD
  refine lv_aload_n hx hb dL_starts_22 rfl (lv_at hl 0 rfl) ?_
  refine lv_iconst (v := iI 5) hx hb dL_starts_23 rfl ?_
  refine lv_iconst (v := iI 1) hx hb dL_starts_24 rfl ?_
  refine i_ast hx hb hK hP hD hS 0 0 rfl rfl (by decide) (by decide) rfl (Nat.le_of_ble_eq_true rfl) dL_starts_25 (fun H locs hP hD hS => ?_)
  have hP : va_P X.1 vwCl [(a_ag, eI X 15 (updI (updI (updI (updI (updI (updI ag 0 60) 1 6) 2 3) 3 3) 4 2) 5 1))] H := hP
  have hD : va_D A [(a_ag, eI X 15 (updI (updI (updI (updI (updI (updI ag 0 60) 1 6) 2 3) 3 3) 4 2) 5 1))] := hD
  refine lv_iconst (v := iI 0) hx hb dL_starts_26 rfl ?_
  refine lv_istore_n (lv' := [(1, .int (iI 0)), (0, .ref a_ag)]) hx hb dL_starts_27 rfl hl (by decide) rfl (fun ls hl => ?_)
  obtain ⟨n1, h⟩ := h
  exact B28  n1 (updI (updI (updI (updI (updI (updI ag 0 60) 1 6) 2 3) 3 3) 4 2) 5 1) 0 h _ _ _ hP hD hS (lv_sub hl [1, 0] rfl)
