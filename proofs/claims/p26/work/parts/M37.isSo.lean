abbrev rmL_isSo : Room := { frames := 9, cells := 7, slots := 42, locals := 149 }
set_option maxHeartbeats 4000000 in
set_option maxRecDepth 100000 in
theorem kL_isSo (l : Launch) (hst : l.stackTraces = false) (X : XD) (a_ag a_ae a_ax a_ay : Nat) (ad : Nat → Nat) (ag : Nat → Int) (ae : Nat → Int) (ax : Nat → Int) (ay : Nat → Int) (sg : OS) (post : Int → (Nat → Int) → (Nat → Int) → Prop) (h : wpL_isSo ag ae ax ay sg post) : MCi l yL_isSo wsL_isSo rmL_isSo X [.ref (ad 0), .ref a_ag, .ref a_ae, .ref a_ax, .ref a_ay] ([(a_ag, eI X 15 ag), (a_ae, eI X 50 ae), (a_ax, eI X 60 ax), (a_ay, eI X 22 ay)] ++ wo X ad sg) (S := (Nat → Int) × (Nat → Int)) (fun u => ([(a_ag, eI X 15 ag), (a_ae, eI X 50 ae), (a_ax, eI X 60 u.1), (a_ay, eI X 22 u.2)] ++ wo X ad sg)) (fun z u => post z u.1 u.2) 7 42 := by
  refine MCz.of (cc := cL_isSo) (maxL := 23) (by decide +kernel) rfl rfl ?_
  intro p e s m args below meth c A ls Q hE0 hP hD hS hl hend
  obtain ⟨hx, hb, hr, hml, hlocks, hown, hts, hK, hE, hA, hnm⟩ := hE0
  have hl : lv_has ls 23 [(0, .ref (ad 0)), (1, .ref a_ag), (2, .ref a_ae), (3, .ref a_ax), (4, .ref a_ay)] := hl
  have B140 : ∀ (k86 : (Nat → Int) → (Nat → Int) → Int → Int → Int → Int → Int → Int → Int → Int → Prop) (hk86 : ∀ (ax : Nat → Int) (ay : Nat → Int) (v5 : Int) (v6 : Int) (v7 : Int) (v8 : Int) (v9 : Int) (v10 : Int) (v11 : Int) (v12 : Int), k86 ax ay v5 v6 v7 v8 v9 v10 v11 v12 → ∀ (H : Heap) (locs : List Loc) (ls : Array Slot), va_P X.1 vwCl ([(a_ag, eI X 15 ag), (a_ae, eI X 50 ae), (a_ax, eI X 60 ax), (a_ay, eI X 22 ay)] ++ wo X ad sg) H → va_D A ([(a_ag, eI X 15 ag), (a_ae, eI X 50 ae), (a_ax, eI X 60 ax), (a_ay, eI X 22 ay)] ++ wo X ad sg) → va_S A s.heap H locs → lv_has ls 23 [(0, .ref (ad 0)), (1, .ref a_ag), (2, .ref a_ae), (3, .ref a_ax), (4, .ref a_ay), (5, .int (iI v5)), (6, .int (iI v6)), (7, .int (iI v7)), (8, .int (iI v8)), (9, .int (iI v9)), (10, .int (iI v10)), (11, .int (iI v11)), (12, .int (iI v12))] → W p l e rmL_isSo s m args below meth c H locs 1 6 Q (F0 m 86 ls [])) (ax : Nat → Int) (ay : Nat → Int) (v5 : Int) (v6 : Int) (v7 : Int) (v8 : Int) (v9 : Int) (v10 : Int) (v12 : Int) (w0 : Int), wpL_isSo_140 ag ae sg post k86 ax ay v5 v6 v7 v8 v9 v10 v12 w0 → ∀ (H : Heap) (locs : List Loc) (ls : Array Slot), va_P X.1 vwCl ([(a_ag, eI X 15 ag), (a_ae, eI X 50 ae), (a_ax, eI X 60 ax), (a_ay, eI X 22 ay)] ++ wo X ad sg) H → va_D A ([(a_ag, eI X 15 ag), (a_ae, eI X 50 ae), (a_ax, eI X 60 ax), (a_ay, eI X 22 ay)] ++ wo X ad sg) → va_S A s.heap H locs → lv_has ls 23 [(0, .ref (ad 0)), (1, .ref a_ag), (2, .ref a_ae), (3, .ref a_ax), (4, .ref a_ay), (5, .int (iI v5)), (6, .int (iI v6)), (7, .int (iI v7)), (8, .int (iI v8)), (9, .int (iI v9)), (10, .int (iI v10)), (12, .int (iI v12))] → W p l e rmL_isSo s m args below meth c H locs 1 6 Q (F0 m 140 ls [.int (iI w0)]) := by
    intro k86 hk86 ax ay v5 v6 v7 v8 v9 v10 v12 w0 h H locs ls hP hD hS hl
    refine lv_istore (lv' := [(11, .int (iI w0)), (0, .ref (ad 0)), (1, .ref a_ag), (2, .ref a_ae), (3, .ref a_ax), (4, .ref a_ay), (5, .int (iI v5)), (6, .int (iI v6)), (7, .int (iI v7)), (8, .int (iI v8)), (9, .int (iI v9)), (10, .int (iI v10)), (12, .int (iI v12))]) hx hb dL_isSo_140 hl (by decide) rfl (fun ls hl => ?_)
    refine lv_iinc (v := iI (v12 + 1)) (lv' := [(12, .int (iI (v12 + 1))), (11, .int (iI w0)), (0, .ref (ad 0)), (1, .ref a_ag), (2, .ref a_ae), (3, .ref a_ax), (4, .ref a_ay), (5, .int (iI v5)), (6, .int (iI v6)), (7, .int (iI v7)), (8, .int (iI v8)), (9, .int (iI v9)), (10, .int (iI v10))]) hx hb dL_isSo_142 hl (k := 12) rfl (iI_add _ _) (by decide) rfl (fun ls hl => ?_)
    refine lv_goto (tgt := 86) hx hb dL_isSo_145 (by decide) ?_
    refine W.widen (k := 1) (n := 6) (Nat.le_of_ble_eq_true rfl) (Nat.le_of_ble_eq_true rfl) ?_
    exact hk86 ax ay v5 v6 v7 v8 v9 v10 w0 (v12 + 1) h _ _ _ hP hD hS (lv_sub hl [2, 3, 4, 5, 6, 7, 8, 9, 10, 11, 12, 1, 0] rfl)
  have B139 : ∀ (k86 : (Nat → Int) → (Nat → Int) → Int → Int → Int → Int → Int → Int → Int → Int → Prop) (hk86 : ∀ (ax : Nat → Int) (ay : Nat → Int) (v5 : Int) (v6 : Int) (v7 : Int) (v8 : Int) (v9 : Int) (v10 : Int) (v11 : Int) (v12 : Int), k86 ax ay v5 v6 v7 v8 v9 v10 v11 v12 → ∀ (H : Heap) (locs : List Loc) (ls : Array Slot), va_P X.1 vwCl ([(a_ag, eI X 15 ag), (a_ae, eI X 50 ae), (a_ax, eI X 60 ax), (a_ay, eI X 22 ay)] ++ wo X ad sg) H → va_D A ([(a_ag, eI X 15 ag), (a_ae, eI X 50 ae), (a_ax, eI X 60 ax), (a_ay, eI X 22 ay)] ++ wo X ad sg) → va_S A s.heap H locs → lv_has ls 23 [(0, .ref (ad 0)), (1, .ref a_ag), (2, .ref a_ae), (3, .ref a_ax), (4, .ref a_ay), (5, .int (iI v5)), (6, .int (iI v6)), (7, .int (iI v7)), (8, .int (iI v8)), (9, .int (iI v9)), (10, .int (iI v10)), (11, .int (iI v11)), (12, .int (iI v12))] → W p l e rmL_isSo s m args below meth c H locs 1 6 Q (F0 m 86 ls [])) (ax : Nat → Int) (ay : Nat → Int) (v5 : Int) (v6 : Int) (v7 : Int) (v8 : Int) (v9 : Int) (v10 : Int) (v12 : Int), wpL_isSo_139 ag ae sg post k86 ax ay v5 v6 v7 v8 v9 v10 v12 → ∀ (H : Heap) (locs : List Loc) (ls : Array Slot), va_P X.1 vwCl ([(a_ag, eI X 15 ag), (a_ae, eI X 50 ae), (a_ax, eI X 60 ax), (a_ay, eI X 22 ay)] ++ wo X ad sg) H → va_D A ([(a_ag, eI X 15 ag), (a_ae, eI X 50 ae), (a_ax, eI X 60 ax), (a_ay, eI X 22 ay)] ++ wo X ad sg) → va_S A s.heap H locs → lv_has ls 23 [(0, .ref (ad 0)), (1, .ref a_ag), (2, .ref a_ae), (3, .ref a_ax), (4, .ref a_ay), (5, .int (iI v5)), (6, .int (iI v6)), (7, .int (iI v7)), (8, .int (iI v8)), (9, .int (iI v9)), (10, .int (iI v10)), (12, .int (iI v12))] → W p l e rmL_isSo s m args below meth c H locs 1 6 Q (F0 m 139 ls []) := by
    intro k86 hk86 ax ay v5 v6 v7 v8 v9 v10 v12 h H locs ls hP hD hS hl
    refine lv_iconst (v := iI 0) hx hb dL_isSo_139 rfl ?_
    refine W.widen (k := 1) (n := 6) (Nat.le_of_ble_eq_true rfl) (Nat.le_of_ble_eq_true rfl) ?_
    exact B140 k86 hk86 ax ay v5 v6 v7 v8 v9 v10 v12 0 h _ _ _ hP hD hS (lv_sub hl [0, 1, 2, 3, 4, 5, 6, 7, 8, 9, 10, 11] rfl)
  have B1041 : ∀ (ax : Nat → Int) (ay : Nat → Int) (v5 : Int) (v6 : Int) (v7 : Int) (v8 : Int) (v9 : Int) (v11 : Int) (w0 : UInt64), wpL_isSo_1041 ag ae sg post ax ay v5 v6 v7 v8 v9 v11 w0 → ∀ (H : Heap) (locs : List Loc) (ls : Array Slot), va_P X.1 vwCl ([(a_ag, eI X 15 ag), (a_ae, eI X 50 ae), (a_ax, eI X 60 ax), (a_ay, eI X 22 ay)] ++ wo X ad sg) H → va_D A ([(a_ag, eI X 15 ag), (a_ae, eI X 50 ae), (a_ax, eI X 60 ax), (a_ay, eI X 22 ay)] ++ wo X ad sg) → va_S A s.heap H locs → lv_has ls 23 [(0, .ref (ad 0)), (1, .ref a_ag), (2, .ref a_ae), (3, .ref a_ax), (4, .ref a_ay), (5, .int (iI v5)), (6, .int (iI v6)), (7, .int (iI v7)), (8, .int (iI v8)), (9, .int (iI v9)), (11, .int (iI v11))] → W p l e rmL_isSo s m args below meth c H locs 1 6 Q (F0 m 1041 ls [.double w0]) := by
    intro  ax ay v5 v6 v7 v8 v9 v11 w0 h H locs ls hP hD hS hl
    refine lv_dstore (lv' := [(13, .double w0), (0, .ref (ad 0)), (1, .ref a_ag), (2, .ref a_ae), (3, .ref a_ax), (4, .ref a_ay), (5, .int (iI v5)), (6, .int (iI v6)), (7, .int (iI v7)), (8, .int (iI v8)), (9, .int (iI v9)), (11, .int (iI v11))]) hx hb dL_isSo_1041 hl (by decide) rfl (fun ls hl => ?_)
    refine lv_iload hx hb dL_isSo_1043 (lv_at hl 11 rfl) ?_
    refine i_if_eq (tgt := 1163) hx hb h.1 dL_isSo_1045 (by decide) (fun c1 => ?_) (fun c1 => ?_)
    · have h := h.2.1 c1
      refine lv_iconst (v := iI 0) hx hb dL_isSo_1163 rfl ?_
      exact hend _ _ _ _ _ _ 0 (ax, ay) hP hD hS (Or.inl rfl) h (Nat.le_of_ble_eq_true rfl) (Nat.le_of_ble_eq_true rfl) dL_isSo_1164
    · have h := h.2.2 c1
      refine lv_aload_n hx hb dL_isSo_1048 rfl (lv_at hl 1 rfl) ?_
      refine lv_iconst (v := iI 3) hx hb dL_isSo_1049 rfl ?_
      refine t_i (xs := [(a_ag, eI X 15 ag), (a_ae, eI X 50 ae), (a_ax, eI X 60 ax), (a_ay, eI X 22 ay)]) (isR := [0, 1, 2, 3]) (vx_runSW (As := [.ref (ad 0), .int (iI 3)]) (rest := []) ⟨hx, hb, hml, hown, hts⟩ (kL_wholeOf0 l X ad sg 3 _ h _) (vx_cwSW 2 hts gL_isSo_L_wholeOf rfl rfl rfl (by decide +kernel) ⟨(Nat.le_of_ble_eq_true rfl), (Nat.le_of_ble_eq_true rfl)⟩) ⟨pre_blind, pre_cutP hE hK hA hP hD hS⟩ rfl rfl hl.1 rfl (lv_room (Nat.le_of_ble_eq_true rfl)) dL_isSo_1050 ⟨(Nat.le_of_ble_eq_true rfl), (Nat.le_of_ble_eq_true rfl)⟩) hA hP hD hS rfl (by decide +kernel) (fun z3 u3 H locs h hP hD hS => ?_)
      have hP : va_P X.1 vwCl ([(a_ag, eI X 15 ag), (a_ae, eI X 50 ae), (a_ax, eI X 60 ax), (a_ay, eI X 22 ay)] ++ wo X ad sg) H := hP
      have hD : va_D A ([(a_ag, eI X 15 ag), (a_ae, eI X 50 ae), (a_ax, eI X 60 ax), (a_ay, eI X 22 ay)] ++ wo X ad sg) := hD
      refine lv_iload hx hb dL_isSo_1053 (lv_at hl 7 rfl) ?_
      refine i_cmp_ne (tgt := 1163) hx hb h.1 h.2.1 dL_isSo_1055 (by decide) (fun c4 => ?_) (fun c4 => ?_)
      · have h := h.2.2.1 c4
        refine lv_iconst (v := iI 0) hx hb dL_isSo_1163 rfl ?_
        exact hend _ _ _ _ _ _ 0 (ax, ay) hP hD hS (Or.inl rfl) h (Nat.le_of_ble_eq_true rfl) (Nat.le_of_ble_eq_true rfl) dL_isSo_1164
      · have h := h.2.2.2 c4
        refine lv_aload_n hx hb dL_isSo_1058 rfl (lv_at hl 1 rfl) ?_
        refine lv_bipush (v := iI 10) hx hb dL_isSo_1059 (by decide +kernel) ?_
        refine t_i (xs := [(a_ag, eI X 15 ag), (a_ae, eI X 50 ae), (a_ax, eI X 60 ax), (a_ay, eI X 22 ay)]) (isR := [0, 1, 2, 3]) (vx_runSW (As := [.ref (ad 0), .int (iI 10)]) (rest := []) ⟨hx, hb, hml, hown, hts⟩ (kL_wholeOf0 l X ad sg 10 _ h _) (vx_cwSW 2 hts gL_isSo_L_wholeOf rfl rfl rfl (by decide +kernel) ⟨(Nat.le_of_ble_eq_true rfl), (Nat.le_of_ble_eq_true rfl)⟩) ⟨pre_blind, pre_cutP hE hK hA hP hD hS⟩ rfl rfl hl.1 rfl (lv_room (Nat.le_of_ble_eq_true rfl)) dL_isSo_1061 ⟨(Nat.le_of_ble_eq_true rfl), (Nat.le_of_ble_eq_true rfl)⟩) hA hP hD hS rfl (by decide +kernel) (fun z6 u6 H locs h hP hD hS => ?_)
        have hP : va_P X.1 vwCl ([(a_ag, eI X 15 ag), (a_ae, eI X 50 ae), (a_ax, eI X 60 ax), (a_ay, eI X 22 ay)] ++ wo X ad sg) H := hP
        have hD : va_D A ([(a_ag, eI X 15 ag), (a_ae, eI X 50 ae), (a_ax, eI X 60 ax), (a_ay, eI X 22 ay)] ++ wo X ad sg) := hD
        refine lv_iload hx hb dL_isSo_1064 (lv_at hl 8 rfl) ?_
        refine i_cmp_ne (tgt := 1163) hx hb h.1 h.2.1 dL_isSo_1066 (by decide) (fun c7 => ?_) (fun c7 => ?_)
        · have h := h.2.2.1 c7
          refine lv_iconst (v := iI 0) hx hb dL_isSo_1163 rfl ?_
          exact hend _ _ _ _ _ _ 0 (ax, ay) hP hD hS (Or.inl rfl) h (Nat.le_of_ble_eq_true rfl) (Nat.le_of_ble_eq_true rfl) dL_isSo_1164
        · have h := h.2.2.2 c7
          refine lv_aload_n hx hb dL_isSo_1069 rfl (lv_at hl 1 rfl) ?_
          refine lv_bipush (v := iI 11) hx hb dL_isSo_1070 (by decide +kernel) ?_
          refine t_i (xs := [(a_ag, eI X 15 ag), (a_ae, eI X 50 ae), (a_ax, eI X 60 ax), (a_ay, eI X 22 ay)]) (isR := [0, 1, 2, 3]) (vx_runSW (As := [.ref (ad 0), .int (iI 11)]) (rest := []) ⟨hx, hb, hml, hown, hts⟩ (kL_wholeOf0 l X ad sg 11 _ h _) (vx_cwSW 2 hts gL_isSo_L_wholeOf rfl rfl rfl (by decide +kernel) ⟨(Nat.le_of_ble_eq_true rfl), (Nat.le_of_ble_eq_true rfl)⟩) ⟨pre_blind, pre_cutP hE hK hA hP hD hS⟩ rfl rfl hl.1 rfl (lv_room (Nat.le_of_ble_eq_true rfl)) dL_isSo_1072 ⟨(Nat.le_of_ble_eq_true rfl), (Nat.le_of_ble_eq_true rfl)⟩) hA hP hD hS rfl (by decide +kernel) (fun z9 u9 H locs h hP hD hS => ?_)
          have hP : va_P X.1 vwCl ([(a_ag, eI X 15 ag), (a_ae, eI X 50 ae), (a_ax, eI X 60 ax), (a_ay, eI X 22 ay)] ++ wo X ad sg) H := hP
          have hD : va_D A ([(a_ag, eI X 15 ag), (a_ae, eI X 50 ae), (a_ax, eI X 60 ax), (a_ay, eI X 22 ay)] ++ wo X ad sg) := hD
          refine lv_iload hx hb dL_isSo_1075 (lv_at hl 9 rfl) ?_
          refine i_cmp_ne (tgt := 1163) hx hb h.1 h.2.1 dL_isSo_1077 (by decide) (fun c10 => ?_) (fun c10 => ?_)
          · have h := h.2.2.1 c10
            refine lv_iconst (v := iI 0) hx hb dL_isSo_1163 rfl ?_
            exact hend _ _ _ _ _ _ 0 (ax, ay) hP hD hS (Or.inl rfl) h (Nat.le_of_ble_eq_true rfl) (Nat.le_of_ble_eq_true rfl) dL_isSo_1164
          · have h := h.2.2.2 c10
            refine lv_aload_n hx hb dL_isSo_1080 rfl (lv_at hl 1 rfl) ?_
            refine lv_bipush (v := iI 12) hx hb dL_isSo_1081 (by decide +kernel) ?_
            refine t_i (xs := [(a_ag, eI X 15 ag), (a_ae, eI X 50 ae), (a_ax, eI X 60 ax), (a_ay, eI X 22 ay)]) (isR := [0, 1, 2, 3]) (vx_runSW (As := [.ref (ad 0), .int (iI 12)]) (rest := []) ⟨hx, hb, hml, hown, hts⟩ (kL_wholeOf0 l X ad sg 12 _ h _) (vx_cwSW 2 hts gL_isSo_L_wholeOf rfl rfl rfl (by decide +kernel) ⟨(Nat.le_of_ble_eq_true rfl), (Nat.le_of_ble_eq_true rfl)⟩) ⟨pre_blind, pre_cutP hE hK hA hP hD hS⟩ rfl rfl hl.1 rfl (lv_room (Nat.le_of_ble_eq_true rfl)) dL_isSo_1083 ⟨(Nat.le_of_ble_eq_true rfl), (Nat.le_of_ble_eq_true rfl)⟩) hA hP hD hS rfl (by decide +kernel) (fun z12 u12 H locs h hP hD hS => ?_)
            have hP : va_P X.1 vwCl ([(a_ag, eI X 15 ag), (a_ae, eI X 50 ae), (a_ax, eI X 60 ax), (a_ay, eI X 22 ay)] ++ wo X ad sg) H := hP
            have hD : va_D A ([(a_ag, eI X 15 ag), (a_ae, eI X 50 ae), (a_ax, eI X 60 ax), (a_ay, eI X 22 ay)] ++ wo X ad sg) := hD
            refine lv_iload hx hb dL_isSo_1086 (lv_at hl 10 rfl) ?_
            refine i_cmp_ne (tgt := 1163) hx hb h.1 h.2.1 dL_isSo_1088 (by decide) (fun c13 => ?_) (fun c13 => ?_)
            · have h := h.2.2.1 c13
              refine lv_iconst (v := iI 0) hx hb dL_isSo_1163 rfl ?_
              exact hend _ _ _ _ _ _ 0 (ax, ay) hP hD hS (Or.inl rfl) h (Nat.le_of_ble_eq_true rfl) (Nat.le_of_ble_eq_true rfl) dL_isSo_1164
            · have h := h.2.2.2 c13
              refine lv_aload_n hx hb dL_isSo_1091 rfl (lv_at hl 1 rfl) ?_
              refine t_i (xs := [(a_ag, eI X 15 ag), (a_ae, eI X 50 ae), (a_ax, eI X 60 ax), (a_ay, eI X 22 ay)]) (isR := [0, 1, 2, 3]) (va_runV (As := []) (rest := []) ⟨hx, hb, hml, hown, hts⟩ (kP_unevenness l hst X ad sg _ h _) (cwV 0 hts gL_isSo_X5_unevenness rfl rfl rfl (by decide +kernel) ⟨(Nat.le_of_ble_eq_true rfl), (Nat.le_of_ble_eq_true rfl)⟩) ⟨pre_blind, va_recv hK hP (ci := 5) (q0 := 4) rfl rfl, pre_cutP hE hK hA hP hD hS⟩ rfl rfl hl.1 rfl (lv_room (Nat.le_of_ble_eq_true rfl)) dL_isSo_1092 ⟨(Nat.le_of_ble_eq_true rfl), (Nat.le_of_ble_eq_true rfl)⟩) hA hP hD hS rfl (by decide +kernel) (fun z15 u15 H locs h hP hD hS => ?_)
              have hP : va_P X.1 vwCl ([(a_ag, eI X 15 ag), (a_ae, eI X 50 ae), (a_ax, eI X 60 ax), (a_ay, eI X 22 ay)] ++ wo X ad sg) H := hP
              have hD : va_D A ([(a_ag, eI X 15 ag), (a_ae, eI X 50 ae), (a_ax, eI X 60 ax), (a_ay, eI X 22 ay)] ++ wo X ad sg) := hD
              refine lv_aload_n hx hb dL_isSo_1095 rfl (lv_at hl 2 rfl) ?_
              refine lv_aload_n hx hb dL_isSo_1096 rfl (lv_at hl 3 rfl) ?_
              refine lv_aload_n hx hb dL_isSo_1097 rfl (lv_at hl 2 rfl) ?_
              refine lv_iconst (v := iI 0) hx hb dL_isSo_1098 rfl ?_
              refine i_ald hx hb hK hP 0 0 rfl rfl (by decide) (by decide) rfl (Nat.le_of_ble_eq_true rfl) dL_isSo_1099 ?_
              refine lv_aload_n hx hb dL_isSo_1100 rfl (lv_at hl 4 rfl) ?_
              refine lv_aload hx hb dL_isSo_1101 (lv_at hl 5 rfl) ?_
              refine u_i (xs := [(a_ag, eI X 15 ag), (a_ae, eI X 50 ae), (a_ax, eI X 60 ax), (a_ay, eI X 22 ay)]) (isC := [0, 1, 2, 3]) (isR := []) (wr := []) (va_runS (As := [.ref a_ag, .ref a_ae, .int (iI (ag 0)), .ref a_ax, .ref a_ay]) (rest := [.int (iI z15)]) ⟨hx, hb, hml, hown, hts⟩ (kL_uneven l X a_ag a_ae a_ax a_ay ag ae ax ay (ag 0) _ h _) (va_cwS 5 hts gL_isSo_L_uneven rfl rfl rfl (by decide +kernel) ⟨(Nat.le_of_ble_eq_true rfl), (Nat.le_of_ble_eq_true rfl)⟩) ⟨pre_blind, pre_cutQ hE hK hA hP hD hS (isC := [0, 1, 2, 3]) rfl rfl⟩ rfl rfl hl.1 rfl (lv_room (Nat.le_of_ble_eq_true rfl)) dL_isSo_1103 ⟨(Nat.le_of_ble_eq_true rfl), (Nat.le_of_ble_eq_true rfl)⟩) hA hP hD hS rfl rfl (by decide +kernel) (by decide +kernel) (fun z16 u16 H locs h hP hD hS => ?_)
              have hP : va_P X.1 vwCl ([(a_ag, eI X 15 ag), (a_ae, eI X 50 ae), (a_ax, eI X 60 ax), (a_ay, eI X 22 ay)] ++ wo X ad sg) H := hP
              have hD : va_D A ([(a_ag, eI X 15 ag), (a_ae, eI X 50 ae), (a_ax, eI X 60 ax), (a_ay, eI X 22 ay)] ++ wo X ad sg) := hD
              refine i_cmp_ne (tgt := 1163) hx hb h.1 h.2.1 dL_isSo_1106 (by decide) (fun c17 => ?_) (fun c17 => ?_)
              · have h := h.2.2.1 c17
                refine lv_iconst (v := iI 0) hx hb dL_isSo_1163 rfl ?_
                exact hend _ _ _ _ _ _ 0 (ax, ay) hP hD hS (Or.inl rfl) h (Nat.le_of_ble_eq_true rfl) (Nat.le_of_ble_eq_true rfl) dL_isSo_1164
              · have h := h.2.2.2 c17
                refine lv_aload_n hx hb dL_isSo_1109 rfl (lv_at hl 1 rfl) ?_
                refine t_d (xs := [(a_ag, eI X 15 ag), (a_ae, eI X 50 ae), (a_ax, eI X 60 ax), (a_ay, eI X 22 ay)]) (isR := [0, 1, 2, 3]) (va_runV (As := []) (rest := []) ⟨hx, hb, hml, hown, hts⟩ (kP_meanEmpty l hst X ad sg _ h _) (cwV 0 hts gL_isSo_X5_meanEmpty rfl rfl rfl (by decide +kernel) ⟨(Nat.le_of_ble_eq_true rfl), (Nat.le_of_ble_eq_true rfl)⟩) ⟨pre_blind, va_recv hK hP (ci := 5) (q0 := 4) rfl rfl, pre_cutP hE hK hA hP hD hS⟩ rfl rfl hl.1 rfl (lv_room (Nat.le_of_ble_eq_true rfl)) dL_isSo_1110 ⟨(Nat.le_of_ble_eq_true rfl), (Nat.le_of_ble_eq_true rfl)⟩) hA hP hD hS rfl (by decide +kernel) (fun z19 u19 H locs h hP hD hS => ?_)
                have hP : va_P X.1 vwCl ([(a_ag, eI X 15 ag), (a_ae, eI X 50 ae), (a_ax, eI X 60 ax), (a_ay, eI X 22 ay)] ++ wo X ad sg) H := hP
                have hD : va_D A ([(a_ag, eI X 15 ag), (a_ae, eI X 50 ae), (a_ax, eI X 60 ax), (a_ay, eI X 22 ay)] ++ wo X ad sg) := hD
                refine lv_dload hx hb dL_isSo_1113 (lv_at hl 0 rfl) ?_
                refine i_dcmp hx hb dL_isSo_1115 ?_
                refine i_if_ne (tgt := 1163) hx hb h.1 dL_isSo_1116 (by decide) (fun c20 => ?_) (fun c20 => ?_)
                · have h := h.2.1 c20
                  refine lv_iconst (v := iI 0) hx hb dL_isSo_1163 rfl ?_
                  exact hend _ _ _ _ _ _ 0 (ax, ay) hP hD hS (Or.inl rfl) h (Nat.le_of_ble_eq_true rfl) (Nat.le_of_ble_eq_true rfl) dL_isSo_1164
                · have h := h.2.2 c20
                  refine lv_aload_n hx hb dL_isSo_1119 rfl (lv_at hl 1 rfl) ?_
                  refine lv_iload hx hb dL_isSo_1120 (lv_at hl 6 rfl) ?_
                  refine lv_iconst (v := iI 0) hx hb dL_isSo_1122 rfl ?_
                  refine t_i (xs := [(a_ag, eI X 15 ag), (a_ae, eI X 50 ae), (a_ax, eI X 60 ax), (a_ay, eI X 22 ay)]) (isR := [0, 1, 2, 3]) (vx_runSW (As := [.ref (ad 0), .int (iI v5), .int (iI 0)]) (rest := []) ⟨hx, hb, hml, hown, hts⟩ (kL_wordOf l hst X ad sg v5 0 _ h _) (vx_cwSW 3 hts gL_isSo_L_wordOf rfl rfl rfl (by decide +kernel) ⟨(Nat.le_of_ble_eq_true rfl), (Nat.le_of_ble_eq_true rfl)⟩) ⟨pre_blind, pre_cutP hE hK hA hP hD hS⟩ rfl rfl hl.1 rfl (lv_room (Nat.le_of_ble_eq_true rfl)) dL_isSo_1123 ⟨(Nat.le_of_ble_eq_true rfl), (Nat.le_of_ble_eq_true rfl)⟩) hA hP hD hS rfl (by decide +kernel) (fun z22 u22 H locs h hP hD hS => ?_)
                  have hP : va_P X.1 vwCl ([(a_ag, eI X 15 ag), (a_ae, eI X 50 ae), (a_ax, eI X 60 ax), (a_ay, eI X 22 ay)] ++ wo X ad sg) H := hP
                  have hD : va_D A ([(a_ag, eI X 15 ag), (a_ae, eI X 50 ae), (a_ax, eI X 60 ax), (a_ay, eI X 22 ay)] ++ wo X ad sg) := hD
                  refine lv_ldc (v := iI (-100001)) hx hb hown (hts (.constant RL 54 (-100001)) (by decide +kernel)) dL_isSo_1126 ?_
                  refine i_cmp_ne (tgt := 1163) hx hb h.1 (inR_lit rfl) dL_isSo_1128 (by decide) (fun c23 => ?_) (fun c23 => ?_)
                  · have h := h.2.1 c23
                    refine lv_iconst (v := iI 0) hx hb dL_isSo_1163 rfl ?_
                    exact hend _ _ _ _ _ _ 0 (ax, ay) hP hD hS (Or.inl rfl) h (Nat.le_of_ble_eq_true rfl) (Nat.le_of_ble_eq_true rfl) dL_isSo_1164
                  · have h := h.2.2 c23
                    refine lv_aload_n hx hb dL_isSo_1131 rfl (lv_at hl 1 rfl) ?_
                    refine lv_aload hx hb dL_isSo_1132 (lv_at hl 5 rfl) ?_
                    refine lv_iconst (v := iI 0) hx hb dL_isSo_1134 rfl ?_
                    refine i_ald hx hb hK hP 3 0 rfl rfl (by decide) (by decide) rfl (Nat.le_of_ble_eq_true rfl) dL_isSo_1135 ?_
                    refine lv_iconst (v := iI 0) hx hb dL_isSo_1136 rfl ?_
                    refine t_i (xs := [(a_ag, eI X 15 ag), (a_ae, eI X 50 ae), (a_ax, eI X 60 ax), (a_ay, eI X 22 ay)]) (isR := [0, 1, 2, 3]) (vx_runSW (As := [.ref (ad 0), .int (iI (ay 0)), .int (iI 0)]) (rest := []) ⟨hx, hb, hml, hown, hts⟩ (kL_lineOf l hst X ad sg (ay 0) 0 _ h _) (vx_cwSW 3 hts gL_isSo_L_lineOf rfl rfl rfl (by decide +kernel) ⟨(Nat.le_of_ble_eq_true rfl), (Nat.le_of_ble_eq_true rfl)⟩) ⟨pre_blind, pre_cutP hE hK hA hP hD hS⟩ rfl rfl hl.1 rfl (lv_room (Nat.le_of_ble_eq_true rfl)) dL_isSo_1137 ⟨(Nat.le_of_ble_eq_true rfl), (Nat.le_of_ble_eq_true rfl)⟩) hA hP hD hS rfl (by decide +kernel) (fun z25 u25 H locs h hP hD hS => ?_)
                    have hP : va_P X.1 vwCl ([(a_ag, eI X 15 ag), (a_ae, eI X 50 ae), (a_ax, eI X 60 ax), (a_ay, eI X 22 ay)] ++ wo X ad sg) H := hP
                    have hD : va_D A ([(a_ag, eI X 15 ag), (a_ae, eI X 50 ae), (a_ax, eI X 60 ax), (a_ay, eI X 22 ay)] ++ wo X ad sg) := hD
                    refine lv_ldc (v := iI (-100001)) hx hb hown (hts (.constant RL 54 (-100001)) (by decide +kernel)) dL_isSo_1140 ?_
                    refine i_cmp_ne (tgt := 1163) hx hb h.1 (inR_lit rfl) dL_isSo_1142 (by decide) (fun c26 => ?_) (fun c26 => ?_)
                    · have h := h.2.1 c26
                      refine lv_iconst (v := iI 0) hx hb dL_isSo_1163 rfl ?_
                      exact hend _ _ _ _ _ _ 0 (ax, ay) hP hD hS (Or.inl rfl) h (Nat.le_of_ble_eq_true rfl) (Nat.le_of_ble_eq_true rfl) dL_isSo_1164
                    · have h := h.2.2 c26
                      refine lv_aload_n hx hb dL_isSo_1145 rfl (lv_at hl 1 rfl) ?_
                      refine lv_aload hx hb dL_isSo_1146 (lv_at hl 5 rfl) ?_
                      refine lv_iconst (v := iI 1) hx hb dL_isSo_1148 rfl ?_
                      refine i_ald hx hb hK hP 3 0 rfl rfl (by decide) (by decide) rfl (Nat.le_of_ble_eq_true rfl) dL_isSo_1149 ?_
                      refine lv_iconst (v := iI 0) hx hb dL_isSo_1150 rfl ?_
                      refine t_i (xs := [(a_ag, eI X 15 ag), (a_ae, eI X 50 ae), (a_ax, eI X 60 ax), (a_ay, eI X 22 ay)]) (isR := [0, 1, 2, 3]) (vx_runSW (As := [.ref (ad 0), .int (iI (ay 1)), .int (iI 0)]) (rest := []) ⟨hx, hb, hml, hown, hts⟩ (kL_pageOf l hst X ad sg (ay 1) 0 _ h _) (vx_cwSW 3 hts gL_isSo_L_pageOf rfl rfl rfl (by decide +kernel) ⟨(Nat.le_of_ble_eq_true rfl), (Nat.le_of_ble_eq_true rfl)⟩) ⟨pre_blind, pre_cutP hE hK hA hP hD hS⟩ rfl rfl hl.1 rfl (lv_room (Nat.le_of_ble_eq_true rfl)) dL_isSo_1151 ⟨(Nat.le_of_ble_eq_true rfl), (Nat.le_of_ble_eq_true rfl)⟩) hA hP hD hS rfl (by decide +kernel) (fun z28 u28 H locs h hP hD hS => ?_)
                      have hP : va_P X.1 vwCl ([(a_ag, eI X 15 ag), (a_ae, eI X 50 ae), (a_ax, eI X 60 ax), (a_ay, eI X 22 ay)] ++ wo X ad sg) H := hP
                      have hD : va_D A ([(a_ag, eI X 15 ag), (a_ae, eI X 50 ae), (a_ax, eI X 60 ax), (a_ay, eI X 22 ay)] ++ wo X ad sg) := hD
                      refine lv_ldc (v := iI (-100001)) hx hb hown (hts (.constant RL 54 (-100001)) (by decide +kernel)) dL_isSo_1154 ?_
                      refine i_cmp_ne (tgt := 1163) hx hb h.1 (inR_lit rfl) dL_isSo_1156 (by decide) (fun c29 => ?_) (fun c29 => ?_)
                      · have h := h.2.1 c29
                        refine lv_iconst (v := iI 0) hx hb dL_isSo_1163 rfl ?_
                        exact hend _ _ _ _ _ _ 0 (ax, ay) hP hD hS (Or.inl rfl) h (Nat.le_of_ble_eq_true rfl) (Nat.le_of_ble_eq_true rfl) dL_isSo_1164
                      · have h := h.2.2 c29
                        refine lv_iconst (v := iI 1) hx hb dL_isSo_1159 rfl ?_
                        refine lv_goto (tgt := 1164) hx hb dL_isSo_1160 (by decide) ?_
                        exact hend _ _ _ _ _ _ 1 (ax, ay) hP hD hS (Or.inr rfl) h (Nat.le_of_ble_eq_true rfl) (Nat.le_of_ble_eq_true rfl) dL_isSo_1164
  have B1021 : ∀ (ax : Nat → Int) (ay : Nat → Int) (v5 : Int) (v6 : Int) (v7 : Int) (v8 : Int) (v9 : Int) (v10 : Int) (v11 : Int), wpL_isSo_1021 ag ae sg post ax ay v5 v6 v7 v8 v9 v10 v11 → ∀ (H : Heap) (locs : List Loc) (ls : Array Slot), va_P X.1 vwCl ([(a_ag, eI X 15 ag), (a_ae, eI X 50 ae), (a_ax, eI X 60 ax), (a_ay, eI X 22 ay)] ++ wo X ad sg) H → va_D A ([(a_ag, eI X 15 ag), (a_ae, eI X 50 ae), (a_ax, eI X 60 ax), (a_ay, eI X 22 ay)] ++ wo X ad sg) → va_S A s.heap H locs → lv_has ls 23 [(0, .ref (ad 0)), (1, .ref a_ag), (2, .ref a_ae), (3, .ref a_ax), (4, .ref a_ay), (5, .int (iI v5)), (6, .int (iI v6)), (7, .int (iI v7)), (8, .int (iI v8)), (9, .int (iI v9)), (10, .int (iI v10)), (11, .int (iI v11))] → W p l e rmL_isSo s m args below meth c H locs 1 6 Q (F0 m 1021 ls []) := by
    intro  ax ay v5 v6 v7 v8 v9 v10 v11 h H locs ls hP hD hS hl
    refine lv_aload hx hb dL_isSo_1021 (lv_at hl 4 rfl) ?_
    refine lv_iconst (v := iI 0) hx hb dL_isSo_1023 rfl ?_
    refine i_ald hx hb hK hP 3 0 rfl rfl (by decide) (by decide) rfl (Nat.le_of_ble_eq_true rfl) dL_isSo_1024 ?_
    refine i_if_ne (tgt := 1032) hx hb h.1 dL_isSo_1025 (by decide) (fun c1 => ?_) (fun c1 => ?_)
    · have h := h.2.1 c1
      refine lv_iload hx hb dL_isSo_1032 (lv_at hl 10 rfl) ?_
      refine lv_i2d hx hb dL_isSo_1034 ?_
      refine lv_aload hx hb dL_isSo_1035 (lv_at hl 4 rfl) ?_
      refine lv_iconst (v := iI 0) hx hb dL_isSo_1037 rfl ?_
      refine i_ald hx hb hK hP 3 0 rfl rfl (by decide) (by decide) rfl (Nat.le_of_ble_eq_true rfl) dL_isSo_1038 ?_
      refine lv_i2d hx hb dL_isSo_1039 ?_
      refine lv_ddiv hx hb dL_isSo_1040 h.1 ?_
      have h := h.2
      refine W.widen (k := 1) (n := 6) (Nat.le_of_ble_eq_true rfl) (Nat.le_of_ble_eq_true rfl) ?_
      exact B1041  ax ay v5 v6 v7 v8 v9 v11 (FP.ddiv (FP.i2d (iI v10)) (FP.i2d (iI (ay 0)))) h _ _ _ hP hD hS (lv_sub hl [0, 1, 2, 3, 4, 5, 6, 7, 8, 9, 11] rfl)
    · have h := h.2.2 c1
      refine lv_dconst0 hx hb dL_isSo_1028 ?_
      refine lv_goto (tgt := 1041) hx hb dL_isSo_1029 (by decide) ?_
      refine W.widen (k := 1) (n := 6) (Nat.le_of_ble_eq_true rfl) (Nat.le_of_ble_eq_true rfl) ?_
      exact B1041  ax ay v5 v6 v7 v8 v9 v11 FP.dconst0 h _ _ _ hP hD hS (lv_sub hl [0, 1, 2, 3, 4, 5, 6, 7, 8, 9, 11] rfl)
  have B1013 : ∀ (k774 : (Nat → Int) → (Nat → Int) → Int → Int → Int → Int → Int → Int → Int → Int → Prop) (hk774 : ∀ (ax : Nat → Int) (ay : Nat → Int) (v5 : Int) (v6 : Int) (v7 : Int) (v8 : Int) (v9 : Int) (v10 : Int) (v11 : Int) (v13 : Int), k774 ax ay v5 v6 v7 v8 v9 v10 v11 v13 → ∀ (H : Heap) (locs : List Loc) (ls : Array Slot), va_P X.1 vwCl ([(a_ag, eI X 15 ag), (a_ae, eI X 50 ae), (a_ax, eI X 60 ax), (a_ay, eI X 22 ay)] ++ wo X ad sg) H → va_D A ([(a_ag, eI X 15 ag), (a_ae, eI X 50 ae), (a_ax, eI X 60 ax), (a_ay, eI X 22 ay)] ++ wo X ad sg) → va_S A s.heap H locs → lv_has ls 23 [(0, .ref (ad 0)), (1, .ref a_ag), (2, .ref a_ae), (3, .ref a_ax), (4, .ref a_ay), (5, .int (iI v5)), (6, .int (iI v6)), (7, .int (iI v7)), (8, .int (iI v8)), (9, .int (iI v9)), (10, .int (iI v10)), (11, .int (iI v11)), (13, .int (iI v13))] → W p l e rmL_isSo s m args below meth c H locs 1 6 Q (F0 m 774 ls [])) (ax : Nat → Int) (ay : Nat → Int) (v5 : Int) (v6 : Int) (v7 : Int) (v8 : Int) (v9 : Int) (v10 : Int) (v13 : Int) (w0 : Int), wpL_isSo_1013 ag ae sg post k774 ax ay v5 v6 v7 v8 v9 v10 v13 w0 → ∀ (H : Heap) (locs : List Loc) (ls : Array Slot), va_P X.1 vwCl ([(a_ag, eI X 15 ag), (a_ae, eI X 50 ae), (a_ax, eI X 60 ax), (a_ay, eI X 22 ay)] ++ wo X ad sg) H → va_D A ([(a_ag, eI X 15 ag), (a_ae, eI X 50 ae), (a_ax, eI X 60 ax), (a_ay, eI X 22 ay)] ++ wo X ad sg) → va_S A s.heap H locs → lv_has ls 23 [(0, .ref (ad 0)), (1, .ref a_ag), (2, .ref a_ae), (3, .ref a_ax), (4, .ref a_ay), (5, .int (iI v5)), (6, .int (iI v6)), (7, .int (iI v7)), (8, .int (iI v8)), (9, .int (iI v9)), (10, .int (iI v10)), (13, .int (iI v13))] → W p l e rmL_isSo s m args below meth c H locs 1 6 Q (F0 m 1013 ls [.int (iI w0)]) := by
    intro k774 hk774 ax ay v5 v6 v7 v8 v9 v10 v13 w0 h H locs ls hP hD hS hl
    refine lv_istore (lv' := [(11, .int (iI w0)), (0, .ref (ad 0)), (1, .ref a_ag), (2, .ref a_ae), (3, .ref a_ax), (4, .ref a_ay), (5, .int (iI v5)), (6, .int (iI v6)), (7, .int (iI v7)), (8, .int (iI v8)), (9, .int (iI v9)), (10, .int (iI v10)), (13, .int (iI v13))]) hx hb dL_isSo_1013 hl (by decide) rfl (fun ls hl => ?_)
    refine lv_iinc (v := iI (v13 + 1)) (lv' := [(13, .int (iI (v13 + 1))), (11, .int (iI w0)), (0, .ref (ad 0)), (1, .ref a_ag), (2, .ref a_ae), (3, .ref a_ax), (4, .ref a_ay), (5, .int (iI v5)), (6, .int (iI v6)), (7, .int (iI v7)), (8, .int (iI v8)), (9, .int (iI v9)), (10, .int (iI v10))]) hx hb dL_isSo_1015 hl (k := 12) rfl (iI_add _ _) (by decide) rfl (fun ls hl => ?_)
    refine lv_goto (tgt := 774) hx hb dL_isSo_1018 (by decide) ?_
    refine W.widen (k := 1) (n := 6) (Nat.le_of_ble_eq_true rfl) (Nat.le_of_ble_eq_true rfl) ?_
    exact hk774 ax ay v5 v6 v7 v8 v9 v10 w0 (v13 + 1) h _ _ _ hP hD hS (lv_sub hl [2, 3, 4, 5, 6, 7, 8, 9, 10, 11, 12, 1, 0] rfl)
  have B1012 : ∀ (k774 : (Nat → Int) → (Nat → Int) → Int → Int → Int → Int → Int → Int → Int → Int → Prop) (hk774 : ∀ (ax : Nat → Int) (ay : Nat → Int) (v5 : Int) (v6 : Int) (v7 : Int) (v8 : Int) (v9 : Int) (v10 : Int) (v11 : Int) (v13 : Int), k774 ax ay v5 v6 v7 v8 v9 v10 v11 v13 → ∀ (H : Heap) (locs : List Loc) (ls : Array Slot), va_P X.1 vwCl ([(a_ag, eI X 15 ag), (a_ae, eI X 50 ae), (a_ax, eI X 60 ax), (a_ay, eI X 22 ay)] ++ wo X ad sg) H → va_D A ([(a_ag, eI X 15 ag), (a_ae, eI X 50 ae), (a_ax, eI X 60 ax), (a_ay, eI X 22 ay)] ++ wo X ad sg) → va_S A s.heap H locs → lv_has ls 23 [(0, .ref (ad 0)), (1, .ref a_ag), (2, .ref a_ae), (3, .ref a_ax), (4, .ref a_ay), (5, .int (iI v5)), (6, .int (iI v6)), (7, .int (iI v7)), (8, .int (iI v8)), (9, .int (iI v9)), (10, .int (iI v10)), (11, .int (iI v11)), (13, .int (iI v13))] → W p l e rmL_isSo s m args below meth c H locs 1 6 Q (F0 m 774 ls [])) (ax : Nat → Int) (ay : Nat → Int) (v5 : Int) (v6 : Int) (v7 : Int) (v8 : Int) (v9 : Int) (v10 : Int) (v13 : Int), wpL_isSo_1012 ag ae sg post k774 ax ay v5 v6 v7 v8 v9 v10 v13 → ∀ (H : Heap) (locs : List Loc) (ls : Array Slot), va_P X.1 vwCl ([(a_ag, eI X 15 ag), (a_ae, eI X 50 ae), (a_ax, eI X 60 ax), (a_ay, eI X 22 ay)] ++ wo X ad sg) H → va_D A ([(a_ag, eI X 15 ag), (a_ae, eI X 50 ae), (a_ax, eI X 60 ax), (a_ay, eI X 22 ay)] ++ wo X ad sg) → va_S A s.heap H locs → lv_has ls 23 [(0, .ref (ad 0)), (1, .ref a_ag), (2, .ref a_ae), (3, .ref a_ax), (4, .ref a_ay), (5, .int (iI v5)), (6, .int (iI v6)), (7, .int (iI v7)), (8, .int (iI v8)), (9, .int (iI v9)), (10, .int (iI v10)), (13, .int (iI v13))] → W p l e rmL_isSo s m args below meth c H locs 1 6 Q (F0 m 1012 ls []) := by
    intro k774 hk774 ax ay v5 v6 v7 v8 v9 v10 v13 h H locs ls hP hD hS hl
    refine lv_iconst (v := iI 0) hx hb dL_isSo_1012 rfl ?_
    refine W.widen (k := 1) (n := 6) (Nat.le_of_ble_eq_true rfl) (Nat.le_of_ble_eq_true rfl) ?_
    exact B1013 k774 hk774 ax ay v5 v6 v7 v8 v9 v10 v13 0 h _ _ _ hP hD hS (lv_sub hl [0, 1, 2, 3, 4, 5, 6, 7, 8, 9, 10, 11] rfl)
  have B918 : ∀ (k774 : (Nat → Int) → (Nat → Int) → Int → Int → Int → Int → Int → Int → Int → Int → Prop) (hk774 : ∀ (ax : Nat → Int) (ay : Nat → Int) (v5 : Int) (v6 : Int) (v7 : Int) (v8 : Int) (v9 : Int) (v10 : Int) (v11 : Int) (v13 : Int), k774 ax ay v5 v6 v7 v8 v9 v10 v11 v13 → ∀ (H : Heap) (locs : List Loc) (ls : Array Slot), va_P X.1 vwCl ([(a_ag, eI X 15 ag), (a_ae, eI X 50 ae), (a_ax, eI X 60 ax), (a_ay, eI X 22 ay)] ++ wo X ad sg) H → va_D A ([(a_ag, eI X 15 ag), (a_ae, eI X 50 ae), (a_ax, eI X 60 ax), (a_ay, eI X 22 ay)] ++ wo X ad sg) → va_S A s.heap H locs → lv_has ls 23 [(0, .ref (ad 0)), (1, .ref a_ag), (2, .ref a_ae), (3, .ref a_ax), (4, .ref a_ay), (5, .int (iI v5)), (6, .int (iI v6)), (7, .int (iI v7)), (8, .int (iI v8)), (9, .int (iI v9)), (10, .int (iI v10)), (11, .int (iI v11)), (13, .int (iI v13))] → W p l e rmL_isSo s m args below meth c H locs 1 6 Q (F0 m 774 ls [])) (k803 : (Nat → Int) → (Nat → Int) → Int → Int → Int → Int → Int → Int → Int → Int → Int → Int → Int → Int → Prop) (hk803 : ∀ (ax : Nat → Int) (ay : Nat → Int) (v5 : Int) (v6 : Int) (v7 : Int) (v8 : Int) (v9 : Int) (v10 : Int) (v13 : Int) (v14 : Int) (v15 : Int) (v16 : Int) (v17 : Int) (v18 : Int), k803 ax ay v5 v6 v7 v8 v9 v10 v13 v14 v15 v16 v17 v18 → ∀ (H : Heap) (locs : List Loc) (ls : Array Slot), va_P X.1 vwCl ([(a_ag, eI X 15 ag), (a_ae, eI X 50 ae), (a_ax, eI X 60 ax), (a_ay, eI X 22 ay)] ++ wo X ad sg) H → va_D A ([(a_ag, eI X 15 ag), (a_ae, eI X 50 ae), (a_ax, eI X 60 ax), (a_ay, eI X 22 ay)] ++ wo X ad sg) → va_S A s.heap H locs → lv_has ls 23 [(0, .ref (ad 0)), (1, .ref a_ag), (2, .ref a_ae), (3, .ref a_ax), (4, .ref a_ay), (5, .int (iI v5)), (6, .int (iI v6)), (7, .int (iI v7)), (8, .int (iI v8)), (9, .int (iI v9)), (10, .int (iI v10)), (13, .int (iI v13)), (14, .int (iI v14)), (15, .int (iI v15)), (16, .int (iI v16)), (17, .int (iI v17)), (18, .int (iI v18))] → W p l e rmL_isSo s m args below meth c H locs 1 6 Q (F0 m 803 ls [])) (ax : Nat → Int) (ay : Nat → Int) (v5 : Int) (v6 : Int) (v7 : Int) (v8 : Int) (v9 : Int) (v10 : Int) (v13 : Int) (v14 : Int) (v15 : Int) (v16 : Int) (v18 : Int) (w0 : Int) (w1 : Int), wpL_isSo_918 ag ae sg post k774 k803 ax ay v5 v6 v7 v8 v9 v10 v13 v14 v15 v16 v18 w0 w1 → ∀ (H : Heap) (locs : List Loc) (ls : Array Slot), va_P X.1 vwCl ([(a_ag, eI X 15 ag), (a_ae, eI X 50 ae), (a_ax, eI X 60 ax), (a_ay, eI X 22 ay)] ++ wo X ad sg) H → va_D A ([(a_ag, eI X 15 ag), (a_ae, eI X 50 ae), (a_ax, eI X 60 ax), (a_ay, eI X 22 ay)] ++ wo X ad sg) → va_S A s.heap H locs → lv_has ls 23 [(0, .ref (ad 0)), (1, .ref a_ag), (2, .ref a_ae), (3, .ref a_ax), (4, .ref a_ay), (5, .int (iI v5)), (6, .int (iI v6)), (7, .int (iI v7)), (8, .int (iI v8)), (9, .int (iI v9)), (10, .int (iI v10)), (13, .int (iI v13)), (14, .int (iI v14)), (15, .int (iI v15)), (16, .int (iI v16)), (18, .int (iI v18))] → W p l e rmL_isSo s m args below meth c H locs 1 6 Q (F0 m 918 ls [.int (iI w0), .int (iI w1)]) := by
    intro k774 hk774 k803 hk803 ax ay v5 v6 v7 v8 v9 v10 v13 v14 v15 v16 v18 w0 w1 h H locs ls hP hD hS hl
    refine i_add hx hb dL_isSo_918 ?_
    refine lv_istore (lv' := [(17, .int (iI (w1 + w0))), (0, .ref (ad 0)), (1, .ref a_ag), (2, .ref a_ae), (3, .ref a_ax), (4, .ref a_ay), (5, .int (iI v5)), (6, .int (iI v6)), (7, .int (iI v7)), (8, .int (iI v8)), (9, .int (iI v9)), (10, .int (iI v10)), (13, .int (iI v13)), (14, .int (iI v14)), (15, .int (iI v15)), (16, .int (iI v16)), (18, .int (iI v18))]) hx hb dL_isSo_919 hl (by decide) rfl (fun ls hl => ?_)
    refine lv_iinc (v := iI (v18 + 1)) (lv' := [(18, .int (iI (v18 + 1))), (17, .int (iI (w1 + w0))), (0, .ref (ad 0)), (1, .ref a_ag), (2, .ref a_ae), (3, .ref a_ax), (4, .ref a_ay), (5, .int (iI v5)), (6, .int (iI v6)), (7, .int (iI v7)), (8, .int (iI v8)), (9, .int (iI v9)), (10, .int (iI v10)), (13, .int (iI v13)), (14, .int (iI v14)), (15, .int (iI v15)), (16, .int (iI v16))]) hx hb dL_isSo_921 hl (k := 16) rfl (iI_add _ _) (by decide) rfl (fun ls hl => ?_)
    refine lv_goto (tgt := 803) hx hb dL_isSo_924 (by decide) ?_
    refine W.widen (k := 1) (n := 6) (Nat.le_of_ble_eq_true rfl) (Nat.le_of_ble_eq_true rfl) ?_
    exact hk803 ax ay v5 v6 v7 v8 v9 v10 v13 v14 v15 v16 (w1 + w0) (v18 + 1) h _ _ _ hP hD hS (lv_sub hl [2, 3, 4, 5, 6, 7, 8, 9, 10, 11, 12, 13, 14, 15, 16, 1, 0] rfl)
  have B895 : ∀ (k774 : (Nat → Int) → (Nat → Int) → Int → Int → Int → Int → Int → Int → Int → Int → Prop) (hk774 : ∀ (ax : Nat → Int) (ay : Nat → Int) (v5 : Int) (v6 : Int) (v7 : Int) (v8 : Int) (v9 : Int) (v10 : Int) (v11 : Int) (v13 : Int), k774 ax ay v5 v6 v7 v8 v9 v10 v11 v13 → ∀ (H : Heap) (locs : List Loc) (ls : Array Slot), va_P X.1 vwCl ([(a_ag, eI X 15 ag), (a_ae, eI X 50 ae), (a_ax, eI X 60 ax), (a_ay, eI X 22 ay)] ++ wo X ad sg) H → va_D A ([(a_ag, eI X 15 ag), (a_ae, eI X 50 ae), (a_ax, eI X 60 ax), (a_ay, eI X 22 ay)] ++ wo X ad sg) → va_S A s.heap H locs → lv_has ls 23 [(0, .ref (ad 0)), (1, .ref a_ag), (2, .ref a_ae), (3, .ref a_ax), (4, .ref a_ay), (5, .int (iI v5)), (6, .int (iI v6)), (7, .int (iI v7)), (8, .int (iI v8)), (9, .int (iI v9)), (10, .int (iI v10)), (11, .int (iI v11)), (13, .int (iI v13))] → W p l e rmL_isSo s m args below meth c H locs 1 6 Q (F0 m 774 ls [])) (k803 : (Nat → Int) → (Nat → Int) → Int → Int → Int → Int → Int → Int → Int → Int → Int → Int → Int → Int → Prop) (hk803 : ∀ (ax : Nat → Int) (ay : Nat → Int) (v5 : Int) (v6 : Int) (v7 : Int) (v8 : Int) (v9 : Int) (v10 : Int) (v13 : Int) (v14 : Int) (v15 : Int) (v16 : Int) (v17 : Int) (v18 : Int), k803 ax ay v5 v6 v7 v8 v9 v10 v13 v14 v15 v16 v17 v18 → ∀ (H : Heap) (locs : List Loc) (ls : Array Slot), va_P X.1 vwCl ([(a_ag, eI X 15 ag), (a_ae, eI X 50 ae), (a_ax, eI X 60 ax), (a_ay, eI X 22 ay)] ++ wo X ad sg) H → va_D A ([(a_ag, eI X 15 ag), (a_ae, eI X 50 ae), (a_ax, eI X 60 ax), (a_ay, eI X 22 ay)] ++ wo X ad sg) → va_S A s.heap H locs → lv_has ls 23 [(0, .ref (ad 0)), (1, .ref a_ag), (2, .ref a_ae), (3, .ref a_ax), (4, .ref a_ay), (5, .int (iI v5)), (6, .int (iI v6)), (7, .int (iI v7)), (8, .int (iI v8)), (9, .int (iI v9)), (10, .int (iI v10)), (13, .int (iI v13)), (14, .int (iI v14)), (15, .int (iI v15)), (16, .int (iI v16)), (17, .int (iI v17)), (18, .int (iI v18))] → W p l e rmL_isSo s m args below meth c H locs 1 6 Q (F0 m 803 ls [])) (ax : Nat → Int) (ay : Nat → Int) (v5 : Int) (v6 : Int) (v7 : Int) (v8 : Int) (v9 : Int) (v10 : Int) (v13 : Int) (v14 : Int) (v15 : Int) (v17 : Int) (v18 : Int) (v19 : Int) (w0 : Int) (w1 : Int), wpL_isSo_895 ag ae sg post k774 k803 ax ay v5 v6 v7 v8 v9 v10 v13 v14 v15 v17 v18 v19 w0 w1 → ∀ (H : Heap) (locs : List Loc) (ls : Array Slot), va_P X.1 vwCl ([(a_ag, eI X 15 ag), (a_ae, eI X 50 ae), (a_ax, eI X 60 ax), (a_ay, eI X 22 ay)] ++ wo X ad sg) H → va_D A ([(a_ag, eI X 15 ag), (a_ae, eI X 50 ae), (a_ax, eI X 60 ax), (a_ay, eI X 22 ay)] ++ wo X ad sg) → va_S A s.heap H locs → lv_has ls 23 [(0, .ref (ad 0)), (1, .ref a_ag), (2, .ref a_ae), (3, .ref a_ax), (4, .ref a_ay), (5, .int (iI v5)), (6, .int (iI v6)), (7, .int (iI v7)), (8, .int (iI v8)), (9, .int (iI v9)), (10, .int (iI v10)), (13, .int (iI v13)), (14, .int (iI v14)), (15, .int (iI v15)), (17, .int (iI v17)), (18, .int (iI v18)), (19, .int (iI v19))] → W p l e rmL_isSo s m args below meth c H locs 1 6 Q (F0 m 895 ls [.int (iI w0), .int (iI w1)]) := by
    intro k774 hk774 k803 hk803 ax ay v5 v6 v7 v8 v9 v10 v13 v14 v15 v17 v18 v19 w0 w1 h H locs ls hP hD hS hl
    refine i_add hx hb dL_isSo_895 ?_
    refine lv_istore (lv' := [(16, .int (iI (w1 + w0))), (0, .ref (ad 0)), (1, .ref a_ag), (2, .ref a_ae), (3, .ref a_ax), (4, .ref a_ay), (5, .int (iI v5)), (6, .int (iI v6)), (7, .int (iI v7)), (8, .int (iI v8)), (9, .int (iI v9)), (10, .int (iI v10)), (13, .int (iI v13)), (14, .int (iI v14)), (15, .int (iI v15)), (17, .int (iI v17)), (18, .int (iI v18)), (19, .int (iI v19))]) hx hb dL_isSo_896 hl (by decide) rfl (fun ls hl => ?_)
    refine lv_iload hx hb dL_isSo_898 (lv_at hl 15 rfl) ?_
    refine lv_iload hx hb dL_isSo_900 (lv_at hl 17 rfl) ?_
    refine i_if_eq (tgt := 917) hx hb h.1 dL_isSo_902 (by decide) (fun c1 => ?_) (fun c1 => ?_)
    · have h := h.2.1 c1
      refine lv_iconst (v := iI 0) hx hb dL_isSo_917 rfl ?_
      refine W.widen (k := 1) (n := 6) (Nat.le_of_ble_eq_true rfl) (Nat.le_of_ble_eq_true rfl) ?_
      exact B918 k774 hk774 k803 hk803 ax ay v5 v6 v7 v8 v9 v10 v13 v14 v15 (w1 + w0) v18 0 v17 h _ _ _ hP hD hS (lv_sub hl [1, 2, 3, 4, 5, 6, 7, 8, 9, 10, 11, 12, 13, 14, 0, 16] rfl)
    · have h := h.2.2 c1
      refine lv_aload_n hx hb dL_isSo_905 rfl (lv_at hl 4 rfl) ?_
      refine lv_bipush (v := iI 6) hx hb dL_isSo_906 (by decide +kernel) ?_
      refine lv_iload hx hb dL_isSo_908 (lv_at hl 16 rfl) ?_
      refine i_mul hx hb dL_isSo_910 ?_
      refine lv_iconst (v := iI 4) hx hb dL_isSo_911 rfl ?_
      refine i_add hx hb dL_isSo_912 ?_
      refine i_ald hx hb hK hP 2 0 rfl rfl h.1 h.2.1 rfl (Nat.le_of_ble_eq_true rfl) dL_isSo_913 ?_
      have h := h.2.2
      refine lv_goto (tgt := 918) hx hb dL_isSo_914 (by decide) ?_
      refine W.widen (k := 1) (n := 6) (Nat.le_of_ble_eq_true rfl) (Nat.le_of_ble_eq_true rfl) ?_
      exact B918 k774 hk774 k803 hk803 ax ay v5 v6 v7 v8 v9 v10 v13 v14 v15 (w1 + w0) v18 (ax ((6 * v18) + 4).toNat) v17 h _ _ _ hP hD hS (lv_sub hl [1, 2, 3, 4, 5, 6, 7, 8, 9, 10, 11, 12, 13, 14, 0, 16] rfl)
  have B862 : ∀ (k774 : (Nat → Int) → (Nat → Int) → Int → Int → Int → Int → Int → Int → Int → Int → Prop) (hk774 : ∀ (ax : Nat → Int) (ay : Nat → Int) (v5 : Int) (v6 : Int) (v7 : Int) (v8 : Int) (v9 : Int) (v10 : Int) (v11 : Int) (v13 : Int), k774 ax ay v5 v6 v7 v8 v9 v10 v11 v13 → ∀ (H : Heap) (locs : List Loc) (ls : Array Slot), va_P X.1 vwCl ([(a_ag, eI X 15 ag), (a_ae, eI X 50 ae), (a_ax, eI X 60 ax), (a_ay, eI X 22 ay)] ++ wo X ad sg) H → va_D A ([(a_ag, eI X 15 ag), (a_ae, eI X 50 ae), (a_ax, eI X 60 ax), (a_ay, eI X 22 ay)] ++ wo X ad sg) → va_S A s.heap H locs → lv_has ls 23 [(0, .ref (ad 0)), (1, .ref a_ag), (2, .ref a_ae), (3, .ref a_ax), (4, .ref a_ay), (5, .int (iI v5)), (6, .int (iI v6)), (7, .int (iI v7)), (8, .int (iI v8)), (9, .int (iI v9)), (10, .int (iI v10)), (11, .int (iI v11)), (13, .int (iI v13))] → W p l e rmL_isSo s m args below meth c H locs 1 6 Q (F0 m 774 ls [])) (k803 : (Nat → Int) → (Nat → Int) → Int → Int → Int → Int → Int → Int → Int → Int → Int → Int → Int → Int → Prop) (hk803 : ∀ (ax : Nat → Int) (ay : Nat → Int) (v5 : Int) (v6 : Int) (v7 : Int) (v8 : Int) (v9 : Int) (v10 : Int) (v13 : Int) (v14 : Int) (v15 : Int) (v16 : Int) (v17 : Int) (v18 : Int), k803 ax ay v5 v6 v7 v8 v9 v10 v13 v14 v15 v16 v17 v18 → ∀ (H : Heap) (locs : List Loc) (ls : Array Slot), va_P X.1 vwCl ([(a_ag, eI X 15 ag), (a_ae, eI X 50 ae), (a_ax, eI X 60 ax), (a_ay, eI X 22 ay)] ++ wo X ad sg) H → va_D A ([(a_ag, eI X 15 ag), (a_ae, eI X 50 ae), (a_ax, eI X 60 ax), (a_ay, eI X 22 ay)] ++ wo X ad sg) → va_S A s.heap H locs → lv_has ls 23 [(0, .ref (ad 0)), (1, .ref a_ag), (2, .ref a_ae), (3, .ref a_ax), (4, .ref a_ay), (5, .int (iI v5)), (6, .int (iI v6)), (7, .int (iI v7)), (8, .int (iI v8)), (9, .int (iI v9)), (10, .int (iI v10)), (13, .int (iI v13)), (14, .int (iI v14)), (15, .int (iI v15)), (16, .int (iI v16)), (17, .int (iI v17)), (18, .int (iI v18))] → W p l e rmL_isSo s m args below meth c H locs 1 6 Q (F0 m 803 ls [])) (ax : Nat → Int) (ay : Nat → Int) (v5 : Int) (v6 : Int) (v7 : Int) (v8 : Int) (v9 : Int) (v10 : Int) (v13 : Int) (v14 : Int) (v16 : Int) (v17 : Int) (v18 : Int) (v19 : Int) (w0 : Int) (w1 : Int), wpL_isSo_862 ag ae sg post k774 k803 ax ay v5 v6 v7 v8 v9 v10 v13 v14 v16 v17 v18 v19 w0 w1 → ∀ (H : Heap) (locs : List Loc) (ls : Array Slot), va_P X.1 vwCl ([(a_ag, eI X 15 ag), (a_ae, eI X 50 ae), (a_ax, eI X 60 ax), (a_ay, eI X 22 ay)] ++ wo X ad sg) H → va_D A ([(a_ag, eI X 15 ag), (a_ae, eI X 50 ae), (a_ax, eI X 60 ax), (a_ay, eI X 22 ay)] ++ wo X ad sg) → va_S A s.heap H locs → lv_has ls 23 [(0, .ref (ad 0)), (1, .ref a_ag), (2, .ref a_ae), (3, .ref a_ax), (4, .ref a_ay), (5, .int (iI v5)), (6, .int (iI v6)), (7, .int (iI v7)), (8, .int (iI v8)), (9, .int (iI v9)), (10, .int (iI v10)), (13, .int (iI v13)), (14, .int (iI v14)), (16, .int (iI v16)), (17, .int (iI v17)), (18, .int (iI v18)), (19, .int (iI v19))] → W p l e rmL_isSo s m args below meth c H locs 1 6 Q (F0 m 862 ls [.int (iI w0), .int (iI w1)]) := by
    intro k774 hk774 k803 hk803 ax ay v5 v6 v7 v8 v9 v10 v13 v14 v16 v17 v18 v19 w0 w1 h H locs ls hP hD hS hl
    refine i_add hx hb dL_isSo_862 ?_
    refine lv_istore (lv' := [(15, .int (iI (w1 + w0))), (0, .ref (ad 0)), (1, .ref a_ag), (2, .ref a_ae), (3, .ref a_ax), (4, .ref a_ay), (5, .int (iI v5)), (6, .int (iI v6)), (7, .int (iI v7)), (8, .int (iI v8)), (9, .int (iI v9)), (10, .int (iI v10)), (13, .int (iI v13)), (14, .int (iI v14)), (16, .int (iI v16)), (17, .int (iI v17)), (18, .int (iI v18)), (19, .int (iI v19))]) hx hb dL_isSo_863 hl (by decide) rfl (fun ls hl => ?_)
    refine lv_iload hx hb dL_isSo_865 (lv_at hl 14 rfl) ?_
    refine lv_iload hx hb dL_isSo_867 (lv_at hl 17 rfl) ?_
    refine i_if_eq (tgt := 894) hx hb h.1 dL_isSo_869 (by decide) (fun c1 => ?_) (fun c1 => ?_)
    · have h := h.2.1 c1
      refine lv_iconst (v := iI 0) hx hb dL_isSo_894 rfl ?_
      refine W.widen (k := 1) (n := 6) (Nat.le_of_ble_eq_true rfl) (Nat.le_of_ble_eq_true rfl) ?_
      exact B895 k774 hk774 k803 hk803 ax ay v5 v6 v7 v8 v9 v10 v13 v14 (w1 + w0) v17 v18 v19 0 v16 h _ _ _ hP hD hS (lv_sub hl [1, 2, 3, 4, 5, 6, 7, 8, 9, 10, 11, 12, 13, 0, 15, 16, 17] rfl)
    · have h := h.2.2 c1
      refine lv_aload_n hx hb dL_isSo_872 rfl (lv_at hl 4 rfl) ?_
      refine lv_bipush (v := iI 6) hx hb dL_isSo_873 (by decide +kernel) ?_
      refine lv_iload hx hb dL_isSo_875 (lv_at hl 16 rfl) ?_
      refine i_mul hx hb dL_isSo_877 ?_
      refine lv_iconst (v := iI 2) hx hb dL_isSo_878 rfl ?_
      refine i_add hx hb dL_isSo_879 ?_
      refine i_ald hx hb hK hP 2 0 rfl rfl h.1 h.2.1 rfl (Nat.le_of_ble_eq_true rfl) dL_isSo_880 ?_
      have h := h.2.2
      refine lv_aload_n hx hb dL_isSo_881 rfl (lv_at hl 4 rfl) ?_
      refine lv_bipush (v := iI 6) hx hb dL_isSo_882 (by decide +kernel) ?_
      refine lv_iload hx hb dL_isSo_884 (lv_at hl 16 rfl) ?_
      refine i_mul hx hb dL_isSo_886 ?_
      refine lv_iconst (v := iI 3) hx hb dL_isSo_887 rfl ?_
      refine i_add hx hb dL_isSo_888 ?_
      refine i_ald hx hb hK hP 2 0 rfl rfl h.1 h.2.1 rfl (Nat.le_of_ble_eq_true rfl) dL_isSo_889 ?_
      have h := h.2.2
      refine i_add hx hb dL_isSo_890 ?_
      refine lv_goto (tgt := 895) hx hb dL_isSo_891 (by decide) ?_
      refine W.widen (k := 1) (n := 6) (Nat.le_of_ble_eq_true rfl) (Nat.le_of_ble_eq_true rfl) ?_
      exact B895 k774 hk774 k803 hk803 ax ay v5 v6 v7 v8 v9 v10 v13 v14 (w1 + w0) v17 v18 v19 (ax ((6 * v18) + 2).toNat + ax ((6 * v18) + 3).toNat) v16 h _ _ _ hP hD hS (lv_sub hl [1, 2, 3, 4, 5, 6, 7, 8, 9, 10, 11, 12, 13, 0, 15, 16, 17] rfl)
  have B848 : ∀ (k774 : (Nat → Int) → (Nat → Int) → Int → Int → Int → Int → Int → Int → Int → Int → Prop) (hk774 : ∀ (ax : Nat → Int) (ay : Nat → Int) (v5 : Int) (v6 : Int) (v7 : Int) (v8 : Int) (v9 : Int) (v10 : Int) (v11 : Int) (v13 : Int), k774 ax ay v5 v6 v7 v8 v9 v10 v11 v13 → ∀ (H : Heap) (locs : List Loc) (ls : Array Slot), va_P X.1 vwCl ([(a_ag, eI X 15 ag), (a_ae, eI X 50 ae), (a_ax, eI X 60 ax), (a_ay, eI X 22 ay)] ++ wo X ad sg) H → va_D A ([(a_ag, eI X 15 ag), (a_ae, eI X 50 ae), (a_ax, eI X 60 ax), (a_ay, eI X 22 ay)] ++ wo X ad sg) → va_S A s.heap H locs → lv_has ls 23 [(0, .ref (ad 0)), (1, .ref a_ag), (2, .ref a_ae), (3, .ref a_ax), (4, .ref a_ay), (5, .int (iI v5)), (6, .int (iI v6)), (7, .int (iI v7)), (8, .int (iI v8)), (9, .int (iI v9)), (10, .int (iI v10)), (11, .int (iI v11)), (13, .int (iI v13))] → W p l e rmL_isSo s m args below meth c H locs 1 6 Q (F0 m 774 ls [])) (k803 : (Nat → Int) → (Nat → Int) → Int → Int → Int → Int → Int → Int → Int → Int → Int → Int → Int → Int → Prop) (hk803 : ∀ (ax : Nat → Int) (ay : Nat → Int) (v5 : Int) (v6 : Int) (v7 : Int) (v8 : Int) (v9 : Int) (v10 : Int) (v13 : Int) (v14 : Int) (v15 : Int) (v16 : Int) (v17 : Int) (v18 : Int), k803 ax ay v5 v6 v7 v8 v9 v10 v13 v14 v15 v16 v17 v18 → ∀ (H : Heap) (locs : List Loc) (ls : Array Slot), va_P X.1 vwCl ([(a_ag, eI X 15 ag), (a_ae, eI X 50 ae), (a_ax, eI X 60 ax), (a_ay, eI X 22 ay)] ++ wo X ad sg) H → va_D A ([(a_ag, eI X 15 ag), (a_ae, eI X 50 ae), (a_ax, eI X 60 ax), (a_ay, eI X 22 ay)] ++ wo X ad sg) → va_S A s.heap H locs → lv_has ls 23 [(0, .ref (ad 0)), (1, .ref a_ag), (2, .ref a_ae), (3, .ref a_ax), (4, .ref a_ay), (5, .int (iI v5)), (6, .int (iI v6)), (7, .int (iI v7)), (8, .int (iI v8)), (9, .int (iI v9)), (10, .int (iI v10)), (13, .int (iI v13)), (14, .int (iI v14)), (15, .int (iI v15)), (16, .int (iI v16)), (17, .int (iI v17)), (18, .int (iI v18))] → W p l e rmL_isSo s m args below meth c H locs 1 6 Q (F0 m 803 ls [])) (ax : Nat → Int) (ay : Nat → Int) (v5 : Int) (v6 : Int) (v7 : Int) (v8 : Int) (v9 : Int) (v10 : Int) (v13 : Int) (v15 : Int) (v16 : Int) (v17 : Int) (v18 : Int) (v19 : Int) (w0 : Int), wpL_isSo_848 ag ae sg post k774 k803 ax ay v5 v6 v7 v8 v9 v10 v13 v15 v16 v17 v18 v19 w0 → ∀ (H : Heap) (locs : List Loc) (ls : Array Slot), va_P X.1 vwCl ([(a_ag, eI X 15 ag), (a_ae, eI X 50 ae), (a_ax, eI X 60 ax), (a_ay, eI X 22 ay)] ++ wo X ad sg) H → va_D A ([(a_ag, eI X 15 ag), (a_ae, eI X 50 ae), (a_ax, eI X 60 ax), (a_ay, eI X 22 ay)] ++ wo X ad sg) → va_S A s.heap H locs → lv_has ls 23 [(0, .ref (ad 0)), (1, .ref a_ag), (2, .ref a_ae), (3, .ref a_ax), (4, .ref a_ay), (5, .int (iI v5)), (6, .int (iI v6)), (7, .int (iI v7)), (8, .int (iI v8)), (9, .int (iI v9)), (10, .int (iI v10)), (13, .int (iI v13)), (15, .int (iI v15)), (16, .int (iI v16)), (17, .int (iI v17)), (18, .int (iI v18)), (19, .int (iI v19))] → W p l e rmL_isSo s m args below meth c H locs 1 6 Q (F0 m 848 ls [.int (iI w0)]) := by
    intro k774 hk774 k803 hk803 ax ay v5 v6 v7 v8 v9 v10 v13 v15 v16 v17 v18 v19 w0 h H locs ls hP hD hS hl
    refine lv_istore (lv' := [(14, .int (iI w0)), (0, .ref (ad 0)), (1, .ref a_ag), (2, .ref a_ae), (3, .ref a_ax), (4, .ref a_ay), (5, .int (iI v5)), (6, .int (iI v6)), (7, .int (iI v7)), (8, .int (iI v8)), (9, .int (iI v9)), (10, .int (iI v10)), (13, .int (iI v13)), (15, .int (iI v15)), (16, .int (iI v16)), (17, .int (iI v17)), (18, .int (iI v18)), (19, .int (iI v19))]) hx hb dL_isSo_848 hl (by decide) rfl (fun ls hl => ?_)
    refine lv_iload hx hb dL_isSo_850 (lv_at hl 13 rfl) ?_
    refine lv_iload hx hb dL_isSo_852 (lv_at hl 17 rfl) ?_
    refine i_if_eq (tgt := 861) hx hb h.1 dL_isSo_854 (by decide) (fun c1 => ?_) (fun c1 => ?_)
    · have h := h.2.1 c1
      refine lv_iconst (v := iI 0) hx hb dL_isSo_861 rfl ?_
      refine W.widen (k := 1) (n := 6) (Nat.le_of_ble_eq_true rfl) (Nat.le_of_ble_eq_true rfl) ?_
      exact B862 k774 hk774 k803 hk803 ax ay v5 v6 v7 v8 v9 v10 v13 w0 v16 v17 v18 v19 0 v15 h _ _ _ hP hD hS (lv_sub hl [1, 2, 3, 4, 5, 6, 7, 8, 9, 10, 11, 12, 0, 14, 15, 16, 17] rfl)
    · have h := h.2.2 c1
      refine lv_iconst (v := iI 1) hx hb dL_isSo_857 rfl ?_
      refine lv_goto (tgt := 862) hx hb dL_isSo_858 (by decide) ?_
      refine W.widen (k := 1) (n := 6) (Nat.le_of_ble_eq_true rfl) (Nat.le_of_ble_eq_true rfl) ?_
      exact B862 k774 hk774 k803 hk803 ax ay v5 v6 v7 v8 v9 v10 v13 w0 v16 v17 v18 v19 1 v15 h _ _ _ hP hD hS (lv_sub hl [1, 2, 3, 4, 5, 6, 7, 8, 9, 10, 11, 12, 0, 14, 15, 16, 17] rfl)
  have B846 : ∀ (k774 : (Nat → Int) → (Nat → Int) → Int → Int → Int → Int → Int → Int → Int → Int → Prop) (hk774 : ∀ (ax : Nat → Int) (ay : Nat → Int) (v5 : Int) (v6 : Int) (v7 : Int) (v8 : Int) (v9 : Int) (v10 : Int) (v11 : Int) (v13 : Int), k774 ax ay v5 v6 v7 v8 v9 v10 v11 v13 → ∀ (H : Heap) (locs : List Loc) (ls : Array Slot), va_P X.1 vwCl ([(a_ag, eI X 15 ag), (a_ae, eI X 50 ae), (a_ax, eI X 60 ax), (a_ay, eI X 22 ay)] ++ wo X ad sg) H → va_D A ([(a_ag, eI X 15 ag), (a_ae, eI X 50 ae), (a_ax, eI X 60 ax), (a_ay, eI X 22 ay)] ++ wo X ad sg) → va_S A s.heap H locs → lv_has ls 23 [(0, .ref (ad 0)), (1, .ref a_ag), (2, .ref a_ae), (3, .ref a_ax), (4, .ref a_ay), (5, .int (iI v5)), (6, .int (iI v6)), (7, .int (iI v7)), (8, .int (iI v8)), (9, .int (iI v9)), (10, .int (iI v10)), (11, .int (iI v11)), (13, .int (iI v13))] → W p l e rmL_isSo s m args below meth c H locs 1 6 Q (F0 m 774 ls [])) (k803 : (Nat → Int) → (Nat → Int) → Int → Int → Int → Int → Int → Int → Int → Int → Int → Int → Int → Int → Prop) (hk803 : ∀ (ax : Nat → Int) (ay : Nat → Int) (v5 : Int) (v6 : Int) (v7 : Int) (v8 : Int) (v9 : Int) (v10 : Int) (v13 : Int) (v14 : Int) (v15 : Int) (v16 : Int) (v17 : Int) (v18 : Int), k803 ax ay v5 v6 v7 v8 v9 v10 v13 v14 v15 v16 v17 v18 → ∀ (H : Heap) (locs : List Loc) (ls : Array Slot), va_P X.1 vwCl ([(a_ag, eI X 15 ag), (a_ae, eI X 50 ae), (a_ax, eI X 60 ax), (a_ay, eI X 22 ay)] ++ wo X ad sg) H → va_D A ([(a_ag, eI X 15 ag), (a_ae, eI X 50 ae), (a_ax, eI X 60 ax), (a_ay, eI X 22 ay)] ++ wo X ad sg) → va_S A s.heap H locs → lv_has ls 23 [(0, .ref (ad 0)), (1, .ref a_ag), (2, .ref a_ae), (3, .ref a_ax), (4, .ref a_ay), (5, .int (iI v5)), (6, .int (iI v6)), (7, .int (iI v7)), (8, .int (iI v8)), (9, .int (iI v9)), (10, .int (iI v10)), (13, .int (iI v13)), (14, .int (iI v14)), (15, .int (iI v15)), (16, .int (iI v16)), (17, .int (iI v17)), (18, .int (iI v18))] → W p l e rmL_isSo s m args below meth c H locs 1 6 Q (F0 m 803 ls [])) (ax : Nat → Int) (ay : Nat → Int) (v5 : Int) (v6 : Int) (v7 : Int) (v8 : Int) (v9 : Int) (v10 : Int) (v13 : Int) (v14 : Int) (v15 : Int) (v16 : Int) (v17 : Int) (v18 : Int) (v19 : Int), wpL_isSo_846 ag ae sg post k774 k803 ax ay v5 v6 v7 v8 v9 v10 v13 v14 v15 v16 v17 v18 v19 → ∀ (H : Heap) (locs : List Loc) (ls : Array Slot), va_P X.1 vwCl ([(a_ag, eI X 15 ag), (a_ae, eI X 50 ae), (a_ax, eI X 60 ax), (a_ay, eI X 22 ay)] ++ wo X ad sg) H → va_D A ([(a_ag, eI X 15 ag), (a_ae, eI X 50 ae), (a_ax, eI X 60 ax), (a_ay, eI X 22 ay)] ++ wo X ad sg) → va_S A s.heap H locs → lv_has ls 23 [(0, .ref (ad 0)), (1, .ref a_ag), (2, .ref a_ae), (3, .ref a_ax), (4, .ref a_ay), (5, .int (iI v5)), (6, .int (iI v6)), (7, .int (iI v7)), (8, .int (iI v8)), (9, .int (iI v9)), (10, .int (iI v10)), (13, .int (iI v13)), (14, .int (iI v14)), (15, .int (iI v15)), (16, .int (iI v16)), (17, .int (iI v17)), (18, .int (iI v18)), (19, .int (iI v19))] → W p l e rmL_isSo s m args below meth c H locs 1 6 Q (F0 m 846 ls []) := by
    intro k774 hk774 k803 hk803 ax ay v5 v6 v7 v8 v9 v10 v13 v14 v15 v16 v17 v18 v19 h H locs ls hP hD hS hl
    refine lv_iload hx hb dL_isSo_846 (lv_at hl 12 rfl) ?_
    refine W.widen (k := 1) (n := 6) (Nat.le_of_ble_eq_true rfl) (Nat.le_of_ble_eq_true rfl) ?_
    exact B848 k774 hk774 k803 hk803 ax ay v5 v6 v7 v8 v9 v10 v13 v15 v16 v17 v18 v19 v14 h _ _ _ hP hD hS (lv_sub hl [0, 1, 2, 3, 4, 5, 6, 7, 8, 9, 10, 11, 13, 14, 15, 16, 17] rfl)
  have B829 : ∀ (k774 : (Nat → Int) → (Nat → Int) → Int → Int → Int → Int → Int → Int → Int → Int → Prop) (hk774 : ∀ (ax : Nat → Int) (ay : Nat → Int) (v5 : Int) (v6 : Int) (v7 : Int) (v8 : Int) (v9 : Int) (v10 : Int) (v11 : Int) (v13 : Int), k774 ax ay v5 v6 v7 v8 v9 v10 v11 v13 → ∀ (H : Heap) (locs : List Loc) (ls : Array Slot), va_P X.1 vwCl ([(a_ag, eI X 15 ag), (a_ae, eI X 50 ae), (a_ax, eI X 60 ax), (a_ay, eI X 22 ay)] ++ wo X ad sg) H → va_D A ([(a_ag, eI X 15 ag), (a_ae, eI X 50 ae), (a_ax, eI X 60 ax), (a_ay, eI X 22 ay)] ++ wo X ad sg) → va_S A s.heap H locs → lv_has ls 23 [(0, .ref (ad 0)), (1, .ref a_ag), (2, .ref a_ae), (3, .ref a_ax), (4, .ref a_ay), (5, .int (iI v5)), (6, .int (iI v6)), (7, .int (iI v7)), (8, .int (iI v8)), (9, .int (iI v9)), (10, .int (iI v10)), (11, .int (iI v11)), (13, .int (iI v13))] → W p l e rmL_isSo s m args below meth c H locs 1 6 Q (F0 m 774 ls [])) (k803 : (Nat → Int) → (Nat → Int) → Int → Int → Int → Int → Int → Int → Int → Int → Int → Int → Int → Int → Prop) (hk803 : ∀ (ax : Nat → Int) (ay : Nat → Int) (v5 : Int) (v6 : Int) (v7 : Int) (v8 : Int) (v9 : Int) (v10 : Int) (v13 : Int) (v14 : Int) (v15 : Int) (v16 : Int) (v17 : Int) (v18 : Int), k803 ax ay v5 v6 v7 v8 v9 v10 v13 v14 v15 v16 v17 v18 → ∀ (H : Heap) (locs : List Loc) (ls : Array Slot), va_P X.1 vwCl ([(a_ag, eI X 15 ag), (a_ae, eI X 50 ae), (a_ax, eI X 60 ax), (a_ay, eI X 22 ay)] ++ wo X ad sg) H → va_D A ([(a_ag, eI X 15 ag), (a_ae, eI X 50 ae), (a_ax, eI X 60 ax), (a_ay, eI X 22 ay)] ++ wo X ad sg) → va_S A s.heap H locs → lv_has ls 23 [(0, .ref (ad 0)), (1, .ref a_ag), (2, .ref a_ae), (3, .ref a_ax), (4, .ref a_ay), (5, .int (iI v5)), (6, .int (iI v6)), (7, .int (iI v7)), (8, .int (iI v8)), (9, .int (iI v9)), (10, .int (iI v10)), (13, .int (iI v13)), (14, .int (iI v14)), (15, .int (iI v15)), (16, .int (iI v16)), (17, .int (iI v17)), (18, .int (iI v18))] → W p l e rmL_isSo s m args below meth c H locs 1 6 Q (F0 m 803 ls [])) (ax : Nat → Int) (ay : Nat → Int) (v5 : Int) (v6 : Int) (v7 : Int) (v8 : Int) (v9 : Int) (v10 : Int) (v13 : Int) (v14 : Int) (v15 : Int) (v16 : Int) (v17 : Int) (v18 : Int) (w0 : Int), wpL_isSo_829 ag ae sg post k774 k803 ax ay v5 v6 v7 v8 v9 v10 v13 v14 v15 v16 v17 v18 w0 → ∀ (H : Heap) (locs : List Loc) (ls : Array Slot), va_P X.1 vwCl ([(a_ag, eI X 15 ag), (a_ae, eI X 50 ae), (a_ax, eI X 60 ax), (a_ay, eI X 22 ay)] ++ wo X ad sg) H → va_D A ([(a_ag, eI X 15 ag), (a_ae, eI X 50 ae), (a_ax, eI X 60 ax), (a_ay, eI X 22 ay)] ++ wo X ad sg) → va_S A s.heap H locs → lv_has ls 23 [(0, .ref (ad 0)), (1, .ref a_ag), (2, .ref a_ae), (3, .ref a_ax), (4, .ref a_ay), (5, .int (iI v5)), (6, .int (iI v6)), (7, .int (iI v7)), (8, .int (iI v8)), (9, .int (iI v9)), (10, .int (iI v10)), (13, .int (iI v13)), (14, .int (iI v14)), (15, .int (iI v15)), (16, .int (iI v16)), (17, .int (iI v17)), (18, .int (iI v18))] → W p l e rmL_isSo s m args below meth c H locs 1 6 Q (F0 m 829 ls [.int (iI w0)]) := by
    intro k774 hk774 k803 hk803 ax ay v5 v6 v7 v8 v9 v10 v13 v14 v15 v16 v17 v18 w0 h H locs ls hP hD hS hl
    refine lv_istore (lv' := [(19, .int (iI w0)), (0, .ref (ad 0)), (1, .ref a_ag), (2, .ref a_ae), (3, .ref a_ax), (4, .ref a_ay), (5, .int (iI v5)), (6, .int (iI v6)), (7, .int (iI v7)), (8, .int (iI v8)), (9, .int (iI v9)), (10, .int (iI v10)), (13, .int (iI v13)), (14, .int (iI v14)), (15, .int (iI v15)), (16, .int (iI v16)), (17, .int (iI v17)), (18, .int (iI v18))]) hx hb dL_isSo_829 hl (by decide) rfl (fun ls hl => ?_)
    refine lv_iload hx hb dL_isSo_831 (lv_at hl 0 rfl) ?_
    refine i_if_eq (tgt := 846) hx hb h.1 dL_isSo_833 (by decide) (fun c1 => ?_) (fun c1 => ?_)
    · have h := h.2.1 c1
      refine W.widen (k := 1) (n := 6) (Nat.le_of_ble_eq_true rfl) (Nat.le_of_ble_eq_true rfl) ?_
      exact B846 k774 hk774 k803 hk803 ax ay v5 v6 v7 v8 v9 v10 v13 v14 v15 v16 v17 v18 w0 h _ _ _ hP hD hS (lv_sub hl [1, 2, 3, 4, 5, 6, 7, 8, 9, 10, 11, 12, 13, 14, 15, 16, 17, 0] rfl)
    · have h := h.2.2 c1
      refine lv_iload hx hb dL_isSo_836 (lv_at hl 13 rfl) ?_
      refine i_if_ge (tgt := 846) hx hb h.1 dL_isSo_838 (by decide) (fun c2 => ?_) (fun c2 => ?_)
      · have h := h.2.1 c2
        refine W.widen (k := 1) (n := 6) (Nat.le_of_ble_eq_true rfl) (Nat.le_of_ble_eq_true rfl) ?_
        exact B846 k774 hk774 k803 hk803 ax ay v5 v6 v7 v8 v9 v10 v13 v14 v15 v16 v17 v18 w0 h _ _ _ hP hD hS (lv_sub hl [1, 2, 3, 4, 5, 6, 7, 8, 9, 10, 11, 12, 13, 14, 15, 16, 17, 0] rfl)
      · have h := h.2.2 c2
        refine lv_iload hx hb dL_isSo_841 (lv_at hl 17 rfl) ?_
        refine lv_goto (tgt := 848) hx hb dL_isSo_843 (by decide) ?_
        refine W.widen (k := 1) (n := 6) (Nat.le_of_ble_eq_true rfl) (Nat.le_of_ble_eq_true rfl) ?_
        exact B848 k774 hk774 k803 hk803 ax ay v5 v6 v7 v8 v9 v10 v13 v15 v16 v17 v18 w0 v18 h _ _ _ hP hD hS (lv_sub hl [1, 2, 3, 4, 5, 6, 7, 8, 9, 10, 11, 12, 14, 15, 16, 17, 0] rfl)
  have B803 : ∀ (k774 : (Nat → Int) → (Nat → Int) → Int → Int → Int → Int → Int → Int → Int → Int → Prop) (hk774 : ∀ (ax : Nat → Int) (ay : Nat → Int) (v5 : Int) (v6 : Int) (v7 : Int) (v8 : Int) (v9 : Int) (v10 : Int) (v11 : Int) (v13 : Int), k774 ax ay v5 v6 v7 v8 v9 v10 v11 v13 → ∀ (H : Heap) (locs : List Loc) (ls : Array Slot), va_P X.1 vwCl ([(a_ag, eI X 15 ag), (a_ae, eI X 50 ae), (a_ax, eI X 60 ax), (a_ay, eI X 22 ay)] ++ wo X ad sg) H → va_D A ([(a_ag, eI X 15 ag), (a_ae, eI X 50 ae), (a_ax, eI X 60 ax), (a_ay, eI X 22 ay)] ++ wo X ad sg) → va_S A s.heap H locs → lv_has ls 23 [(0, .ref (ad 0)), (1, .ref a_ag), (2, .ref a_ae), (3, .ref a_ax), (4, .ref a_ay), (5, .int (iI v5)), (6, .int (iI v6)), (7, .int (iI v7)), (8, .int (iI v8)), (9, .int (iI v9)), (10, .int (iI v10)), (11, .int (iI v11)), (13, .int (iI v13))] → W p l e rmL_isSo s m args below meth c H locs 1 6 Q (F0 m 774 ls [])) (n : Nat) (ax : Nat → Int) (ay : Nat → Int) (v5 : Int) (v6 : Int) (v7 : Int) (v8 : Int) (v9 : Int) (v10 : Int) (v13 : Int) (v14 : Int) (v15 : Int) (v16 : Int) (v17 : Int) (v18 : Int), wpL_isSo_803 ag ae sg post k774 n ax ay v5 v6 v7 v8 v9 v10 v13 v14 v15 v16 v17 v18 → ∀ (H : Heap) (locs : List Loc) (ls : Array Slot), va_P X.1 vwCl ([(a_ag, eI X 15 ag), (a_ae, eI X 50 ae), (a_ax, eI X 60 ax), (a_ay, eI X 22 ay)] ++ wo X ad sg) H → va_D A ([(a_ag, eI X 15 ag), (a_ae, eI X 50 ae), (a_ax, eI X 60 ax), (a_ay, eI X 22 ay)] ++ wo X ad sg) → va_S A s.heap H locs → lv_has ls 23 [(0, .ref (ad 0)), (1, .ref a_ag), (2, .ref a_ae), (3, .ref a_ax), (4, .ref a_ay), (5, .int (iI v5)), (6, .int (iI v6)), (7, .int (iI v7)), (8, .int (iI v8)), (9, .int (iI v9)), (10, .int (iI v10)), (13, .int (iI v13)), (14, .int (iI v14)), (15, .int (iI v15)), (16, .int (iI v16)), (17, .int (iI v17)), (18, .int (iI v18))] → W p l e rmL_isSo s m args below meth c H locs 1 6 Q (F0 m 803 ls []) := by
    intro k774 hk774 n
    induction n with
    | zero => intro ax ay v5 v6 v7 v8 v9 v10 v13 v14 v15 v16 v17 v18 h; exact h.elim
    | succ n ih =>
      intro ax ay v5 v6 v7 v8 v9 v10 v13 v14 v15 v16 v17 v18 h H locs ls hP hD hS hl
      refine lv_iload hx hb dL_isSo_803 (lv_at hl 16 rfl) ?_
      refine lv_aload hx hb dL_isSo_805 (lv_at hl 4 rfl) ?_
      refine lv_iconst (v := iI 0) hx hb dL_isSo_807 rfl ?_
      refine i_ald hx hb hK hP 3 0 rfl rfl (by decide) (by decide) rfl (Nat.le_of_ble_eq_true rfl) dL_isSo_808 ?_
      refine i_cmp_ge (tgt := 927) hx hb h.1 h.2.1 dL_isSo_809 (by decide) (fun c1 => ?_) (fun c1 => ?_)
      · have h := h.2.2.1 c1
        refine lv_aload_n hx hb dL_isSo_927 rfl (lv_at hl 0 rfl) ?_
        refine lv_iload hx hb dL_isSo_928 (lv_at hl 11 rfl) ?_
        refine lv_iconst (v := iI 0) hx hb dL_isSo_930 rfl ?_
        refine t_i (xs := [(a_ag, eI X 15 ag), (a_ae, eI X 50 ae), (a_ax, eI X 60 ax), (a_ay, eI X 22 ay)]) (isR := [0, 1, 2, 3]) (vx_runSW (As := [.ref (ad 0), .int (iI v13), .int (iI 0)]) (rest := []) ⟨hx, hb, hml, hown, hts⟩ (kL_pageOf0 l X ad sg v13 0 _ h _) (vx_cwSW 3 hts gL_isSo_L_pageOf rfl rfl rfl (by decide +kernel) ⟨(Nat.le_of_ble_eq_true rfl), (Nat.le_of_ble_eq_true rfl)⟩) ⟨pre_blind, pre_cutP hE hK hA hP hD hS⟩ rfl rfl hl.1 rfl (lv_room (Nat.le_of_ble_eq_true rfl)) dL_isSo_931 ⟨(Nat.le_of_ble_eq_true rfl), (Nat.le_of_ble_eq_true rfl)⟩) hA hP hD hS rfl (by decide +kernel) (fun z3 u3 H locs h hP hD hS => ?_)
        have hP : va_P X.1 vwCl ([(a_ag, eI X 15 ag), (a_ae, eI X 50 ae), (a_ax, eI X 60 ax), (a_ay, eI X 22 ay)] ++ wo X ad sg) H := hP
        have hD : va_D A ([(a_ag, eI X 15 ag), (a_ae, eI X 50 ae), (a_ax, eI X 60 ax), (a_ay, eI X 22 ay)] ++ wo X ad sg) := hD
        refine lv_iload hx hb dL_isSo_934 (lv_at hl 12 rfl) ?_
        refine i_cmp_ne (tgt := 1012) hx hb h.1 h.2.1 dL_isSo_936 (by decide) (fun c4 => ?_) (fun c4 => ?_)
        · have h := h.2.2.1 c4
          refine W.widen (k := 1) (n := 6) (Nat.le_of_ble_eq_true rfl) (Nat.le_of_ble_eq_true rfl) ?_
          exact B1012 k774 hk774 ax ay v5 v6 v7 v8 v9 v10 v13 h _ _ _ hP hD hS (lv_sub hl [0, 1, 2, 3, 4, 5, 6, 7, 8, 9, 10, 11] rfl)
        · have h := h.2.2.2 c4
          refine lv_aload_n hx hb dL_isSo_939 rfl (lv_at hl 0 rfl) ?_
          refine lv_iload hx hb dL_isSo_940 (lv_at hl 11 rfl) ?_
          refine lv_iconst (v := iI 1) hx hb dL_isSo_942 rfl ?_
          refine t_i (xs := [(a_ag, eI X 15 ag), (a_ae, eI X 50 ae), (a_ax, eI X 60 ax), (a_ay, eI X 22 ay)]) (isR := [0, 1, 2, 3]) (vx_runSW (As := [.ref (ad 0), .int (iI v13), .int (iI 1)]) (rest := []) ⟨hx, hb, hml, hown, hts⟩ (kL_pageOf0 l X ad sg v13 1 _ h _) (vx_cwSW 3 hts gL_isSo_L_pageOf rfl rfl rfl (by decide +kernel) ⟨(Nat.le_of_ble_eq_true rfl), (Nat.le_of_ble_eq_true rfl)⟩) ⟨pre_blind, pre_cutP hE hK hA hP hD hS⟩ rfl rfl hl.1 rfl (lv_room (Nat.le_of_ble_eq_true rfl)) dL_isSo_943 ⟨(Nat.le_of_ble_eq_true rfl), (Nat.le_of_ble_eq_true rfl)⟩) hA hP hD hS rfl (by decide +kernel) (fun z6 u6 H locs h hP hD hS => ?_)
          have hP : va_P X.1 vwCl ([(a_ag, eI X 15 ag), (a_ae, eI X 50 ae), (a_ax, eI X 60 ax), (a_ay, eI X 22 ay)] ++ wo X ad sg) H := hP
          have hD : va_D A ([(a_ag, eI X 15 ag), (a_ae, eI X 50 ae), (a_ax, eI X 60 ax), (a_ay, eI X 22 ay)] ++ wo X ad sg) := hD
          refine lv_iload hx hb dL_isSo_946 (lv_at hl 13 rfl) ?_
          refine i_cmp_ne (tgt := 1012) hx hb h.1 h.2.1 dL_isSo_948 (by decide) (fun c7 => ?_) (fun c7 => ?_)
          · have h := h.2.2.1 c7
            refine W.widen (k := 1) (n := 6) (Nat.le_of_ble_eq_true rfl) (Nat.le_of_ble_eq_true rfl) ?_
            exact B1012 k774 hk774 ax ay v5 v6 v7 v8 v9 v10 v13 h _ _ _ hP hD hS (lv_sub hl [0, 1, 2, 3, 4, 5, 6, 7, 8, 9, 10, 11] rfl)
          · have h := h.2.2.2 c7
            refine lv_aload_n hx hb dL_isSo_951 rfl (lv_at hl 0 rfl) ?_
            refine lv_iload hx hb dL_isSo_952 (lv_at hl 11 rfl) ?_
            refine lv_iconst (v := iI 2) hx hb dL_isSo_954 rfl ?_
            refine t_i (xs := [(a_ag, eI X 15 ag), (a_ae, eI X 50 ae), (a_ax, eI X 60 ax), (a_ay, eI X 22 ay)]) (isR := [0, 1, 2, 3]) (vx_runSW (As := [.ref (ad 0), .int (iI v13), .int (iI 2)]) (rest := []) ⟨hx, hb, hml, hown, hts⟩ (kL_pageOf0 l X ad sg v13 2 _ h _) (vx_cwSW 3 hts gL_isSo_L_pageOf rfl rfl rfl (by decide +kernel) ⟨(Nat.le_of_ble_eq_true rfl), (Nat.le_of_ble_eq_true rfl)⟩) ⟨pre_blind, pre_cutP hE hK hA hP hD hS⟩ rfl rfl hl.1 rfl (lv_room (Nat.le_of_ble_eq_true rfl)) dL_isSo_955 ⟨(Nat.le_of_ble_eq_true rfl), (Nat.le_of_ble_eq_true rfl)⟩) hA hP hD hS rfl (by decide +kernel) (fun z9 u9 H locs h hP hD hS => ?_)
            have hP : va_P X.1 vwCl ([(a_ag, eI X 15 ag), (a_ae, eI X 50 ae), (a_ax, eI X 60 ax), (a_ay, eI X 22 ay)] ++ wo X ad sg) H := hP
            have hD : va_D A ([(a_ag, eI X 15 ag), (a_ae, eI X 50 ae), (a_ax, eI X 60 ax), (a_ay, eI X 22 ay)] ++ wo X ad sg) := hD
            refine lv_iload hx hb dL_isSo_958 (lv_at hl 14 rfl) ?_
            refine i_cmp_ne (tgt := 1012) hx hb h.1 h.2.1 dL_isSo_960 (by decide) (fun c10 => ?_) (fun c10 => ?_)
            · have h := h.2.2.1 c10
              refine W.widen (k := 1) (n := 6) (Nat.le_of_ble_eq_true rfl) (Nat.le_of_ble_eq_true rfl) ?_
              exact B1012 k774 hk774 ax ay v5 v6 v7 v8 v9 v10 v13 h _ _ _ hP hD hS (lv_sub hl [0, 1, 2, 3, 4, 5, 6, 7, 8, 9, 10, 11] rfl)
            · have h := h.2.2.2 c10
              refine lv_aload_n hx hb dL_isSo_963 rfl (lv_at hl 0 rfl) ?_
              refine lv_iload hx hb dL_isSo_964 (lv_at hl 11 rfl) ?_
              refine lv_iconst (v := iI 3) hx hb dL_isSo_966 rfl ?_
              refine t_i (xs := [(a_ag, eI X 15 ag), (a_ae, eI X 50 ae), (a_ax, eI X 60 ax), (a_ay, eI X 22 ay)]) (isR := [0, 1, 2, 3]) (vx_runSW (As := [.ref (ad 0), .int (iI v13), .int (iI 3)]) (rest := []) ⟨hx, hb, hml, hown, hts⟩ (kL_pageOf0 l X ad sg v13 3 _ h _) (vx_cwSW 3 hts gL_isSo_L_pageOf rfl rfl rfl (by decide +kernel) ⟨(Nat.le_of_ble_eq_true rfl), (Nat.le_of_ble_eq_true rfl)⟩) ⟨pre_blind, pre_cutP hE hK hA hP hD hS⟩ rfl rfl hl.1 rfl (lv_room (Nat.le_of_ble_eq_true rfl)) dL_isSo_967 ⟨(Nat.le_of_ble_eq_true rfl), (Nat.le_of_ble_eq_true rfl)⟩) hA hP hD hS rfl (by decide +kernel) (fun z12 u12 H locs h hP hD hS => ?_)
              have hP : va_P X.1 vwCl ([(a_ag, eI X 15 ag), (a_ae, eI X 50 ae), (a_ax, eI X 60 ax), (a_ay, eI X 22 ay)] ++ wo X ad sg) H := hP
              have hD : va_D A ([(a_ag, eI X 15 ag), (a_ae, eI X 50 ae), (a_ax, eI X 60 ax), (a_ay, eI X 22 ay)] ++ wo X ad sg) := hD
              refine lv_iload hx hb dL_isSo_970 (lv_at hl 15 rfl) ?_
              refine i_cmp_ne (tgt := 1012) hx hb h.1 h.2.1 dL_isSo_972 (by decide) (fun c13 => ?_) (fun c13 => ?_)
              · have h := h.2.2.1 c13
                refine W.widen (k := 1) (n := 6) (Nat.le_of_ble_eq_true rfl) (Nat.le_of_ble_eq_true rfl) ?_
                exact B1012 k774 hk774 ax ay v5 v6 v7 v8 v9 v10 v13 h _ _ _ hP hD hS (lv_sub hl [0, 1, 2, 3, 4, 5, 6, 7, 8, 9, 10, 11] rfl)
              · have h := h.2.2.2 c13
                refine lv_aload_n hx hb dL_isSo_975 rfl (lv_at hl 0 rfl) ?_
                refine lv_iload hx hb dL_isSo_976 (lv_at hl 11 rfl) ?_
                refine lv_iconst (v := iI 4) hx hb dL_isSo_978 rfl ?_
                refine t_i (xs := [(a_ag, eI X 15 ag), (a_ae, eI X 50 ae), (a_ax, eI X 60 ax), (a_ay, eI X 22 ay)]) (isR := [0, 1, 2, 3]) (vx_runSW (As := [.ref (ad 0), .int (iI v13), .int (iI 4)]) (rest := []) ⟨hx, hb, hml, hown, hts⟩ (kL_pageOf0 l X ad sg v13 4 _ h _) (vx_cwSW 3 hts gL_isSo_L_pageOf rfl rfl rfl (by decide +kernel) ⟨(Nat.le_of_ble_eq_true rfl), (Nat.le_of_ble_eq_true rfl)⟩) ⟨pre_blind, pre_cutP hE hK hA hP hD hS⟩ rfl rfl hl.1 rfl (lv_room (Nat.le_of_ble_eq_true rfl)) dL_isSo_979 ⟨(Nat.le_of_ble_eq_true rfl), (Nat.le_of_ble_eq_true rfl)⟩) hA hP hD hS rfl (by decide +kernel) (fun z15 u15 H locs h hP hD hS => ?_)
                have hP : va_P X.1 vwCl ([(a_ag, eI X 15 ag), (a_ae, eI X 50 ae), (a_ax, eI X 60 ax), (a_ay, eI X 22 ay)] ++ wo X ad sg) H := hP
                have hD : va_D A ([(a_ag, eI X 15 ag), (a_ae, eI X 50 ae), (a_ax, eI X 60 ax), (a_ay, eI X 22 ay)] ++ wo X ad sg) := hD
                refine lv_iload hx hb dL_isSo_982 (lv_at hl 14 rfl) ?_
                refine lv_iload hx hb dL_isSo_984 (lv_at hl 15 rfl) ?_
                refine i_sub hx hb dL_isSo_986 ?_
                refine i_cmp_ne (tgt := 1012) hx hb h.1 h.2.1 dL_isSo_987 (by decide) (fun c16 => ?_) (fun c16 => ?_)
                · have h := h.2.2.1 c16
                  refine W.widen (k := 1) (n := 6) (Nat.le_of_ble_eq_true rfl) (Nat.le_of_ble_eq_true rfl) ?_
                  exact B1012 k774 hk774 ax ay v5 v6 v7 v8 v9 v10 v13 h _ _ _ hP hD hS (lv_sub hl [0, 1, 2, 3, 4, 5, 6, 7, 8, 9, 10, 11] rfl)
                · have h := h.2.2.2 c16
                  refine lv_aload_n hx hb dL_isSo_990 rfl (lv_at hl 0 rfl) ?_
                  refine lv_iload hx hb dL_isSo_991 (lv_at hl 11 rfl) ?_
                  refine lv_iconst (v := iI 5) hx hb dL_isSo_993 rfl ?_
                  refine t_i (xs := [(a_ag, eI X 15 ag), (a_ae, eI X 50 ae), (a_ax, eI X 60 ax), (a_ay, eI X 22 ay)]) (isR := [0, 1, 2, 3]) (vx_runSW (As := [.ref (ad 0), .int (iI v13), .int (iI 5)]) (rest := []) ⟨hx, hb, hml, hown, hts⟩ (kL_pageOf0 l X ad sg v13 5 _ h _) (vx_cwSW 3 hts gL_isSo_L_pageOf rfl rfl rfl (by decide +kernel) ⟨(Nat.le_of_ble_eq_true rfl), (Nat.le_of_ble_eq_true rfl)⟩) ⟨pre_blind, pre_cutP hE hK hA hP hD hS⟩ rfl rfl hl.1 rfl (lv_room (Nat.le_of_ble_eq_true rfl)) dL_isSo_994 ⟨(Nat.le_of_ble_eq_true rfl), (Nat.le_of_ble_eq_true rfl)⟩) hA hP hD hS rfl (by decide +kernel) (fun z18 u18 H locs h hP hD hS => ?_)
                  have hP : va_P X.1 vwCl ([(a_ag, eI X 15 ag), (a_ae, eI X 50 ae), (a_ax, eI X 60 ax), (a_ay, eI X 22 ay)] ++ wo X ad sg) H := hP
                  have hD : va_D A ([(a_ag, eI X 15 ag), (a_ae, eI X 50 ae), (a_ax, eI X 60 ax), (a_ay, eI X 22 ay)] ++ wo X ad sg) := hD
                  refine lv_aload hx hb dL_isSo_997 (lv_at hl 4 rfl) ?_
                  refine lv_bipush (v := iI 12) hx hb dL_isSo_999 (by decide +kernel) ?_
                  refine lv_iload hx hb dL_isSo_1001 (lv_at hl 11 rfl) ?_
                  refine i_add hx hb dL_isSo_1003 ?_
                  refine i_ald hx hb hK hP 3 0 rfl rfl h.1 h.2.1 rfl (Nat.le_of_ble_eq_true rfl) dL_isSo_1004 ?_
                  have h := h.2.2
                  refine i_cmp_ne (tgt := 1012) hx hb h.1 h.2.1 dL_isSo_1005 (by decide) (fun c19 => ?_) (fun c19 => ?_)
                  · have h := h.2.2.1 c19
                    refine W.widen (k := 1) (n := 6) (Nat.le_of_ble_eq_true rfl) (Nat.le_of_ble_eq_true rfl) ?_
                    exact B1012 k774 hk774 ax ay v5 v6 v7 v8 v9 v10 v13 h _ _ _ hP hD hS (lv_sub hl [0, 1, 2, 3, 4, 5, 6, 7, 8, 9, 10, 11] rfl)
                  · have h := h.2.2.2 c19
                    refine lv_iconst (v := iI 1) hx hb dL_isSo_1008 rfl ?_
                    refine lv_goto (tgt := 1013) hx hb dL_isSo_1009 (by decide) ?_
                    refine W.widen (k := 1) (n := 6) (Nat.le_of_ble_eq_true rfl) (Nat.le_of_ble_eq_true rfl) ?_
                    exact B1013 k774 hk774 ax ay v5 v6 v7 v8 v9 v10 v13 1 h _ _ _ hP hD hS (lv_sub hl [0, 1, 2, 3, 4, 5, 6, 7, 8, 9, 10, 11] rfl)
      · have h := h.2.2.2 c1
        refine lv_aload hx hb dL_isSo_812 (lv_at hl 4 rfl) ?_
        refine lv_iconst (v := iI 2) hx hb dL_isSo_814 rfl ?_
        refine lv_iload hx hb dL_isSo_815 (lv_at hl 16 rfl) ?_
        refine i_add hx hb dL_isSo_817 ?_
        refine i_ald hx hb hK hP 3 0 rfl rfl h.1 h.2.1 rfl (Nat.le_of_ble_eq_true rfl) dL_isSo_818 ?_
        have h := h.2.2
        refine lv_iload hx hb dL_isSo_819 (lv_at hl 11 rfl) ?_
        refine i_cmp_ne (tgt := 828) hx hb h.1 h.2.1 dL_isSo_821 (by decide) (fun c20 => ?_) (fun c20 => ?_)
        · have h := h.2.2.1 c20
          refine lv_iconst (v := iI 0) hx hb dL_isSo_828 rfl ?_
          refine W.widen (k := 1) (n := 6) (Nat.le_of_ble_eq_true rfl) (Nat.le_of_ble_eq_true rfl) ?_
          exact B829 k774 hk774 (wpL_isSo_803 ag ae sg post k774 n) ih ax ay v5 v6 v7 v8 v9 v10 v13 v14 v15 v16 v17 v18 0 h _ _ _ hP hD hS (lv_sub hl [0, 1, 2, 3, 4, 5, 6, 7, 8, 9, 10, 11, 12, 13, 14, 15, 16] rfl)
        · have h := h.2.2.2 c20
          refine lv_iconst (v := iI 1) hx hb dL_isSo_824 rfl ?_
          refine lv_goto (tgt := 829) hx hb dL_isSo_825 (by decide) ?_
          refine W.widen (k := 1) (n := 6) (Nat.le_of_ble_eq_true rfl) (Nat.le_of_ble_eq_true rfl) ?_
          exact B829 k774 hk774 (wpL_isSo_803 ag ae sg post k774 n) ih ax ay v5 v6 v7 v8 v9 v10 v13 v14 v15 v16 v17 v18 1 h _ _ _ hP hD hS (lv_sub hl [0, 1, 2, 3, 4, 5, 6, 7, 8, 9, 10, 11, 12, 13, 14, 15, 16] rfl)
  have B774 : ∀ (n : Nat) (ax : Nat → Int) (ay : Nat → Int) (v5 : Int) (v6 : Int) (v7 : Int) (v8 : Int) (v9 : Int) (v10 : Int) (v11 : Int) (v13 : Int), wpL_isSo_774 ag ae sg post n ax ay v5 v6 v7 v8 v9 v10 v11 v13 → ∀ (H : Heap) (locs : List Loc) (ls : Array Slot), va_P X.1 vwCl ([(a_ag, eI X 15 ag), (a_ae, eI X 50 ae), (a_ax, eI X 60 ax), (a_ay, eI X 22 ay)] ++ wo X ad sg) H → va_D A ([(a_ag, eI X 15 ag), (a_ae, eI X 50 ae), (a_ax, eI X 60 ax), (a_ay, eI X 22 ay)] ++ wo X ad sg) → va_S A s.heap H locs → lv_has ls 23 [(0, .ref (ad 0)), (1, .ref a_ag), (2, .ref a_ae), (3, .ref a_ax), (4, .ref a_ay), (5, .int (iI v5)), (6, .int (iI v6)), (7, .int (iI v7)), (8, .int (iI v8)), (9, .int (iI v9)), (10, .int (iI v10)), (11, .int (iI v11)), (13, .int (iI v13))] → W p l e rmL_isSo s m args below meth c H locs 1 6 Q (F0 m 774 ls []) := by
    intro  n
    induction n with
    | zero => intro ax ay v5 v6 v7 v8 v9 v10 v11 v13 h; exact h.elim
    | succ n ih =>
      intro ax ay v5 v6 v7 v8 v9 v10 v11 v13 h H locs ls hP hD hS hl
      refine lv_iload hx hb dL_isSo_774 (lv_at hl 12 rfl) ?_
      refine lv_aload hx hb dL_isSo_776 (lv_at hl 4 rfl) ?_
      refine lv_iconst (v := iI 1) hx hb dL_isSo_778 rfl ?_
      refine i_ald hx hb hK hP 3 0 rfl rfl (by decide) (by decide) rfl (Nat.le_of_ble_eq_true rfl) dL_isSo_779 ?_
      refine i_cmp_ge (tgt := 1021) hx hb h.1 h.2.1 dL_isSo_780 (by decide) (fun c1 => ?_) (fun c1 => ?_)
      · have h := h.2.2.1 c1
        refine W.widen (k := 1) (n := 6) (Nat.le_of_ble_eq_true rfl) (Nat.le_of_ble_eq_true rfl) ?_
        exact B1021  ax ay v5 v6 v7 v8 v9 v10 v11 h _ _ _ hP hD hS (lv_sub hl [0, 1, 2, 3, 4, 5, 6, 7, 8, 9, 10, 11] rfl)
      · have h := h.2.2.2 c1
        refine lv_iload hx hb dL_isSo_783 (lv_at hl 11 rfl) ?_
        refine i_if_eq (tgt := 1021) hx hb h.1 dL_isSo_785 (by decide) (fun c2 => ?_) (fun c2 => ?_)
        · have h := h.2.1 c2
          refine W.widen (k := 1) (n := 6) (Nat.le_of_ble_eq_true rfl) (Nat.le_of_ble_eq_true rfl) ?_
          exact B1021  ax ay v5 v6 v7 v8 v9 v10 v11 h _ _ _ hP hD hS (lv_sub hl [0, 1, 2, 3, 4, 5, 6, 7, 8, 9, 10, 11] rfl)
        · have h := h.2.2 c2
          refine lv_iconst (v := iI (-1)) hx hb dL_isSo_788 rfl ?_
          refine lv_istore (lv' := [(14, .int (iI (-1))), (0, .ref (ad 0)), (1, .ref a_ag), (2, .ref a_ae), (3, .ref a_ax), (4, .ref a_ay), (5, .int (iI v5)), (6, .int (iI v6)), (7, .int (iI v7)), (8, .int (iI v8)), (9, .int (iI v9)), (10, .int (iI v10)), (11, .int (iI v11)), (13, .int (iI v13))]) hx hb dL_isSo_789 hl (by decide) rfl (fun ls hl => ?_)
          refine lv_iconst (v := iI 0) hx hb dL_isSo_791 rfl ?_
          refine lv_istore (lv' := [(15, .int (iI 0)), (14, .int (iI (-1))), (0, .ref (ad 0)), (1, .ref a_ag), (2, .ref a_ae), (3, .ref a_ax), (4, .ref a_ay), (5, .int (iI v5)), (6, .int (iI v6)), (7, .int (iI v7)), (8, .int (iI v8)), (9, .int (iI v9)), (10, .int (iI v10)), (11, .int (iI v11)), (13, .int (iI v13))]) hx hb dL_isSo_792 hl (by decide) rfl (fun ls hl => ?_)
          refine lv_iconst (v := iI 0) hx hb dL_isSo_794 rfl ?_
          refine lv_istore (lv' := [(16, .int (iI 0)), (15, .int (iI 0)), (14, .int (iI (-1))), (0, .ref (ad 0)), (1, .ref a_ag), (2, .ref a_ae), (3, .ref a_ax), (4, .ref a_ay), (5, .int (iI v5)), (6, .int (iI v6)), (7, .int (iI v7)), (8, .int (iI v8)), (9, .int (iI v9)), (10, .int (iI v10)), (11, .int (iI v11)), (13, .int (iI v13))]) hx hb dL_isSo_795 hl (by decide) rfl (fun ls hl => ?_)
          refine lv_iconst (v := iI 0) hx hb dL_isSo_797 rfl ?_
          refine lv_istore (lv' := [(17, .int (iI 0)), (16, .int (iI 0)), (15, .int (iI 0)), (14, .int (iI (-1))), (0, .ref (ad 0)), (1, .ref a_ag), (2, .ref a_ae), (3, .ref a_ax), (4, .ref a_ay), (5, .int (iI v5)), (6, .int (iI v6)), (7, .int (iI v7)), (8, .int (iI v8)), (9, .int (iI v9)), (10, .int (iI v10)), (11, .int (iI v11)), (13, .int (iI v13))]) hx hb dL_isSo_798 hl (by decide) rfl (fun ls hl => ?_)
          refine lv_iconst (v := iI 0) hx hb dL_isSo_800 rfl ?_
          refine lv_istore (lv' := [(18, .int (iI 0)), (17, .int (iI 0)), (16, .int (iI 0)), (15, .int (iI 0)), (14, .int (iI (-1))), (0, .ref (ad 0)), (1, .ref a_ag), (2, .ref a_ae), (3, .ref a_ax), (4, .ref a_ay), (5, .int (iI v5)), (6, .int (iI v6)), (7, .int (iI v7)), (8, .int (iI v8)), (9, .int (iI v9)), (10, .int (iI v10)), (11, .int (iI v11)), (13, .int (iI v13))]) hx hb dL_isSo_801 hl (by decide) rfl (fun ls hl => ?_)
          refine W.widen (k := 1) (n := 6) (Nat.le_of_ble_eq_true rfl) (Nat.le_of_ble_eq_true rfl) ?_
          obtain ⟨n3, h⟩ := h
          exact B803 (wpL_isSo_774 ag ae sg post n) ih n3 ax ay v5 v6 v7 v8 v9 v10 v13 (-1) 0 0 0 0 h _ _ _ hP hD hS (lv_sub hl [5, 6, 7, 8, 9, 10, 11, 12, 13, 14, 15, 17, 4, 3, 2, 1, 0] rfl)
  have B771 : ∀ (ax : Nat → Int) (ay : Nat → Int) (v5 : Int) (v6 : Int) (v7 : Int) (v8 : Int) (v9 : Int) (v10 : Int) (v11 : Int), wpL_isSo_771 ag ae sg post ax ay v5 v6 v7 v8 v9 v10 v11 → ∀ (H : Heap) (locs : List Loc) (ls : Array Slot), va_P X.1 vwCl ([(a_ag, eI X 15 ag), (a_ae, eI X 50 ae), (a_ax, eI X 60 ax), (a_ay, eI X 22 ay)] ++ wo X ad sg) H → va_D A ([(a_ag, eI X 15 ag), (a_ae, eI X 50 ae), (a_ax, eI X 60 ax), (a_ay, eI X 22 ay)] ++ wo X ad sg) → va_S A s.heap H locs → lv_has ls 23 [(0, .ref (ad 0)), (1, .ref a_ag), (2, .ref a_ae), (3, .ref a_ax), (4, .ref a_ay), (5, .int (iI v5)), (6, .int (iI v6)), (7, .int (iI v7)), (8, .int (iI v8)), (9, .int (iI v9)), (10, .int (iI v10)), (11, .int (iI v11))] → W p l e rmL_isSo s m args below meth c H locs 1 6 Q (F0 m 771 ls []) := by
    intro  ax ay v5 v6 v7 v8 v9 v10 v11 h H locs ls hP hD hS hl
    refine lv_iconst (v := iI 0) hx hb dL_isSo_771 rfl ?_
    refine lv_istore (lv' := [(13, .int (iI 0)), (0, .ref (ad 0)), (1, .ref a_ag), (2, .ref a_ae), (3, .ref a_ax), (4, .ref a_ay), (5, .int (iI v5)), (6, .int (iI v6)), (7, .int (iI v7)), (8, .int (iI v8)), (9, .int (iI v9)), (10, .int (iI v10)), (11, .int (iI v11))]) hx hb dL_isSo_772 hl (by decide) rfl (fun ls hl => ?_)
    refine W.widen (k := 1) (n := 6) (Nat.le_of_ble_eq_true rfl) (Nat.le_of_ble_eq_true rfl) ?_
    obtain ⟨n1, h⟩ := h
    exact B774  n1 ax ay v5 v6 v7 v8 v9 v10 v11 0 h _ _ _ hP hD hS (lv_sub hl [1, 2, 3, 4, 5, 6, 7, 8, 9, 10, 11, 12, 0] rfl)
  have B765 : ∀ (k154 : (Nat → Int) → (Nat → Int) → Int → Int → Int → Int → Int → Int → Int → Int → Int → Prop) (hk154 : ∀ (ax : Nat → Int) (ay : Nat → Int) (v5 : Int) (v6 : Int) (v7 : Int) (v8 : Int) (v9 : Int) (v10 : Int) (v11 : Int) (v12 : Int) (v13 : Int), k154 ax ay v5 v6 v7 v8 v9 v10 v11 v12 v13 → ∀ (H : Heap) (locs : List Loc) (ls : Array Slot), va_P X.1 vwCl ([(a_ag, eI X 15 ag), (a_ae, eI X 50 ae), (a_ax, eI X 60 ax), (a_ay, eI X 22 ay)] ++ wo X ad sg) H → va_D A ([(a_ag, eI X 15 ag), (a_ae, eI X 50 ae), (a_ax, eI X 60 ax), (a_ay, eI X 22 ay)] ++ wo X ad sg) → va_S A s.heap H locs → lv_has ls 23 [(0, .ref (ad 0)), (1, .ref a_ag), (2, .ref a_ae), (3, .ref a_ax), (4, .ref a_ay), (5, .int (iI v5)), (6, .int (iI v6)), (7, .int (iI v7)), (8, .int (iI v8)), (9, .int (iI v9)), (10, .int (iI v10)), (11, .int (iI v11)), (12, .int (iI v12)), (13, .int (iI v13))] → W p l e rmL_isSo s m args below meth c H locs 1 6 Q (F0 m 154 ls [])) (ax : Nat → Int) (ay : Nat → Int) (v5 : Int) (v6 : Int) (v7 : Int) (v8 : Int) (v9 : Int) (v10 : Int) (v11 : Int) (v12 : Int) (v13 : Int), wpL_isSo_765 ag ae sg post k154 ax ay v5 v6 v7 v8 v9 v10 v11 v12 v13 → ∀ (H : Heap) (locs : List Loc) (ls : Array Slot), va_P X.1 vwCl ([(a_ag, eI X 15 ag), (a_ae, eI X 50 ae), (a_ax, eI X 60 ax), (a_ay, eI X 22 ay)] ++ wo X ad sg) H → va_D A ([(a_ag, eI X 15 ag), (a_ae, eI X 50 ae), (a_ax, eI X 60 ax), (a_ay, eI X 22 ay)] ++ wo X ad sg) → va_S A s.heap H locs → lv_has ls 23 [(0, .ref (ad 0)), (1, .ref a_ag), (2, .ref a_ae), (3, .ref a_ax), (4, .ref a_ay), (5, .int (iI v5)), (6, .int (iI v6)), (7, .int (iI v7)), (8, .int (iI v8)), (9, .int (iI v9)), (10, .int (iI v10)), (11, .int (iI v11)), (12, .int (iI v12)), (13, .int (iI v13))] → W p l e rmL_isSo s m args below meth c H locs 1 6 Q (F0 m 765 ls []) := by
    intro k154 hk154 ax ay v5 v6 v7 v8 v9 v10 v11 v12 v13 h H locs ls hP hD hS hl
    refine lv_iinc (v := iI (v13 + 1)) (lv' := [(13, .int (iI (v13 + 1))), (0, .ref (ad 0)), (1, .ref a_ag), (2, .ref a_ae), (3, .ref a_ax), (4, .ref a_ay), (5, .int (iI v5)), (6, .int (iI v6)), (7, .int (iI v7)), (8, .int (iI v8)), (9, .int (iI v9)), (10, .int (iI v10)), (11, .int (iI v11)), (12, .int (iI v12))]) hx hb dL_isSo_765 hl (k := 13) rfl (iI_add _ _) (by decide) rfl (fun ls hl => ?_)
    refine lv_goto (tgt := 154) hx hb dL_isSo_768 (by decide) ?_
    refine W.widen (k := 1) (n := 6) (Nat.le_of_ble_eq_true rfl) (Nat.le_of_ble_eq_true rfl) ?_
    exact hk154 ax ay v5 v6 v7 v8 v9 v10 v11 v12 (v13 + 1) h _ _ _ hP hD hS (lv_sub hl [1, 2, 3, 4, 5, 6, 7, 8, 9, 10, 11, 12, 13, 0] rfl)
  have B756 : ∀ (k154 : (Nat → Int) → (Nat → Int) → Int → Int → Int → Int → Int → Int → Int → Int → Int → Prop) (hk154 : ∀ (ax : Nat → Int) (ay : Nat → Int) (v5 : Int) (v6 : Int) (v7 : Int) (v8 : Int) (v9 : Int) (v10 : Int) (v11 : Int) (v12 : Int) (v13 : Int), k154 ax ay v5 v6 v7 v8 v9 v10 v11 v12 v13 → ∀ (H : Heap) (locs : List Loc) (ls : Array Slot), va_P X.1 vwCl ([(a_ag, eI X 15 ag), (a_ae, eI X 50 ae), (a_ax, eI X 60 ax), (a_ay, eI X 22 ay)] ++ wo X ad sg) H → va_D A ([(a_ag, eI X 15 ag), (a_ae, eI X 50 ae), (a_ax, eI X 60 ax), (a_ay, eI X 22 ay)] ++ wo X ad sg) → va_S A s.heap H locs → lv_has ls 23 [(0, .ref (ad 0)), (1, .ref a_ag), (2, .ref a_ae), (3, .ref a_ax), (4, .ref a_ay), (5, .int (iI v5)), (6, .int (iI v6)), (7, .int (iI v7)), (8, .int (iI v8)), (9, .int (iI v9)), (10, .int (iI v10)), (11, .int (iI v11)), (12, .int (iI v12)), (13, .int (iI v13))] → W p l e rmL_isSo s m args below meth c H locs 1 6 Q (F0 m 154 ls [])) (k562 : (Nat → Int) → (Nat → Int) → Int → Int → Int → Int → Int → Int → Int → Int → Int → Int → Int → Int → Int → Int → Prop) (hk562 : ∀ (ax : Nat → Int) (ay : Nat → Int) (v5 : Int) (v6 : Int) (v7 : Int) (v8 : Int) (v9 : Int) (v10 : Int) (v11 : Int) (v12 : Int) (v13 : Int) (v15 : Int) (v16 : Int) (v17 : Int) (v21 : Int) (v22 : Int), k562 ax ay v5 v6 v7 v8 v9 v10 v11 v12 v13 v15 v16 v17 v21 v22 → ∀ (H : Heap) (locs : List Loc) (ls : Array Slot), va_P X.1 vwCl ([(a_ag, eI X 15 ag), (a_ae, eI X 50 ae), (a_ax, eI X 60 ax), (a_ay, eI X 22 ay)] ++ wo X ad sg) H → va_D A ([(a_ag, eI X 15 ag), (a_ae, eI X 50 ae), (a_ax, eI X 60 ax), (a_ay, eI X 22 ay)] ++ wo X ad sg) → va_S A s.heap H locs → lv_has ls 23 [(0, .ref (ad 0)), (1, .ref a_ag), (2, .ref a_ae), (3, .ref a_ax), (4, .ref a_ay), (5, .int (iI v5)), (6, .int (iI v6)), (7, .int (iI v7)), (8, .int (iI v8)), (9, .int (iI v9)), (10, .int (iI v10)), (11, .int (iI v11)), (12, .int (iI v12)), (13, .int (iI v13)), (15, .int (iI v15)), (16, .int (iI v16)), (17, .int (iI v17)), (21, .int (iI v21)), (22, .int (iI v22))] → W p l e rmL_isSo s m args below meth c H locs 1 6 Q (F0 m 562 ls [])) (ax : Nat → Int) (ay : Nat → Int) (v5 : Int) (v7 : Int) (v8 : Int) (v9 : Int) (v10 : Int) (v11 : Int) (v12 : Int) (v13 : Int) (v15 : Int) (v16 : Int) (v17 : Int) (v21 : Int) (v22 : Int) (w0 : Int) (w1 : Int), wpL_isSo_756 ag ae sg post k154 k562 ax ay v5 v7 v8 v9 v10 v11 v12 v13 v15 v16 v17 v21 v22 w0 w1 → ∀ (H : Heap) (locs : List Loc) (ls : Array Slot), va_P X.1 vwCl ([(a_ag, eI X 15 ag), (a_ae, eI X 50 ae), (a_ax, eI X 60 ax), (a_ay, eI X 22 ay)] ++ wo X ad sg) H → va_D A ([(a_ag, eI X 15 ag), (a_ae, eI X 50 ae), (a_ax, eI X 60 ax), (a_ay, eI X 22 ay)] ++ wo X ad sg) → va_S A s.heap H locs → lv_has ls 23 [(0, .ref (ad 0)), (1, .ref a_ag), (2, .ref a_ae), (3, .ref a_ax), (4, .ref a_ay), (5, .int (iI v5)), (7, .int (iI v7)), (8, .int (iI v8)), (9, .int (iI v9)), (10, .int (iI v10)), (11, .int (iI v11)), (12, .int (iI v12)), (13, .int (iI v13)), (15, .int (iI v15)), (16, .int (iI v16)), (17, .int (iI v17)), (21, .int (iI v21)), (22, .int (iI v22))] → W p l e rmL_isSo s m args below meth c H locs 1 6 Q (F0 m 756 ls [.int (iI w0), .int (iI w1)]) := by
    intro k154 hk154 k562 hk562 ax ay v5 v7 v8 v9 v10 v11 v12 v13 v15 v16 v17 v21 v22 w0 w1 h H locs ls hP hD hS hl
    refine i_add hx hb dL_isSo_756 ?_
    refine lv_istore (lv' := [(6, .int (iI (w1 + w0))), (0, .ref (ad 0)), (1, .ref a_ag), (2, .ref a_ae), (3, .ref a_ax), (4, .ref a_ay), (5, .int (iI v5)), (7, .int (iI v7)), (8, .int (iI v8)), (9, .int (iI v9)), (10, .int (iI v10)), (11, .int (iI v11)), (12, .int (iI v12)), (13, .int (iI v13)), (15, .int (iI v15)), (16, .int (iI v16)), (17, .int (iI v17)), (21, .int (iI v21)), (22, .int (iI v22))]) hx hb dL_isSo_757 hl (by decide) rfl (fun ls hl => ?_)
    refine lv_iinc (v := iI (v22 + 1)) (lv' := [(22, .int (iI (v22 + 1))), (6, .int (iI (w1 + w0))), (0, .ref (ad 0)), (1, .ref a_ag), (2, .ref a_ae), (3, .ref a_ax), (4, .ref a_ay), (5, .int (iI v5)), (7, .int (iI v7)), (8, .int (iI v8)), (9, .int (iI v9)), (10, .int (iI v10)), (11, .int (iI v11)), (12, .int (iI v12)), (13, .int (iI v13)), (15, .int (iI v15)), (16, .int (iI v16)), (17, .int (iI v17)), (21, .int (iI v21))]) hx hb dL_isSo_759 hl (k := 18) rfl (iI_add _ _) (by decide) rfl (fun ls hl => ?_)
    refine lv_goto (tgt := 562) hx hb dL_isSo_762 (by decide) ?_
    refine W.widen (k := 1) (n := 6) (Nat.le_of_ble_eq_true rfl) (Nat.le_of_ble_eq_true rfl) ?_
    exact hk562 ax ay v5 (w1 + w0) v7 v8 v9 v10 v11 v12 v13 v15 v16 v17 v21 (v22 + 1) h _ _ _ hP hD hS (lv_sub hl [2, 3, 4, 5, 6, 7, 1, 8, 9, 10, 11, 12, 13, 14, 15, 16, 17, 18, 0] rfl)
  have B724 : ∀ (k154 : (Nat → Int) → (Nat → Int) → Int → Int → Int → Int → Int → Int → Int → Int → Int → Prop) (hk154 : ∀ (ax : Nat → Int) (ay : Nat → Int) (v5 : Int) (v6 : Int) (v7 : Int) (v8 : Int) (v9 : Int) (v10 : Int) (v11 : Int) (v12 : Int) (v13 : Int), k154 ax ay v5 v6 v7 v8 v9 v10 v11 v12 v13 → ∀ (H : Heap) (locs : List Loc) (ls : Array Slot), va_P X.1 vwCl ([(a_ag, eI X 15 ag), (a_ae, eI X 50 ae), (a_ax, eI X 60 ax), (a_ay, eI X 22 ay)] ++ wo X ad sg) H → va_D A ([(a_ag, eI X 15 ag), (a_ae, eI X 50 ae), (a_ax, eI X 60 ax), (a_ay, eI X 22 ay)] ++ wo X ad sg) → va_S A s.heap H locs → lv_has ls 23 [(0, .ref (ad 0)), (1, .ref a_ag), (2, .ref a_ae), (3, .ref a_ax), (4, .ref a_ay), (5, .int (iI v5)), (6, .int (iI v6)), (7, .int (iI v7)), (8, .int (iI v8)), (9, .int (iI v9)), (10, .int (iI v10)), (11, .int (iI v11)), (12, .int (iI v12)), (13, .int (iI v13))] → W p l e rmL_isSo s m args below meth c H locs 1 6 Q (F0 m 154 ls [])) (k562 : (Nat → Int) → (Nat → Int) → Int → Int → Int → Int → Int → Int → Int → Int → Int → Int → Int → Int → Int → Int → Prop) (hk562 : ∀ (ax : Nat → Int) (ay : Nat → Int) (v5 : Int) (v6 : Int) (v7 : Int) (v8 : Int) (v9 : Int) (v10 : Int) (v11 : Int) (v12 : Int) (v13 : Int) (v15 : Int) (v16 : Int) (v17 : Int) (v21 : Int) (v22 : Int), k562 ax ay v5 v6 v7 v8 v9 v10 v11 v12 v13 v15 v16 v17 v21 v22 → ∀ (H : Heap) (locs : List Loc) (ls : Array Slot), va_P X.1 vwCl ([(a_ag, eI X 15 ag), (a_ae, eI X 50 ae), (a_ax, eI X 60 ax), (a_ay, eI X 22 ay)] ++ wo X ad sg) H → va_D A ([(a_ag, eI X 15 ag), (a_ae, eI X 50 ae), (a_ax, eI X 60 ax), (a_ay, eI X 22 ay)] ++ wo X ad sg) → va_S A s.heap H locs → lv_has ls 23 [(0, .ref (ad 0)), (1, .ref a_ag), (2, .ref a_ae), (3, .ref a_ax), (4, .ref a_ay), (5, .int (iI v5)), (6, .int (iI v6)), (7, .int (iI v7)), (8, .int (iI v8)), (9, .int (iI v9)), (10, .int (iI v10)), (11, .int (iI v11)), (12, .int (iI v12)), (13, .int (iI v13)), (15, .int (iI v15)), (16, .int (iI v16)), (17, .int (iI v17)), (21, .int (iI v21)), (22, .int (iI v22))] → W p l e rmL_isSo s m args below meth c H locs 1 6 Q (F0 m 562 ls [])) (ax : Nat → Int) (ay : Nat → Int) (v5 : Int) (v6 : Int) (v7 : Int) (v8 : Int) (v9 : Int) (v10 : Int) (v12 : Int) (v13 : Int) (v15 : Int) (v16 : Int) (v17 : Int) (v21 : Int) (v22 : Int) (w0 : Int), wpL_isSo_724 ag ae sg post k154 k562 ax ay v5 v6 v7 v8 v9 v10 v12 v13 v15 v16 v17 v21 v22 w0 → ∀ (H : Heap) (locs : List Loc) (ls : Array Slot), va_P X.1 vwCl ([(a_ag, eI X 15 ag), (a_ae, eI X 50 ae), (a_ax, eI X 60 ax), (a_ay, eI X 22 ay)] ++ wo X ad sg) H → va_D A ([(a_ag, eI X 15 ag), (a_ae, eI X 50 ae), (a_ax, eI X 60 ax), (a_ay, eI X 22 ay)] ++ wo X ad sg) → va_S A s.heap H locs → lv_has ls 23 [(0, .ref (ad 0)), (1, .ref a_ag), (2, .ref a_ae), (3, .ref a_ax), (4, .ref a_ay), (5, .int (iI v5)), (6, .int (iI v6)), (7, .int (iI v7)), (8, .int (iI v8)), (9, .int (iI v9)), (10, .int (iI v10)), (12, .int (iI v12)), (13, .int (iI v13)), (15, .int (iI v15)), (16, .int (iI v16)), (17, .int (iI v17)), (21, .int (iI v21)), (22, .int (iI v22))] → W p l e rmL_isSo s m args below meth c H locs 1 6 Q (F0 m 724 ls [.int (iI w0)]) := by
    intro k154 hk154 k562 hk562 ax ay v5 v6 v7 v8 v9 v10 v12 v13 v15 v16 v17 v21 v22 w0 h H locs ls hP hD hS hl
    refine lv_istore (lv' := [(11, .int (iI w0)), (0, .ref (ad 0)), (1, .ref a_ag), (2, .ref a_ae), (3, .ref a_ax), (4, .ref a_ay), (5, .int (iI v5)), (6, .int (iI v6)), (7, .int (iI v7)), (8, .int (iI v8)), (9, .int (iI v9)), (10, .int (iI v10)), (12, .int (iI v12)), (13, .int (iI v13)), (15, .int (iI v15)), (16, .int (iI v16)), (17, .int (iI v17)), (21, .int (iI v21)), (22, .int (iI v22))]) hx hb dL_isSo_724 hl (by decide) rfl (fun ls hl => ?_)
    refine lv_iload hx hb dL_isSo_726 (lv_at hl 17 rfl) ?_
    refine lv_aload_n hx hb dL_isSo_728 rfl (lv_at hl 3 rfl) ?_
    refine lv_iload hx hb dL_isSo_729 (lv_at hl 18 rfl) ?_
    refine u_i (xs := [(a_ag, eI X 15 ag), (a_ae, eI X 50 ae), (a_ax, eI X 60 ax), (a_ay, eI X 22 ay)]) (isC := [1]) (isR := [0, 2, 3]) (wr := [(a_ag, eI X 15 ag), (a_ax, eI X 60 ax), (a_ay, eI X 22 ay)]) (va_runS (As := [.ref a_ae, .int (iI v22)]) (rest := [.int (iI v21)]) ⟨hx, hb, hml, hown, hts⟩ (kL_width l X a_ae ae v22 _ h _) (va_cwS 2 hts gL_isSo_L_width rfl rfl rfl (by decide +kernel) ⟨(Nat.le_of_ble_eq_true rfl), (Nat.le_of_ble_eq_true rfl)⟩) ⟨pre_blind, pre_cutQ hE hK hA hP hD hS (isC := [1]) rfl rfl⟩ rfl rfl hl.1 rfl (lv_room (Nat.le_of_ble_eq_true rfl)) dL_isSo_731 ⟨(Nat.le_of_ble_eq_true rfl), (Nat.le_of_ble_eq_true rfl)⟩) hA hP hD hS rfl rfl (by decide +kernel) (by decide +kernel) (fun z1 u1 H locs h hP hD hS => ?_)
    have hP : va_P X.1 vwCl ([(a_ag, eI X 15 ag), (a_ax, eI X 60 ax), (a_ay, eI X 22 ay), (a_ae, eI X 50 ae)] ++ wo X ad sg) H := hP
    have hD : va_D A ([(a_ag, eI X 15 ag), (a_ax, eI X 60 ax), (a_ay, eI X 22 ay), (a_ae, eI X 50 ae)] ++ wo X ad sg) := hD
    refine lv_iconst (v := iI 2) hx hb dL_isSo_734 rfl ?_
    refine i_add hx hb dL_isSo_735 ?_
    refine i_add hx hb dL_isSo_736 ?_
    refine lv_istore (lv' := [(21, .int (iI (v21 + (z1 + 2)))), (11, .int (iI w0)), (0, .ref (ad 0)), (1, .ref a_ag), (2, .ref a_ae), (3, .ref a_ax), (4, .ref a_ay), (5, .int (iI v5)), (6, .int (iI v6)), (7, .int (iI v7)), (8, .int (iI v8)), (9, .int (iI v9)), (10, .int (iI v10)), (12, .int (iI v12)), (13, .int (iI v13)), (15, .int (iI v15)), (16, .int (iI v16)), (17, .int (iI v17)), (22, .int (iI v22))]) hx hb dL_isSo_737 hl (by decide) rfl (fun ls hl => ?_)
    refine lv_iload hx hb dL_isSo_739 (lv_at hl 8 rfl) ?_
    refine lv_aload_n hx hb dL_isSo_741 rfl (lv_at hl 3 rfl) ?_
    refine lv_aload_n hx hb dL_isSo_742 rfl (lv_at hl 4 rfl) ?_
    refine lv_iload hx hb dL_isSo_743 (lv_at hl 18 rfl) ?_
    refine u_i (xs := [(a_ag, eI X 15 ag), (a_ax, eI X 60 ax), (a_ay, eI X 22 ay), (a_ae, eI X 50 ae)]) (isC := [0, 3]) (isR := [1, 2]) (wr := [(a_ax, eI X 60 ax), (a_ay, eI X 22 ay)]) (va_runS (As := [.ref a_ag, .ref a_ae, .int (iI v22)]) (rest := [.int (iI v6)]) ⟨hx, hb, hml, hown, hts⟩ (kL_closes l X a_ag a_ae ag ae v22 _ h _) (va_cwS 3 hts gL_isSo_L_closes rfl rfl rfl (by decide +kernel) ⟨(Nat.le_of_ble_eq_true rfl), (Nat.le_of_ble_eq_true rfl)⟩) ⟨pre_blind, pre_cutQ hE hK hA hP hD hS (isC := [0, 3]) rfl rfl⟩ rfl rfl hl.1 rfl (lv_room (Nat.le_of_ble_eq_true rfl)) dL_isSo_745 ⟨(Nat.le_of_ble_eq_true rfl), (Nat.le_of_ble_eq_true rfl)⟩) hA hP hD hS rfl rfl (by decide +kernel) (by decide +kernel) (fun z2 u2 H locs h hP hD hS => ?_)
    have hP : va_P X.1 vwCl ([(a_ax, eI X 60 ax), (a_ay, eI X 22 ay), (a_ag, eI X 15 ag), (a_ae, eI X 50 ae)] ++ wo X ad sg) H := hP
    have hD : va_D A ([(a_ax, eI X 60 ax), (a_ay, eI X 22 ay), (a_ag, eI X 15 ag), (a_ae, eI X 50 ae)] ++ wo X ad sg) := hD
    refine i_if_eq (tgt := 755) hx hb h.1 dL_isSo_748 (by decide) (fun c3 => ?_) (fun c3 => ?_)
    · have h := h.2.1 c3
      refine lv_iconst (v := iI 0) hx hb dL_isSo_755 rfl ?_
      have hP := va_P.subT (ws' := [(a_ag, eI X 15 ag), (a_ae, eI X 50 ae), (a_ax, eI X 60 ax), (a_ay, eI X 22 ay)]) [2, 3, 0, 1] rfl hP
      have hD := va_D.subT (ws' := [(a_ag, eI X 15 ag), (a_ae, eI X 50 ae), (a_ax, eI X 60 ax), (a_ay, eI X 22 ay)]) [2, 3, 0, 1] (by decide +kernel) rfl hD
      refine W.widen (k := 1) (n := 6) (Nat.le_of_ble_eq_true rfl) (Nat.le_of_ble_eq_true rfl) ?_
      exact B756 k154 hk154 k562 hk562 ax ay v5 v7 v8 v9 v10 w0 v12 v13 v15 v16 v17 (v21 + (z1 + 2)) v22 0 v6 h _ _ _ hP hD hS (lv_sub hl [2, 3, 4, 5, 6, 7, 9, 10, 11, 12, 1, 13, 14, 15, 16, 17, 0, 18] rfl)
    · have h := h.2.2 c3
      refine lv_iconst (v := iI 1) hx hb dL_isSo_751 rfl ?_
      refine lv_goto (tgt := 756) hx hb dL_isSo_752 (by decide) ?_
      have hP := va_P.subT (ws' := [(a_ag, eI X 15 ag), (a_ae, eI X 50 ae), (a_ax, eI X 60 ax), (a_ay, eI X 22 ay)]) [2, 3, 0, 1] rfl hP
      have hD := va_D.subT (ws' := [(a_ag, eI X 15 ag), (a_ae, eI X 50 ae), (a_ax, eI X 60 ax), (a_ay, eI X 22 ay)]) [2, 3, 0, 1] (by decide +kernel) rfl hD
      refine W.widen (k := 1) (n := 6) (Nat.le_of_ble_eq_true rfl) (Nat.le_of_ble_eq_true rfl) ?_
      exact B756 k154 hk154 k562 hk562 ax ay v5 v7 v8 v9 v10 w0 v12 v13 v15 v16 v17 (v21 + (z1 + 2)) v22 1 v6 h _ _ _ hP hD hS (lv_sub hl [2, 3, 4, 5, 6, 7, 9, 10, 11, 12, 1, 13, 14, 15, 16, 17, 0, 18] rfl)
  have B723 : ∀ (k154 : (Nat → Int) → (Nat → Int) → Int → Int → Int → Int → Int → Int → Int → Int → Int → Prop) (hk154 : ∀ (ax : Nat → Int) (ay : Nat → Int) (v5 : Int) (v6 : Int) (v7 : Int) (v8 : Int) (v9 : Int) (v10 : Int) (v11 : Int) (v12 : Int) (v13 : Int), k154 ax ay v5 v6 v7 v8 v9 v10 v11 v12 v13 → ∀ (H : Heap) (locs : List Loc) (ls : Array Slot), va_P X.1 vwCl ([(a_ag, eI X 15 ag), (a_ae, eI X 50 ae), (a_ax, eI X 60 ax), (a_ay, eI X 22 ay)] ++ wo X ad sg) H → va_D A ([(a_ag, eI X 15 ag), (a_ae, eI X 50 ae), (a_ax, eI X 60 ax), (a_ay, eI X 22 ay)] ++ wo X ad sg) → va_S A s.heap H locs → lv_has ls 23 [(0, .ref (ad 0)), (1, .ref a_ag), (2, .ref a_ae), (3, .ref a_ax), (4, .ref a_ay), (5, .int (iI v5)), (6, .int (iI v6)), (7, .int (iI v7)), (8, .int (iI v8)), (9, .int (iI v9)), (10, .int (iI v10)), (11, .int (iI v11)), (12, .int (iI v12)), (13, .int (iI v13))] → W p l e rmL_isSo s m args below meth c H locs 1 6 Q (F0 m 154 ls [])) (k562 : (Nat → Int) → (Nat → Int) → Int → Int → Int → Int → Int → Int → Int → Int → Int → Int → Int → Int → Int → Int → Prop) (hk562 : ∀ (ax : Nat → Int) (ay : Nat → Int) (v5 : Int) (v6 : Int) (v7 : Int) (v8 : Int) (v9 : Int) (v10 : Int) (v11 : Int) (v12 : Int) (v13 : Int) (v15 : Int) (v16 : Int) (v17 : Int) (v21 : Int) (v22 : Int), k562 ax ay v5 v6 v7 v8 v9 v10 v11 v12 v13 v15 v16 v17 v21 v22 → ∀ (H : Heap) (locs : List Loc) (ls : Array Slot), va_P X.1 vwCl ([(a_ag, eI X 15 ag), (a_ae, eI X 50 ae), (a_ax, eI X 60 ax), (a_ay, eI X 22 ay)] ++ wo X ad sg) H → va_D A ([(a_ag, eI X 15 ag), (a_ae, eI X 50 ae), (a_ax, eI X 60 ax), (a_ay, eI X 22 ay)] ++ wo X ad sg) → va_S A s.heap H locs → lv_has ls 23 [(0, .ref (ad 0)), (1, .ref a_ag), (2, .ref a_ae), (3, .ref a_ax), (4, .ref a_ay), (5, .int (iI v5)), (6, .int (iI v6)), (7, .int (iI v7)), (8, .int (iI v8)), (9, .int (iI v9)), (10, .int (iI v10)), (11, .int (iI v11)), (12, .int (iI v12)), (13, .int (iI v13)), (15, .int (iI v15)), (16, .int (iI v16)), (17, .int (iI v17)), (21, .int (iI v21)), (22, .int (iI v22))] → W p l e rmL_isSo s m args below meth c H locs 1 6 Q (F0 m 562 ls [])) (ax : Nat → Int) (ay : Nat → Int) (v5 : Int) (v6 : Int) (v7 : Int) (v8 : Int) (v9 : Int) (v10 : Int) (v12 : Int) (v13 : Int) (v15 : Int) (v16 : Int) (v17 : Int) (v21 : Int) (v22 : Int), wpL_isSo_723 ag ae sg post k154 k562 ax ay v5 v6 v7 v8 v9 v10 v12 v13 v15 v16 v17 v21 v22 → ∀ (H : Heap) (locs : List Loc) (ls : Array Slot), va_P X.1 vwCl ([(a_ag, eI X 15 ag), (a_ae, eI X 50 ae), (a_ax, eI X 60 ax), (a_ay, eI X 22 ay)] ++ wo X ad sg) H → va_D A ([(a_ag, eI X 15 ag), (a_ae, eI X 50 ae), (a_ax, eI X 60 ax), (a_ay, eI X 22 ay)] ++ wo X ad sg) → va_S A s.heap H locs → lv_has ls 23 [(0, .ref (ad 0)), (1, .ref a_ag), (2, .ref a_ae), (3, .ref a_ax), (4, .ref a_ay), (5, .int (iI v5)), (6, .int (iI v6)), (7, .int (iI v7)), (8, .int (iI v8)), (9, .int (iI v9)), (10, .int (iI v10)), (12, .int (iI v12)), (13, .int (iI v13)), (15, .int (iI v15)), (16, .int (iI v16)), (17, .int (iI v17)), (21, .int (iI v21)), (22, .int (iI v22))] → W p l e rmL_isSo s m args below meth c H locs 1 6 Q (F0 m 723 ls []) := by
    intro k154 hk154 k562 hk562 ax ay v5 v6 v7 v8 v9 v10 v12 v13 v15 v16 v17 v21 v22 h H locs ls hP hD hS hl
    refine lv_iconst (v := iI 0) hx hb dL_isSo_723 rfl ?_
    refine W.widen (k := 1) (n := 6) (Nat.le_of_ble_eq_true rfl) (Nat.le_of_ble_eq_true rfl) ?_
    exact B724 k154 hk154 k562 hk562 ax ay v5 v6 v7 v8 v9 v10 v12 v13 v15 v16 v17 v21 v22 0 h _ _ _ hP hD hS (lv_sub hl [0, 1, 2, 3, 4, 5, 6, 7, 8, 9, 10, 11, 12, 13, 14, 15, 16, 17] rfl)
  have B562 : ∀ (k154 : (Nat → Int) → (Nat → Int) → Int → Int → Int → Int → Int → Int → Int → Int → Int → Prop) (hk154 : ∀ (ax : Nat → Int) (ay : Nat → Int) (v5 : Int) (v6 : Int) (v7 : Int) (v8 : Int) (v9 : Int) (v10 : Int) (v11 : Int) (v12 : Int) (v13 : Int), k154 ax ay v5 v6 v7 v8 v9 v10 v11 v12 v13 → ∀ (H : Heap) (locs : List Loc) (ls : Array Slot), va_P X.1 vwCl ([(a_ag, eI X 15 ag), (a_ae, eI X 50 ae), (a_ax, eI X 60 ax), (a_ay, eI X 22 ay)] ++ wo X ad sg) H → va_D A ([(a_ag, eI X 15 ag), (a_ae, eI X 50 ae), (a_ax, eI X 60 ax), (a_ay, eI X 22 ay)] ++ wo X ad sg) → va_S A s.heap H locs → lv_has ls 23 [(0, .ref (ad 0)), (1, .ref a_ag), (2, .ref a_ae), (3, .ref a_ax), (4, .ref a_ay), (5, .int (iI v5)), (6, .int (iI v6)), (7, .int (iI v7)), (8, .int (iI v8)), (9, .int (iI v9)), (10, .int (iI v10)), (11, .int (iI v11)), (12, .int (iI v12)), (13, .int (iI v13))] → W p l e rmL_isSo s m args below meth c H locs 1 6 Q (F0 m 154 ls [])) (n : Nat) (ax : Nat → Int) (ay : Nat → Int) (v5 : Int) (v6 : Int) (v7 : Int) (v8 : Int) (v9 : Int) (v10 : Int) (v11 : Int) (v12 : Int) (v13 : Int) (v15 : Int) (v16 : Int) (v17 : Int) (v21 : Int) (v22 : Int), wpL_isSo_562 ag ae sg post k154 n ax ay v5 v6 v7 v8 v9 v10 v11 v12 v13 v15 v16 v17 v21 v22 → ∀ (H : Heap) (locs : List Loc) (ls : Array Slot), va_P X.1 vwCl ([(a_ag, eI X 15 ag), (a_ae, eI X 50 ae), (a_ax, eI X 60 ax), (a_ay, eI X 22 ay)] ++ wo X ad sg) H → va_D A ([(a_ag, eI X 15 ag), (a_ae, eI X 50 ae), (a_ax, eI X 60 ax), (a_ay, eI X 22 ay)] ++ wo X ad sg) → va_S A s.heap H locs → lv_has ls 23 [(0, .ref (ad 0)), (1, .ref a_ag), (2, .ref a_ae), (3, .ref a_ax), (4, .ref a_ay), (5, .int (iI v5)), (6, .int (iI v6)), (7, .int (iI v7)), (8, .int (iI v8)), (9, .int (iI v9)), (10, .int (iI v10)), (11, .int (iI v11)), (12, .int (iI v12)), (13, .int (iI v13)), (15, .int (iI v15)), (16, .int (iI v16)), (17, .int (iI v17)), (21, .int (iI v21)), (22, .int (iI v22))] → W p l e rmL_isSo s m args below meth c H locs 1 6 Q (F0 m 562 ls []) := by
    intro k154 hk154 n
    induction n with
    | zero => intro ax ay v5 v6 v7 v8 v9 v10 v11 v12 v13 v15 v16 v17 v21 v22 h; exact h.elim
    | succ n ih =>
      intro ax ay v5 v6 v7 v8 v9 v10 v11 v12 v13 v15 v16 v17 v21 v22 h H locs ls hP hD hS hl
      refine lv_iload hx hb dL_isSo_562 (lv_at hl 18 rfl) ?_
      refine lv_iload hx hb dL_isSo_564 (lv_at hl 15 rfl) ?_
      refine lv_iload hx hb dL_isSo_566 (lv_at hl 16 rfl) ?_
      refine i_add hx hb dL_isSo_568 ?_
      refine i_cmp_ge (tgt := 765) hx hb h.1 h.2.1 dL_isSo_569 (by decide) (fun c1 => ?_) (fun c1 => ?_)
      · have h := h.2.2.1 c1
        refine W.widen (k := 1) (n := 6) (Nat.le_of_ble_eq_true rfl) (Nat.le_of_ble_eq_true rfl) ?_
        exact B765 k154 hk154 ax ay v5 v6 v7 v8 v9 v10 v11 v12 v13 h _ _ _ hP hD hS (lv_sub hl [0, 1, 2, 3, 4, 5, 6, 7, 8, 9, 10, 11, 12, 13] rfl)
      · have h := h.2.2.2 c1
        refine lv_iload hx hb dL_isSo_572 (lv_at hl 11 rfl) ?_
        refine i_if_eq (tgt := 765) hx hb h.1 dL_isSo_574 (by decide) (fun c2 => ?_) (fun c2 => ?_)
        · have h := h.2.1 c2
          refine W.widen (k := 1) (n := 6) (Nat.le_of_ble_eq_true rfl) (Nat.le_of_ble_eq_true rfl) ?_
          exact B765 k154 hk154 ax ay v5 v6 v7 v8 v9 v10 v11 v12 v13 h _ _ _ hP hD hS (lv_sub hl [0, 1, 2, 3, 4, 5, 6, 7, 8, 9, 10, 11, 12, 13] rfl)
        · have h := h.2.2 c2
          refine lv_aload_n hx hb dL_isSo_577 rfl (lv_at hl 0 rfl) ?_
          refine lv_iload hx hb dL_isSo_578 (lv_at hl 18 rfl) ?_
          refine lv_iconst (v := iI 0) hx hb dL_isSo_580 rfl ?_
          refine t_i (xs := [(a_ag, eI X 15 ag), (a_ae, eI X 50 ae), (a_ax, eI X 60 ax), (a_ay, eI X 22 ay)]) (isR := [0, 1, 2, 3]) (vx_runSW (As := [.ref (ad 0), .int (iI v22), .int (iI 0)]) (rest := []) ⟨hx, hb, hml, hown, hts⟩ (kL_wordOf0 l X ad sg v22 0 _ h _) (vx_cwSW 3 hts gL_isSo_L_wordOf rfl rfl rfl (by decide +kernel) ⟨(Nat.le_of_ble_eq_true rfl), (Nat.le_of_ble_eq_true rfl)⟩) ⟨pre_blind, pre_cutP hE hK hA hP hD hS⟩ rfl rfl hl.1 rfl (lv_room (Nat.le_of_ble_eq_true rfl)) dL_isSo_581 ⟨(Nat.le_of_ble_eq_true rfl), (Nat.le_of_ble_eq_true rfl)⟩) hA hP hD hS rfl (by decide +kernel) (fun z4 u4 H locs h hP hD hS => ?_)
          have hP : va_P X.1 vwCl ([(a_ag, eI X 15 ag), (a_ae, eI X 50 ae), (a_ax, eI X 60 ax), (a_ay, eI X 22 ay)] ++ wo X ad sg) H := hP
          have hD : va_D A ([(a_ag, eI X 15 ag), (a_ae, eI X 50 ae), (a_ax, eI X 60 ax), (a_ay, eI X 22 ay)] ++ wo X ad sg) := hD
          refine lv_aload_n hx hb dL_isSo_584 rfl (lv_at hl 2 rfl) ?_
          refine lv_iconst (v := iI 5) hx hb dL_isSo_585 rfl ?_
          refine lv_iload hx hb dL_isSo_586 (lv_at hl 18 rfl) ?_
          refine i_mul hx hb dL_isSo_588 ?_
          refine lv_iconst (v := iI 1) hx hb dL_isSo_589 rfl ?_
          refine i_add hx hb dL_isSo_590 ?_
          refine i_ald hx hb hK hP 1 0 rfl rfl h.1 h.2.1 rfl (Nat.le_of_ble_eq_true rfl) dL_isSo_591 ?_
          have h := h.2.2
          refine i_cmp_ne (tgt := 723) hx hb h.1 h.2.1 dL_isSo_592 (by decide) (fun c5 => ?_) (fun c5 => ?_)
          · have h := h.2.2.1 c5
            refine W.widen (k := 1) (n := 6) (Nat.le_of_ble_eq_true rfl) (Nat.le_of_ble_eq_true rfl) ?_
            exact B723 k154 hk154 (wpL_isSo_562 ag ae sg post k154 n) ih ax ay v5 v6 v7 v8 v9 v10 v12 v13 v15 v16 v17 v21 v22 h _ _ _ hP hD hS (lv_sub hl [0, 1, 2, 3, 4, 5, 6, 7, 8, 9, 10, 12, 13, 14, 15, 16, 17, 18] rfl)
          · have h := h.2.2.2 c5
            refine lv_aload_n hx hb dL_isSo_595 rfl (lv_at hl 0 rfl) ?_
            refine lv_iload hx hb dL_isSo_596 (lv_at hl 18 rfl) ?_
            refine lv_iconst (v := iI 1) hx hb dL_isSo_598 rfl ?_
            refine t_i (xs := [(a_ag, eI X 15 ag), (a_ae, eI X 50 ae), (a_ax, eI X 60 ax), (a_ay, eI X 22 ay)]) (isR := [0, 1, 2, 3]) (vx_runSW (As := [.ref (ad 0), .int (iI v22), .int (iI 1)]) (rest := []) ⟨hx, hb, hml, hown, hts⟩ (kL_wordOf0 l X ad sg v22 1 _ h _) (vx_cwSW 3 hts gL_isSo_L_wordOf rfl rfl rfl (by decide +kernel) ⟨(Nat.le_of_ble_eq_true rfl), (Nat.le_of_ble_eq_true rfl)⟩) ⟨pre_blind, pre_cutP hE hK hA hP hD hS⟩ rfl rfl hl.1 rfl (lv_room (Nat.le_of_ble_eq_true rfl)) dL_isSo_599 ⟨(Nat.le_of_ble_eq_true rfl), (Nat.le_of_ble_eq_true rfl)⟩) hA hP hD hS rfl (by decide +kernel) (fun z7 u7 H locs h hP hD hS => ?_)
            have hP : va_P X.1 vwCl ([(a_ag, eI X 15 ag), (a_ae, eI X 50 ae), (a_ax, eI X 60 ax), (a_ay, eI X 22 ay)] ++ wo X ad sg) H := hP
            have hD : va_D A ([(a_ag, eI X 15 ag), (a_ae, eI X 50 ae), (a_ax, eI X 60 ax), (a_ay, eI X 22 ay)] ++ wo X ad sg) := hD
            refine lv_aload_n hx hb dL_isSo_602 rfl (lv_at hl 2 rfl) ?_
            refine lv_iload hx hb dL_isSo_603 (lv_at hl 18 rfl) ?_
            refine u_i (xs := [(a_ag, eI X 15 ag), (a_ae, eI X 50 ae), (a_ax, eI X 60 ax), (a_ay, eI X 22 ay)]) (isC := [1]) (isR := [0, 2, 3]) (wr := [(a_ag, eI X 15 ag), (a_ax, eI X 60 ax), (a_ay, eI X 22 ay)]) (va_runS (As := [.ref a_ae, .int (iI v22)]) (rest := [.int (iI z7)]) ⟨hx, hb, hml, hown, hts⟩ (kL_width l X a_ae ae v22 _ h _) (va_cwS 2 hts gL_isSo_L_width rfl rfl rfl (by decide +kernel) ⟨(Nat.le_of_ble_eq_true rfl), (Nat.le_of_ble_eq_true rfl)⟩) ⟨pre_blind, pre_cutQ hE hK hA hP hD hS (isC := [1]) rfl rfl⟩ rfl rfl hl.1 rfl (lv_room (Nat.le_of_ble_eq_true rfl)) dL_isSo_605 ⟨(Nat.le_of_ble_eq_true rfl), (Nat.le_of_ble_eq_true rfl)⟩) hA hP hD hS rfl rfl (by decide +kernel) (by decide +kernel) (fun z8 u8 H locs h hP hD hS => ?_)
            have hP : va_P X.1 vwCl ([(a_ag, eI X 15 ag), (a_ax, eI X 60 ax), (a_ay, eI X 22 ay), (a_ae, eI X 50 ae)] ++ wo X ad sg) H := hP
            have hD : va_D A ([(a_ag, eI X 15 ag), (a_ax, eI X 60 ax), (a_ay, eI X 22 ay), (a_ae, eI X 50 ae)] ++ wo X ad sg) := hD
            refine i_cmp_ne (tgt := 723) hx hb h.1 h.2.1 dL_isSo_608 (by decide) (fun c9 => ?_) (fun c9 => ?_)
            · have h := h.2.2.1 c9
              have hP := va_P.subT (ws' := [(a_ag, eI X 15 ag), (a_ae, eI X 50 ae), (a_ax, eI X 60 ax), (a_ay, eI X 22 ay)]) [0, 3, 1, 2] rfl hP
              have hD := va_D.subT (ws' := [(a_ag, eI X 15 ag), (a_ae, eI X 50 ae), (a_ax, eI X 60 ax), (a_ay, eI X 22 ay)]) [0, 3, 1, 2] (by decide +kernel) rfl hD
              refine W.widen (k := 1) (n := 6) (Nat.le_of_ble_eq_true rfl) (Nat.le_of_ble_eq_true rfl) ?_
              exact B723 k154 hk154 (wpL_isSo_562 ag ae sg post k154 n) ih ax ay v5 v6 v7 v8 v9 v10 v12 v13 v15 v16 v17 v21 v22 h _ _ _ hP hD hS (lv_sub hl [0, 1, 2, 3, 4, 5, 6, 7, 8, 9, 10, 12, 13, 14, 15, 16, 17, 18] rfl)
            · have h := h.2.2.2 c9
              refine lv_aload_n hx hb dL_isSo_611 rfl (lv_at hl 0 rfl) ?_
              refine lv_iload hx hb dL_isSo_612 (lv_at hl 18 rfl) ?_
              refine lv_iconst (v := iI 2) hx hb dL_isSo_614 rfl ?_
              refine t_i (xs := [(a_ag, eI X 15 ag), (a_ax, eI X 60 ax), (a_ay, eI X 22 ay), (a_ae, eI X 50 ae)]) (isR := [0, 1, 2, 3]) (vx_runSW (As := [.ref (ad 0), .int (iI v22), .int (iI 2)]) (rest := []) ⟨hx, hb, hml, hown, hts⟩ (kL_wordOf0 l X ad sg v22 2 _ h _) (vx_cwSW 3 hts gL_isSo_L_wordOf rfl rfl rfl (by decide +kernel) ⟨(Nat.le_of_ble_eq_true rfl), (Nat.le_of_ble_eq_true rfl)⟩) ⟨pre_blind, pre_cutP hE hK hA hP hD hS⟩ rfl rfl hl.1 rfl (lv_room (Nat.le_of_ble_eq_true rfl)) dL_isSo_615 ⟨(Nat.le_of_ble_eq_true rfl), (Nat.le_of_ble_eq_true rfl)⟩) hA hP hD hS rfl (by decide +kernel) (fun z11 u11 H locs h hP hD hS => ?_)
              have hP : va_P X.1 vwCl ([(a_ag, eI X 15 ag), (a_ax, eI X 60 ax), (a_ay, eI X 22 ay), (a_ae, eI X 50 ae)] ++ wo X ad sg) H := hP
              have hD : va_D A ([(a_ag, eI X 15 ag), (a_ax, eI X 60 ax), (a_ay, eI X 22 ay), (a_ae, eI X 50 ae)] ++ wo X ad sg) := hD
              refine lv_aload_n hx hb dL_isSo_618 rfl (lv_at hl 2 rfl) ?_
              refine lv_iconst (v := iI 5) hx hb dL_isSo_619 rfl ?_
              refine lv_iload hx hb dL_isSo_620 (lv_at hl 18 rfl) ?_
              refine i_mul hx hb dL_isSo_622 ?_
              refine lv_iconst (v := iI 2) hx hb dL_isSo_623 rfl ?_
              refine i_add hx hb dL_isSo_624 ?_
              refine i_ald hx hb hK hP 3 0 rfl rfl h.1 h.2.1 rfl (Nat.le_of_ble_eq_true rfl) dL_isSo_625 ?_
              have h := h.2.2
              refine i_cmp_ne (tgt := 723) hx hb h.1 h.2.1 dL_isSo_626 (by decide) (fun c12 => ?_) (fun c12 => ?_)
              · have h := h.2.2.1 c12
                have hP := va_P.subT (ws' := [(a_ag, eI X 15 ag), (a_ae, eI X 50 ae), (a_ax, eI X 60 ax), (a_ay, eI X 22 ay)]) [0, 3, 1, 2] rfl hP
                have hD := va_D.subT (ws' := [(a_ag, eI X 15 ag), (a_ae, eI X 50 ae), (a_ax, eI X 60 ax), (a_ay, eI X 22 ay)]) [0, 3, 1, 2] (by decide +kernel) rfl hD
                refine W.widen (k := 1) (n := 6) (Nat.le_of_ble_eq_true rfl) (Nat.le_of_ble_eq_true rfl) ?_
                exact B723 k154 hk154 (wpL_isSo_562 ag ae sg post k154 n) ih ax ay v5 v6 v7 v8 v9 v10 v12 v13 v15 v16 v17 v21 v22 h _ _ _ hP hD hS (lv_sub hl [0, 1, 2, 3, 4, 5, 6, 7, 8, 9, 10, 12, 13, 14, 15, 16, 17, 18] rfl)
              · have h := h.2.2.2 c12
                refine lv_aload_n hx hb dL_isSo_629 rfl (lv_at hl 0 rfl) ?_
                refine lv_iload hx hb dL_isSo_630 (lv_at hl 18 rfl) ?_
                refine lv_iconst (v := iI 3) hx hb dL_isSo_632 rfl ?_
                refine t_i (xs := [(a_ag, eI X 15 ag), (a_ax, eI X 60 ax), (a_ay, eI X 22 ay), (a_ae, eI X 50 ae)]) (isR := [0, 1, 2, 3]) (vx_runSW (As := [.ref (ad 0), .int (iI v22), .int (iI 3)]) (rest := []) ⟨hx, hb, hml, hown, hts⟩ (kL_wordOf0 l X ad sg v22 3 _ h _) (vx_cwSW 3 hts gL_isSo_L_wordOf rfl rfl rfl (by decide +kernel) ⟨(Nat.le_of_ble_eq_true rfl), (Nat.le_of_ble_eq_true rfl)⟩) ⟨pre_blind, pre_cutP hE hK hA hP hD hS⟩ rfl rfl hl.1 rfl (lv_room (Nat.le_of_ble_eq_true rfl)) dL_isSo_633 ⟨(Nat.le_of_ble_eq_true rfl), (Nat.le_of_ble_eq_true rfl)⟩) hA hP hD hS rfl (by decide +kernel) (fun z14 u14 H locs h hP hD hS => ?_)
                have hP : va_P X.1 vwCl ([(a_ag, eI X 15 ag), (a_ax, eI X 60 ax), (a_ay, eI X 22 ay), (a_ae, eI X 50 ae)] ++ wo X ad sg) H := hP
                have hD : va_D A ([(a_ag, eI X 15 ag), (a_ax, eI X 60 ax), (a_ay, eI X 22 ay), (a_ae, eI X 50 ae)] ++ wo X ad sg) := hD
                refine lv_aload_n hx hb dL_isSo_636 rfl (lv_at hl 2 rfl) ?_
                refine lv_iconst (v := iI 5) hx hb dL_isSo_637 rfl ?_
                refine lv_iload hx hb dL_isSo_638 (lv_at hl 18 rfl) ?_
                refine i_mul hx hb dL_isSo_640 ?_
                refine lv_iconst (v := iI 3) hx hb dL_isSo_641 rfl ?_
                refine i_add hx hb dL_isSo_642 ?_
                refine i_ald hx hb hK hP 3 0 rfl rfl h.1 h.2.1 rfl (Nat.le_of_ble_eq_true rfl) dL_isSo_643 ?_
                have h := h.2.2
                refine i_cmp_ne (tgt := 723) hx hb h.1 h.2.1 dL_isSo_644 (by decide) (fun c15 => ?_) (fun c15 => ?_)
                · have h := h.2.2.1 c15
                  have hP := va_P.subT (ws' := [(a_ag, eI X 15 ag), (a_ae, eI X 50 ae), (a_ax, eI X 60 ax), (a_ay, eI X 22 ay)]) [0, 3, 1, 2] rfl hP
                  have hD := va_D.subT (ws' := [(a_ag, eI X 15 ag), (a_ae, eI X 50 ae), (a_ax, eI X 60 ax), (a_ay, eI X 22 ay)]) [0, 3, 1, 2] (by decide +kernel) rfl hD
                  refine W.widen (k := 1) (n := 6) (Nat.le_of_ble_eq_true rfl) (Nat.le_of_ble_eq_true rfl) ?_
                  exact B723 k154 hk154 (wpL_isSo_562 ag ae sg post k154 n) ih ax ay v5 v6 v7 v8 v9 v10 v12 v13 v15 v16 v17 v21 v22 h _ _ _ hP hD hS (lv_sub hl [0, 1, 2, 3, 4, 5, 6, 7, 8, 9, 10, 12, 13, 14, 15, 16, 17, 18] rfl)
                · have h := h.2.2.2 c15
                  refine lv_aload_n hx hb dL_isSo_647 rfl (lv_at hl 0 rfl) ?_
                  refine lv_iload hx hb dL_isSo_648 (lv_at hl 18 rfl) ?_
                  refine lv_iconst (v := iI 4) hx hb dL_isSo_650 rfl ?_
                  refine t_i (xs := [(a_ag, eI X 15 ag), (a_ax, eI X 60 ax), (a_ay, eI X 22 ay), (a_ae, eI X 50 ae)]) (isR := [0, 1, 2, 3]) (vx_runSW (As := [.ref (ad 0), .int (iI v22), .int (iI 4)]) (rest := []) ⟨hx, hb, hml, hown, hts⟩ (kL_wordOf0 l X ad sg v22 4 _ h _) (vx_cwSW 3 hts gL_isSo_L_wordOf rfl rfl rfl (by decide +kernel) ⟨(Nat.le_of_ble_eq_true rfl), (Nat.le_of_ble_eq_true rfl)⟩) ⟨pre_blind, pre_cutP hE hK hA hP hD hS⟩ rfl rfl hl.1 rfl (lv_room (Nat.le_of_ble_eq_true rfl)) dL_isSo_651 ⟨(Nat.le_of_ble_eq_true rfl), (Nat.le_of_ble_eq_true rfl)⟩) hA hP hD hS rfl (by decide +kernel) (fun z17 u17 H locs h hP hD hS => ?_)
                  have hP : va_P X.1 vwCl ([(a_ag, eI X 15 ag), (a_ax, eI X 60 ax), (a_ay, eI X 22 ay), (a_ae, eI X 50 ae)] ++ wo X ad sg) H := hP
                  have hD : va_D A ([(a_ag, eI X 15 ag), (a_ax, eI X 60 ax), (a_ay, eI X 22 ay), (a_ae, eI X 50 ae)] ++ wo X ad sg) := hD
                  refine lv_aload_n hx hb dL_isSo_654 rfl (lv_at hl 2 rfl) ?_
                  refine lv_iconst (v := iI 5) hx hb dL_isSo_655 rfl ?_
                  refine lv_iload hx hb dL_isSo_656 (lv_at hl 18 rfl) ?_
                  refine i_mul hx hb dL_isSo_658 ?_
                  refine lv_iconst (v := iI 4) hx hb dL_isSo_659 rfl ?_
                  refine i_add hx hb dL_isSo_660 ?_
                  refine i_ald hx hb hK hP 3 0 rfl rfl h.1 h.2.1 rfl (Nat.le_of_ble_eq_true rfl) dL_isSo_661 ?_
                  have h := h.2.2
                  refine i_cmp_ne (tgt := 723) hx hb h.1 h.2.1 dL_isSo_662 (by decide) (fun c18 => ?_) (fun c18 => ?_)
                  · have h := h.2.2.1 c18
                    have hP := va_P.subT (ws' := [(a_ag, eI X 15 ag), (a_ae, eI X 50 ae), (a_ax, eI X 60 ax), (a_ay, eI X 22 ay)]) [0, 3, 1, 2] rfl hP
                    have hD := va_D.subT (ws' := [(a_ag, eI X 15 ag), (a_ae, eI X 50 ae), (a_ax, eI X 60 ax), (a_ay, eI X 22 ay)]) [0, 3, 1, 2] (by decide +kernel) rfl hD
                    refine W.widen (k := 1) (n := 6) (Nat.le_of_ble_eq_true rfl) (Nat.le_of_ble_eq_true rfl) ?_
                    exact B723 k154 hk154 (wpL_isSo_562 ag ae sg post k154 n) ih ax ay v5 v6 v7 v8 v9 v10 v12 v13 v15 v16 v17 v21 v22 h _ _ _ hP hD hS (lv_sub hl [0, 1, 2, 3, 4, 5, 6, 7, 8, 9, 10, 12, 13, 14, 15, 16, 17, 18] rfl)
                  · have h := h.2.2.2 c18
                    refine lv_aload_n hx hb dL_isSo_665 rfl (lv_at hl 0 rfl) ?_
                    refine lv_iload hx hb dL_isSo_666 (lv_at hl 18 rfl) ?_
                    refine lv_iconst (v := iI 5) hx hb dL_isSo_668 rfl ?_
                    refine t_i (xs := [(a_ag, eI X 15 ag), (a_ax, eI X 60 ax), (a_ay, eI X 22 ay), (a_ae, eI X 50 ae)]) (isR := [0, 1, 2, 3]) (vx_runSW (As := [.ref (ad 0), .int (iI v22), .int (iI 5)]) (rest := []) ⟨hx, hb, hml, hown, hts⟩ (kL_wordOf0 l X ad sg v22 5 _ h _) (vx_cwSW 3 hts gL_isSo_L_wordOf rfl rfl rfl (by decide +kernel) ⟨(Nat.le_of_ble_eq_true rfl), (Nat.le_of_ble_eq_true rfl)⟩) ⟨pre_blind, pre_cutP hE hK hA hP hD hS⟩ rfl rfl hl.1 rfl (lv_room (Nat.le_of_ble_eq_true rfl)) dL_isSo_669 ⟨(Nat.le_of_ble_eq_true rfl), (Nat.le_of_ble_eq_true rfl)⟩) hA hP hD hS rfl (by decide +kernel) (fun z20 u20 H locs h hP hD hS => ?_)
                    have hP : va_P X.1 vwCl ([(a_ag, eI X 15 ag), (a_ax, eI X 60 ax), (a_ay, eI X 22 ay), (a_ae, eI X 50 ae)] ++ wo X ad sg) H := hP
                    have hD : va_D A ([(a_ag, eI X 15 ag), (a_ax, eI X 60 ax), (a_ay, eI X 22 ay), (a_ae, eI X 50 ae)] ++ wo X ad sg) := hD
                    refine lv_iload hx hb dL_isSo_672 (lv_at hl 13 rfl) ?_
                    refine i_cmp_ne (tgt := 723) hx hb h.1 h.2.1 dL_isSo_674 (by decide) (fun c21 => ?_) (fun c21 => ?_)
                    · have h := h.2.2.1 c21
                      have hP := va_P.subT (ws' := [(a_ag, eI X 15 ag), (a_ae, eI X 50 ae), (a_ax, eI X 60 ax), (a_ay, eI X 22 ay)]) [0, 3, 1, 2] rfl hP
                      have hD := va_D.subT (ws' := [(a_ag, eI X 15 ag), (a_ae, eI X 50 ae), (a_ax, eI X 60 ax), (a_ay, eI X 22 ay)]) [0, 3, 1, 2] (by decide +kernel) rfl hD
                      refine W.widen (k := 1) (n := 6) (Nat.le_of_ble_eq_true rfl) (Nat.le_of_ble_eq_true rfl) ?_
                      exact B723 k154 hk154 (wpL_isSo_562 ag ae sg post k154 n) ih ax ay v5 v6 v7 v8 v9 v10 v12 v13 v15 v16 v17 v21 v22 h _ _ _ hP hD hS (lv_sub hl [0, 1, 2, 3, 4, 5, 6, 7, 8, 9, 10, 12, 13, 14, 15, 16, 17, 18] rfl)
                    · have h := h.2.2.2 c21
                      refine lv_aload_n hx hb dL_isSo_677 rfl (lv_at hl 0 rfl) ?_
                      refine lv_iload hx hb dL_isSo_678 (lv_at hl 18 rfl) ?_
                      refine lv_bipush (v := iI 6) hx hb dL_isSo_680 (by decide +kernel) ?_
                      refine t_i (xs := [(a_ag, eI X 15 ag), (a_ax, eI X 60 ax), (a_ay, eI X 22 ay), (a_ae, eI X 50 ae)]) (isR := [0, 1, 2, 3]) (vx_runSW (As := [.ref (ad 0), .int (iI v22), .int (iI 6)]) (rest := []) ⟨hx, hb, hml, hown, hts⟩ (kL_wordOf0 l X ad sg v22 6 _ h _) (vx_cwSW 3 hts gL_isSo_L_wordOf rfl rfl rfl (by decide +kernel) ⟨(Nat.le_of_ble_eq_true rfl), (Nat.le_of_ble_eq_true rfl)⟩) ⟨pre_blind, pre_cutP hE hK hA hP hD hS⟩ rfl rfl hl.1 rfl (lv_room (Nat.le_of_ble_eq_true rfl)) dL_isSo_682 ⟨(Nat.le_of_ble_eq_true rfl), (Nat.le_of_ble_eq_true rfl)⟩) hA hP hD hS rfl (by decide +kernel) (fun z23 u23 H locs h hP hD hS => ?_)
                      have hP : va_P X.1 vwCl ([(a_ag, eI X 15 ag), (a_ax, eI X 60 ax), (a_ay, eI X 22 ay), (a_ae, eI X 50 ae)] ++ wo X ad sg) H := hP
                      have hD : va_D A ([(a_ag, eI X 15 ag), (a_ax, eI X 60 ax), (a_ay, eI X 22 ay), (a_ae, eI X 50 ae)] ++ wo X ad sg) := hD
                      refine lv_iload hx hb dL_isSo_685 (lv_at hl 18 rfl) ?_
                      refine lv_iload hx hb dL_isSo_687 (lv_at hl 15 rfl) ?_
                      refine i_sub hx hb dL_isSo_689 ?_
                      refine i_cmp_ne (tgt := 723) hx hb h.1 h.2.1 dL_isSo_690 (by decide) (fun c24 => ?_) (fun c24 => ?_)
                      · have h := h.2.2.1 c24
                        have hP := va_P.subT (ws' := [(a_ag, eI X 15 ag), (a_ae, eI X 50 ae), (a_ax, eI X 60 ax), (a_ay, eI X 22 ay)]) [0, 3, 1, 2] rfl hP
                        have hD := va_D.subT (ws' := [(a_ag, eI X 15 ag), (a_ae, eI X 50 ae), (a_ax, eI X 60 ax), (a_ay, eI X 22 ay)]) [0, 3, 1, 2] (by decide +kernel) rfl hD
                        refine W.widen (k := 1) (n := 6) (Nat.le_of_ble_eq_true rfl) (Nat.le_of_ble_eq_true rfl) ?_
                        exact B723 k154 hk154 (wpL_isSo_562 ag ae sg post k154 n) ih ax ay v5 v6 v7 v8 v9 v10 v12 v13 v15 v16 v17 v21 v22 h _ _ _ hP hD hS (lv_sub hl [0, 1, 2, 3, 4, 5, 6, 7, 8, 9, 10, 12, 13, 14, 15, 16, 17, 18] rfl)
                      · have h := h.2.2.2 c24
                        refine lv_aload_n hx hb dL_isSo_693 rfl (lv_at hl 0 rfl) ?_
                        refine lv_iload hx hb dL_isSo_694 (lv_at hl 18 rfl) ?_
                        refine lv_bipush (v := iI 7) hx hb dL_isSo_696 (by decide +kernel) ?_
                        refine t_i (xs := [(a_ag, eI X 15 ag), (a_ax, eI X 60 ax), (a_ay, eI X 22 ay), (a_ae, eI X 50 ae)]) (isR := [0, 1, 2, 3]) (vx_runSW (As := [.ref (ad 0), .int (iI v22), .int (iI 7)]) (rest := []) ⟨hx, hb, hml, hown, hts⟩ (kL_wordOf0 l X ad sg v22 7 _ h _) (vx_cwSW 3 hts gL_isSo_L_wordOf rfl rfl rfl (by decide +kernel) ⟨(Nat.le_of_ble_eq_true rfl), (Nat.le_of_ble_eq_true rfl)⟩) ⟨pre_blind, pre_cutP hE hK hA hP hD hS⟩ rfl rfl hl.1 rfl (lv_room (Nat.le_of_ble_eq_true rfl)) dL_isSo_698 ⟨(Nat.le_of_ble_eq_true rfl), (Nat.le_of_ble_eq_true rfl)⟩) hA hP hD hS rfl (by decide +kernel) (fun z26 u26 H locs h hP hD hS => ?_)
                        have hP : va_P X.1 vwCl ([(a_ag, eI X 15 ag), (a_ax, eI X 60 ax), (a_ay, eI X 22 ay), (a_ae, eI X 50 ae)] ++ wo X ad sg) H := hP
                        have hD : va_D A ([(a_ag, eI X 15 ag), (a_ax, eI X 60 ax), (a_ay, eI X 22 ay), (a_ae, eI X 50 ae)] ++ wo X ad sg) := hD
                        refine lv_iload hx hb dL_isSo_701 (lv_at hl 14 rfl) ?_
                        refine i_cmp_ne (tgt := 723) hx hb h.1 h.2.1 dL_isSo_703 (by decide) (fun c27 => ?_) (fun c27 => ?_)
                        · have h := h.2.2.1 c27
                          have hP := va_P.subT (ws' := [(a_ag, eI X 15 ag), (a_ae, eI X 50 ae), (a_ax, eI X 60 ax), (a_ay, eI X 22 ay)]) [0, 3, 1, 2] rfl hP
                          have hD := va_D.subT (ws' := [(a_ag, eI X 15 ag), (a_ae, eI X 50 ae), (a_ax, eI X 60 ax), (a_ay, eI X 22 ay)]) [0, 3, 1, 2] (by decide +kernel) rfl hD
                          refine W.widen (k := 1) (n := 6) (Nat.le_of_ble_eq_true rfl) (Nat.le_of_ble_eq_true rfl) ?_
                          exact B723 k154 hk154 (wpL_isSo_562 ag ae sg post k154 n) ih ax ay v5 v6 v7 v8 v9 v10 v12 v13 v15 v16 v17 v21 v22 h _ _ _ hP hD hS (lv_sub hl [0, 1, 2, 3, 4, 5, 6, 7, 8, 9, 10, 12, 13, 14, 15, 16, 17, 18] rfl)
                        · have h := h.2.2.2 c27
                          refine lv_aload_n hx hb dL_isSo_706 rfl (lv_at hl 0 rfl) ?_
                          refine lv_iload hx hb dL_isSo_707 (lv_at hl 18 rfl) ?_
                          refine lv_bipush (v := iI 8) hx hb dL_isSo_709 (by decide +kernel) ?_
                          refine t_i (xs := [(a_ag, eI X 15 ag), (a_ax, eI X 60 ax), (a_ay, eI X 22 ay), (a_ae, eI X 50 ae)]) (isR := [0, 1, 2, 3]) (vx_runSW (As := [.ref (ad 0), .int (iI v22), .int (iI 8)]) (rest := []) ⟨hx, hb, hml, hown, hts⟩ (kL_wordOf0 l X ad sg v22 8 _ h _) (vx_cwSW 3 hts gL_isSo_L_wordOf rfl rfl rfl (by decide +kernel) ⟨(Nat.le_of_ble_eq_true rfl), (Nat.le_of_ble_eq_true rfl)⟩) ⟨pre_blind, pre_cutP hE hK hA hP hD hS⟩ rfl rfl hl.1 rfl (lv_room (Nat.le_of_ble_eq_true rfl)) dL_isSo_711 ⟨(Nat.le_of_ble_eq_true rfl), (Nat.le_of_ble_eq_true rfl)⟩) hA hP hD hS rfl (by decide +kernel) (fun z29 u29 H locs h hP hD hS => ?_)
                          have hP : va_P X.1 vwCl ([(a_ag, eI X 15 ag), (a_ax, eI X 60 ax), (a_ay, eI X 22 ay), (a_ae, eI X 50 ae)] ++ wo X ad sg) H := hP
                          have hD : va_D A ([(a_ag, eI X 15 ag), (a_ax, eI X 60 ax), (a_ay, eI X 22 ay), (a_ae, eI X 50 ae)] ++ wo X ad sg) := hD
                          refine lv_iload hx hb dL_isSo_714 (lv_at hl 17 rfl) ?_
                          refine i_cmp_ne (tgt := 723) hx hb h.1 h.2.1 dL_isSo_716 (by decide) (fun c30 => ?_) (fun c30 => ?_)
                          · have h := h.2.2.1 c30
                            have hP := va_P.subT (ws' := [(a_ag, eI X 15 ag), (a_ae, eI X 50 ae), (a_ax, eI X 60 ax), (a_ay, eI X 22 ay)]) [0, 3, 1, 2] rfl hP
                            have hD := va_D.subT (ws' := [(a_ag, eI X 15 ag), (a_ae, eI X 50 ae), (a_ax, eI X 60 ax), (a_ay, eI X 22 ay)]) [0, 3, 1, 2] (by decide +kernel) rfl hD
                            refine W.widen (k := 1) (n := 6) (Nat.le_of_ble_eq_true rfl) (Nat.le_of_ble_eq_true rfl) ?_
                            exact B723 k154 hk154 (wpL_isSo_562 ag ae sg post k154 n) ih ax ay v5 v6 v7 v8 v9 v10 v12 v13 v15 v16 v17 v21 v22 h _ _ _ hP hD hS (lv_sub hl [0, 1, 2, 3, 4, 5, 6, 7, 8, 9, 10, 12, 13, 14, 15, 16, 17, 18] rfl)
                          · have h := h.2.2.2 c30
                            refine lv_iconst (v := iI 1) hx hb dL_isSo_719 rfl ?_
                            refine lv_goto (tgt := 724) hx hb dL_isSo_720 (by decide) ?_
                            have hP := va_P.subT (ws' := [(a_ag, eI X 15 ag), (a_ae, eI X 50 ae), (a_ax, eI X 60 ax), (a_ay, eI X 22 ay)]) [0, 3, 1, 2] rfl hP
                            have hD := va_D.subT (ws' := [(a_ag, eI X 15 ag), (a_ae, eI X 50 ae), (a_ax, eI X 60 ax), (a_ay, eI X 22 ay)]) [0, 3, 1, 2] (by decide +kernel) rfl hD
                            refine W.widen (k := 1) (n := 6) (Nat.le_of_ble_eq_true rfl) (Nat.le_of_ble_eq_true rfl) ?_
                            exact B724 k154 hk154 (wpL_isSo_562 ag ae sg post k154 n) ih ax ay v5 v6 v7 v8 v9 v10 v12 v13 v15 v16 v17 v21 v22 1 h _ _ _ hP hD hS (lv_sub hl [0, 1, 2, 3, 4, 5, 6, 7, 8, 9, 10, 12, 13, 14, 15, 16, 17, 18] rfl)
  have B501 : ∀ (k154 : (Nat → Int) → (Nat → Int) → Int → Int → Int → Int → Int → Int → Int → Int → Int → Prop) (hk154 : ∀ (ax : Nat → Int) (ay : Nat → Int) (v5 : Int) (v6 : Int) (v7 : Int) (v8 : Int) (v9 : Int) (v10 : Int) (v11 : Int) (v12 : Int) (v13 : Int), k154 ax ay v5 v6 v7 v8 v9 v10 v11 v12 v13 → ∀ (H : Heap) (locs : List Loc) (ls : Array Slot), va_P X.1 vwCl ([(a_ag, eI X 15 ag), (a_ae, eI X 50 ae), (a_ax, eI X 60 ax), (a_ay, eI X 22 ay)] ++ wo X ad sg) H → va_D A ([(a_ag, eI X 15 ag), (a_ae, eI X 50 ae), (a_ax, eI X 60 ax), (a_ay, eI X 22 ay)] ++ wo X ad sg) → va_S A s.heap H locs → lv_has ls 23 [(0, .ref (ad 0)), (1, .ref a_ag), (2, .ref a_ae), (3, .ref a_ax), (4, .ref a_ay), (5, .int (iI v5)), (6, .int (iI v6)), (7, .int (iI v7)), (8, .int (iI v8)), (9, .int (iI v9)), (10, .int (iI v10)), (11, .int (iI v11)), (12, .int (iI v12)), (13, .int (iI v13))] → W p l e rmL_isSo s m args below meth c H locs 1 6 Q (F0 m 154 ls [])) (ax : Nat → Int) (ay : Nat → Int) (v5 : Int) (v6 : Int) (v8 : Int) (v9 : Int) (v10 : Int) (v11 : Int) (v12 : Int) (v13 : Int) (v14 : Int) (v15 : Int) (v16 : Int) (v17 : Int) (w0 : Int) (w1 : Int), wpL_isSo_501 ag ae sg post k154 ax ay v5 v6 v8 v9 v10 v11 v12 v13 v14 v15 v16 v17 w0 w1 → ∀ (H : Heap) (locs : List Loc) (ls : Array Slot), va_P X.1 vwCl ([(a_ag, eI X 15 ag), (a_ae, eI X 50 ae), (a_ax, eI X 60 ax), (a_ay, eI X 22 ay)] ++ wo X ad sg) H → va_D A ([(a_ag, eI X 15 ag), (a_ae, eI X 50 ae), (a_ax, eI X 60 ax), (a_ay, eI X 22 ay)] ++ wo X ad sg) → va_S A s.heap H locs → lv_has ls 23 [(0, .ref (ad 0)), (1, .ref a_ag), (2, .ref a_ae), (3, .ref a_ax), (4, .ref a_ay), (5, .int (iI v5)), (6, .int (iI v6)), (8, .int (iI v8)), (9, .int (iI v9)), (10, .int (iI v10)), (11, .int (iI v11)), (12, .int (iI v12)), (13, .int (iI v13)), (14, .int (iI v14)), (15, .int (iI v15)), (16, .int (iI v16)), (17, .int (iI v17))] → W p l e rmL_isSo s m args below meth c H locs 1 6 Q (F0 m 501 ls [.int (iI w0), .int (iI w1)]) := by
    intro k154 hk154 ax ay v5 v6 v8 v9 v10 v11 v12 v13 v14 v15 v16 v17 w0 w1 h H locs ls hP hD hS hl
    refine i_add hx hb dL_isSo_501 ?_
    refine lv_istore (lv' := [(7, .int (iI (w1 + w0))), (0, .ref (ad 0)), (1, .ref a_ag), (2, .ref a_ae), (3, .ref a_ax), (4, .ref a_ay), (5, .int (iI v5)), (6, .int (iI v6)), (8, .int (iI v8)), (9, .int (iI v9)), (10, .int (iI v10)), (11, .int (iI v11)), (12, .int (iI v12)), (13, .int (iI v13)), (14, .int (iI v14)), (15, .int (iI v15)), (16, .int (iI v16)), (17, .int (iI v17))]) hx hb dL_isSo_502 hl (by decide) rfl (fun ls hl => ?_)
    refine lv_iload hx hb dL_isSo_504 (lv_at hl 8 rfl) ?_
    refine lv_aload_n hx hb dL_isSo_506 rfl (lv_at hl 4 rfl) ?_
    refine lv_iload hx hb dL_isSo_507 (lv_at hl 14 rfl) ?_
    refine lv_iconst (v := iI 5) hx hb dL_isSo_509 rfl ?_
    refine i_add hx hb dL_isSo_510 ?_
    refine i_ald hx hb hK hP 2 0 rfl rfl h.1 h.2.1 rfl (Nat.le_of_ble_eq_true rfl) dL_isSo_511 ?_
    have h := h.2.2
    refine i_add hx hb dL_isSo_512 ?_
    refine lv_istore (lv' := [(8, .int (iI (v8 + ax (v14 + 5).toNat))), (7, .int (iI (w1 + w0))), (0, .ref (ad 0)), (1, .ref a_ag), (2, .ref a_ae), (3, .ref a_ax), (4, .ref a_ay), (5, .int (iI v5)), (6, .int (iI v6)), (9, .int (iI v9)), (10, .int (iI v10)), (11, .int (iI v11)), (12, .int (iI v12)), (13, .int (iI v13)), (14, .int (iI v14)), (15, .int (iI v15)), (16, .int (iI v16)), (17, .int (iI v17))]) hx hb dL_isSo_513 hl (by decide) rfl (fun ls hl => ?_)
    refine lv_iload hx hb dL_isSo_515 (lv_at hl 9 rfl) ?_
    refine lv_aload_n hx hb dL_isSo_517 rfl (lv_at hl 5 rfl) ?_
    refine lv_iload hx hb dL_isSo_518 (lv_at hl 14 rfl) ?_
    refine lv_iconst (v := iI 2) hx hb dL_isSo_520 rfl ?_
    refine i_add hx hb dL_isSo_521 ?_
    refine i_ald hx hb hK hP 2 0 rfl rfl h.1 h.2.1 rfl (Nat.le_of_ble_eq_true rfl) dL_isSo_522 ?_
    have h := h.2.2
    refine lv_aload_n hx hb dL_isSo_523 rfl (lv_at hl 5 rfl) ?_
    refine lv_iload hx hb dL_isSo_524 (lv_at hl 14 rfl) ?_
    refine lv_iconst (v := iI 3) hx hb dL_isSo_526 rfl ?_
    refine i_add hx hb dL_isSo_527 ?_
    refine i_ald hx hb hK hP 2 0 rfl rfl h.1 h.2.1 rfl (Nat.le_of_ble_eq_true rfl) dL_isSo_528 ?_
    have h := h.2.2
    refine i_add hx hb dL_isSo_529 ?_
    refine i_add hx hb dL_isSo_530 ?_
    refine lv_istore (lv' := [(9, .int (iI (v9 + (ax (v14 + 2).toNat + ax (v14 + 3).toNat)))), (8, .int (iI (v8 + ax (v14 + 5).toNat))), (7, .int (iI (w1 + w0))), (0, .ref (ad 0)), (1, .ref a_ag), (2, .ref a_ae), (3, .ref a_ax), (4, .ref a_ay), (5, .int (iI v5)), (6, .int (iI v6)), (10, .int (iI v10)), (11, .int (iI v11)), (12, .int (iI v12)), (13, .int (iI v13)), (14, .int (iI v14)), (15, .int (iI v15)), (16, .int (iI v16)), (17, .int (iI v17))]) hx hb dL_isSo_531 hl (by decide) rfl (fun ls hl => ?_)
    refine lv_iload hx hb dL_isSo_533 (lv_at hl 10 rfl) ?_
    refine lv_aload_n hx hb dL_isSo_535 rfl (lv_at hl 4 rfl) ?_
    refine lv_aload_n hx hb dL_isSo_536 rfl (lv_at hl 5 rfl) ?_
    refine lv_aload_n hx hb dL_isSo_537 rfl (lv_at hl 4 rfl) ?_
    refine lv_iconst (v := iI 0) hx hb dL_isSo_538 rfl ?_
    refine i_ald hx hb hK hP 0 0 rfl rfl (by decide) (by decide) rfl (Nat.le_of_ble_eq_true rfl) dL_isSo_539 ?_
    refine lv_aload_n hx hb dL_isSo_540 rfl (lv_at hl 6 rfl) ?_
    refine lv_iload hx hb dL_isSo_541 (lv_at hl 13 rfl) ?_
    refine u_i (xs := [(a_ag, eI X 15 ag), (a_ae, eI X 50 ae), (a_ax, eI X 60 ax), (a_ay, eI X 22 ay)]) (isC := [0, 1, 2]) (isR := [3]) (wr := [(a_ay, eI X 22 ay)]) (va_runS (As := [.ref a_ag, .ref a_ae, .int (iI (ag 0)), .ref a_ax, .int (iI v13)]) (rest := [.int (iI v10)]) ⟨hx, hb, hml, hown, hts⟩ (kL_empty l X a_ag a_ae a_ax ag ae ax (ag 0) v13 _ h _) (va_cwS 5 hts gL_isSo_L_empty rfl rfl rfl (by decide +kernel) ⟨(Nat.le_of_ble_eq_true rfl), (Nat.le_of_ble_eq_true rfl)⟩) ⟨pre_blind, pre_cutQ hE hK hA hP hD hS (isC := [0, 1, 2]) rfl rfl⟩ rfl rfl hl.1 rfl (lv_room (Nat.le_of_ble_eq_true rfl)) dL_isSo_543 ⟨(Nat.le_of_ble_eq_true rfl), (Nat.le_of_ble_eq_true rfl)⟩) hA hP hD hS rfl rfl (by decide +kernel) (by decide +kernel) (fun z1 u1 H locs h hP hD hS => ?_)
    have hP : va_P X.1 vwCl ([(a_ay, eI X 22 ay), (a_ag, eI X 15 ag), (a_ae, eI X 50 ae), (a_ax, eI X 60 ax)] ++ wo X ad sg) H := hP
    have hD : va_D A ([(a_ay, eI X 22 ay), (a_ag, eI X 15 ag), (a_ae, eI X 50 ae), (a_ax, eI X 60 ax)] ++ wo X ad sg) := hD
    refine i_add hx hb dL_isSo_546 ?_
    refine lv_istore (lv' := [(10, .int (iI (v10 + z1))), (9, .int (iI (v9 + (ax (v14 + 2).toNat + ax (v14 + 3).toNat)))), (8, .int (iI (v8 + ax (v14 + 5).toNat))), (7, .int (iI (w1 + w0))), (0, .ref (ad 0)), (1, .ref a_ag), (2, .ref a_ae), (3, .ref a_ax), (4, .ref a_ay), (5, .int (iI v5)), (6, .int (iI v6)), (11, .int (iI v11)), (12, .int (iI v12)), (13, .int (iI v13)), (14, .int (iI v14)), (15, .int (iI v15)), (16, .int (iI v16)), (17, .int (iI v17))]) hx hb dL_isSo_547 hl (by decide) rfl (fun ls hl => ?_)
    refine lv_aload_n hx hb dL_isSo_549 rfl (lv_at hl 7 rfl) ?_
    refine lv_iload hx hb dL_isSo_550 (lv_at hl 14 rfl) ?_
    refine lv_iconst (v := iI 2) hx hb dL_isSo_552 rfl ?_
    refine i_add hx hb dL_isSo_553 ?_
    refine i_ald hx hb hK hP 3 0 rfl rfl h.1 h.2.1 rfl (Nat.le_of_ble_eq_true rfl) dL_isSo_554 ?_
    have h := h.2.2
    refine i_neg hx hb dL_isSo_555 ?_
    refine lv_istore (lv' := [(21, .int (iI (-ax (v14 + 2).toNat))), (10, .int (iI (v10 + z1))), (9, .int (iI (v9 + (ax (v14 + 2).toNat + ax (v14 + 3).toNat)))), (8, .int (iI (v8 + ax (v14 + 5).toNat))), (7, .int (iI (w1 + w0))), (0, .ref (ad 0)), (1, .ref a_ag), (2, .ref a_ae), (3, .ref a_ax), (4, .ref a_ay), (5, .int (iI v5)), (6, .int (iI v6)), (11, .int (iI v11)), (12, .int (iI v12)), (13, .int (iI v13)), (14, .int (iI v14)), (15, .int (iI v15)), (16, .int (iI v16)), (17, .int (iI v17))]) hx hb dL_isSo_556 hl (by decide) rfl (fun ls hl => ?_)
    refine lv_iload hx hb dL_isSo_558 (lv_at hl 17 rfl) ?_
    refine lv_istore (lv' := [(22, .int (iI v16)), (21, .int (iI (-ax (v14 + 2).toNat))), (10, .int (iI (v10 + z1))), (9, .int (iI (v9 + (ax (v14 + 2).toNat + ax (v14 + 3).toNat)))), (8, .int (iI (v8 + ax (v14 + 5).toNat))), (7, .int (iI (w1 + w0))), (0, .ref (ad 0)), (1, .ref a_ag), (2, .ref a_ae), (3, .ref a_ax), (4, .ref a_ay), (5, .int (iI v5)), (6, .int (iI v6)), (11, .int (iI v11)), (12, .int (iI v12)), (13, .int (iI v13)), (14, .int (iI v14)), (15, .int (iI v15)), (16, .int (iI v16)), (17, .int (iI v17))]) hx hb dL_isSo_560 hl (by decide) rfl (fun ls hl => ?_)
    have hP := va_P.subT (ws' := [(a_ag, eI X 15 ag), (a_ae, eI X 50 ae), (a_ax, eI X 60 ax), (a_ay, eI X 22 ay)]) [1, 2, 3, 0] rfl hP
    have hD := va_D.subT (ws' := [(a_ag, eI X 15 ag), (a_ae, eI X 50 ae), (a_ax, eI X 60 ax), (a_ay, eI X 22 ay)]) [1, 2, 3, 0] (by decide +kernel) rfl hD
    refine W.widen (k := 1) (n := 6) (Nat.le_of_ble_eq_true rfl) (Nat.le_of_ble_eq_true rfl) ?_
    obtain ⟨n2, h⟩ := h
    exact B562 k154 hk154 n2 ax ay v5 v6 (w1 + w0) (v8 + ax (v14 + 5).toNat) (v9 + (ax (v14 + 2).toNat + ax (v14 + 3).toNat)) (v10 + z1) v11 v12 v13 v15 v16 v17 (-ax (v14 + 2).toNat) v16 h _ _ _ hP hD hS (lv_sub hl [6, 7, 8, 9, 10, 11, 12, 5, 4, 3, 2, 13, 14, 15, 17, 18, 19, 1, 0] rfl)
  have B476 : ∀ (k154 : (Nat → Int) → (Nat → Int) → Int → Int → Int → Int → Int → Int → Int → Int → Int → Prop) (hk154 : ∀ (ax : Nat → Int) (ay : Nat → Int) (v5 : Int) (v6 : Int) (v7 : Int) (v8 : Int) (v9 : Int) (v10 : Int) (v11 : Int) (v12 : Int) (v13 : Int), k154 ax ay v5 v6 v7 v8 v9 v10 v11 v12 v13 → ∀ (H : Heap) (locs : List Loc) (ls : Array Slot), va_P X.1 vwCl ([(a_ag, eI X 15 ag), (a_ae, eI X 50 ae), (a_ax, eI X 60 ax), (a_ay, eI X 22 ay)] ++ wo X ad sg) H → va_D A ([(a_ag, eI X 15 ag), (a_ae, eI X 50 ae), (a_ax, eI X 60 ax), (a_ay, eI X 22 ay)] ++ wo X ad sg) → va_S A s.heap H locs → lv_has ls 23 [(0, .ref (ad 0)), (1, .ref a_ag), (2, .ref a_ae), (3, .ref a_ax), (4, .ref a_ay), (5, .int (iI v5)), (6, .int (iI v6)), (7, .int (iI v7)), (8, .int (iI v8)), (9, .int (iI v9)), (10, .int (iI v10)), (11, .int (iI v11)), (12, .int (iI v12)), (13, .int (iI v13))] → W p l e rmL_isSo s m args below meth c H locs 1 6 Q (F0 m 154 ls [])) (ax : Nat → Int) (ay : Nat → Int) (v5 : Int) (v6 : Int) (v7 : Int) (v8 : Int) (v9 : Int) (v10 : Int) (v12 : Int) (v13 : Int) (v14 : Int) (v15 : Int) (v16 : Int) (v17 : Int) (w0 : Int), wpL_isSo_476 ag ae sg post k154 ax ay v5 v6 v7 v8 v9 v10 v12 v13 v14 v15 v16 v17 w0 → ∀ (H : Heap) (locs : List Loc) (ls : Array Slot), va_P X.1 vwCl ([(a_ag, eI X 15 ag), (a_ae, eI X 50 ae), (a_ax, eI X 60 ax), (a_ay, eI X 22 ay)] ++ wo X ad sg) H → va_D A ([(a_ag, eI X 15 ag), (a_ae, eI X 50 ae), (a_ax, eI X 60 ax), (a_ay, eI X 22 ay)] ++ wo X ad sg) → va_S A s.heap H locs → lv_has ls 23 [(0, .ref (ad 0)), (1, .ref a_ag), (2, .ref a_ae), (3, .ref a_ax), (4, .ref a_ay), (5, .int (iI v5)), (6, .int (iI v6)), (7, .int (iI v7)), (8, .int (iI v8)), (9, .int (iI v9)), (10, .int (iI v10)), (12, .int (iI v12)), (13, .int (iI v13)), (14, .int (iI v14)), (15, .int (iI v15)), (16, .int (iI v16)), (17, .int (iI v17))] → W p l e rmL_isSo s m args below meth c H locs 1 6 Q (F0 m 476 ls [.int (iI w0)]) := by
    intro k154 hk154 ax ay v5 v6 v7 v8 v9 v10 v12 v13 v14 v15 v16 v17 w0 h H locs ls hP hD hS hl
    refine lv_istore (lv' := [(11, .int (iI w0)), (0, .ref (ad 0)), (1, .ref a_ag), (2, .ref a_ae), (3, .ref a_ax), (4, .ref a_ay), (5, .int (iI v5)), (6, .int (iI v6)), (7, .int (iI v7)), (8, .int (iI v8)), (9, .int (iI v9)), (10, .int (iI v10)), (12, .int (iI v12)), (13, .int (iI v13)), (14, .int (iI v14)), (15, .int (iI v15)), (16, .int (iI v16)), (17, .int (iI v17))]) hx hb dL_isSo_476 hl (by decide) rfl (fun ls hl => ?_)
    refine lv_iload hx hb dL_isSo_478 (lv_at hl 8 rfl) ?_
    refine lv_aload_n hx hb dL_isSo_480 rfl (lv_at hl 4 rfl) ?_
    refine lv_iload hx hb dL_isSo_481 (lv_at hl 14 rfl) ?_
    refine lv_iconst (v := iI 2) hx hb dL_isSo_483 rfl ?_
    refine i_add hx hb dL_isSo_484 ?_
    refine i_ald hx hb hK hP 2 0 rfl rfl h.1 h.2.1 rfl (Nat.le_of_ble_eq_true rfl) dL_isSo_485 ?_
    have h := h.2.2
    refine lv_aload_n hx hb dL_isSo_486 rfl (lv_at hl 4 rfl) ?_
    refine lv_iload hx hb dL_isSo_487 (lv_at hl 14 rfl) ?_
    refine lv_iconst (v := iI 3) hx hb dL_isSo_489 rfl ?_
    refine i_add hx hb dL_isSo_490 ?_
    refine i_ald hx hb hK hP 2 0 rfl rfl h.1 h.2.1 rfl (Nat.le_of_ble_eq_true rfl) dL_isSo_491 ?_
    have h := h.2.2
    refine i_add hx hb dL_isSo_492 ?_
    refine i_if_le (tgt := 500) hx hb h.1 dL_isSo_493 (by decide) (fun c1 => ?_) (fun c1 => ?_)
    · have h := h.2.1 c1
      refine lv_iconst (v := iI 0) hx hb dL_isSo_500 rfl ?_
      refine W.widen (k := 1) (n := 6) (Nat.le_of_ble_eq_true rfl) (Nat.le_of_ble_eq_true rfl) ?_
      exact B501 k154 hk154 ax ay v5 v6 v8 v9 v10 w0 v12 v13 v14 v15 v16 v17 0 v7 h _ _ _ hP hD hS (lv_sub hl [1, 2, 3, 4, 5, 6, 7, 9, 10, 11, 0, 12, 13, 14, 15, 16, 17] rfl)
    · have h := h.2.2 c1
      refine lv_iconst (v := iI 1) hx hb dL_isSo_496 rfl ?_
      refine lv_goto (tgt := 501) hx hb dL_isSo_497 (by decide) ?_
      refine W.widen (k := 1) (n := 6) (Nat.le_of_ble_eq_true rfl) (Nat.le_of_ble_eq_true rfl) ?_
      exact B501 k154 hk154 ax ay v5 v6 v8 v9 v10 w0 v12 v13 v14 v15 v16 v17 1 v7 h _ _ _ hP hD hS (lv_sub hl [1, 2, 3, 4, 5, 6, 7, 9, 10, 11, 0, 12, 13, 14, 15, 16, 17] rfl)
  have B475 : ∀ (k154 : (Nat → Int) → (Nat → Int) → Int → Int → Int → Int → Int → Int → Int → Int → Int → Prop) (hk154 : ∀ (ax : Nat → Int) (ay : Nat → Int) (v5 : Int) (v6 : Int) (v7 : Int) (v8 : Int) (v9 : Int) (v10 : Int) (v11 : Int) (v12 : Int) (v13 : Int), k154 ax ay v5 v6 v7 v8 v9 v10 v11 v12 v13 → ∀ (H : Heap) (locs : List Loc) (ls : Array Slot), va_P X.1 vwCl ([(a_ag, eI X 15 ag), (a_ae, eI X 50 ae), (a_ax, eI X 60 ax), (a_ay, eI X 22 ay)] ++ wo X ad sg) H → va_D A ([(a_ag, eI X 15 ag), (a_ae, eI X 50 ae), (a_ax, eI X 60 ax), (a_ay, eI X 22 ay)] ++ wo X ad sg) → va_S A s.heap H locs → lv_has ls 23 [(0, .ref (ad 0)), (1, .ref a_ag), (2, .ref a_ae), (3, .ref a_ax), (4, .ref a_ay), (5, .int (iI v5)), (6, .int (iI v6)), (7, .int (iI v7)), (8, .int (iI v8)), (9, .int (iI v9)), (10, .int (iI v10)), (11, .int (iI v11)), (12, .int (iI v12)), (13, .int (iI v13))] → W p l e rmL_isSo s m args below meth c H locs 1 6 Q (F0 m 154 ls [])) (ax : Nat → Int) (ay : Nat → Int) (v5 : Int) (v6 : Int) (v7 : Int) (v8 : Int) (v9 : Int) (v10 : Int) (v12 : Int) (v13 : Int) (v14 : Int) (v15 : Int) (v16 : Int) (v17 : Int), wpL_isSo_475 ag ae sg post k154 ax ay v5 v6 v7 v8 v9 v10 v12 v13 v14 v15 v16 v17 → ∀ (H : Heap) (locs : List Loc) (ls : Array Slot), va_P X.1 vwCl ([(a_ag, eI X 15 ag), (a_ae, eI X 50 ae), (a_ax, eI X 60 ax), (a_ay, eI X 22 ay)] ++ wo X ad sg) H → va_D A ([(a_ag, eI X 15 ag), (a_ae, eI X 50 ae), (a_ax, eI X 60 ax), (a_ay, eI X 22 ay)] ++ wo X ad sg) → va_S A s.heap H locs → lv_has ls 23 [(0, .ref (ad 0)), (1, .ref a_ag), (2, .ref a_ae), (3, .ref a_ax), (4, .ref a_ay), (5, .int (iI v5)), (6, .int (iI v6)), (7, .int (iI v7)), (8, .int (iI v8)), (9, .int (iI v9)), (10, .int (iI v10)), (12, .int (iI v12)), (13, .int (iI v13)), (14, .int (iI v14)), (15, .int (iI v15)), (16, .int (iI v16)), (17, .int (iI v17))] → W p l e rmL_isSo s m args below meth c H locs 1 6 Q (F0 m 475 ls []) := by
    intro k154 hk154 ax ay v5 v6 v7 v8 v9 v10 v12 v13 v14 v15 v16 v17 h H locs ls hP hD hS hl
    refine lv_iconst (v := iI 0) hx hb dL_isSo_475 rfl ?_
    refine W.widen (k := 1) (n := 6) (Nat.le_of_ble_eq_true rfl) (Nat.le_of_ble_eq_true rfl) ?_
    exact B476 k154 hk154 ax ay v5 v6 v7 v8 v9 v10 v12 v13 v14 v15 v16 v17 0 h _ _ _ hP hD hS (lv_sub hl [0, 1, 2, 3, 4, 5, 6, 7, 8, 9, 10, 11, 12, 13, 14, 15, 16] rfl)
  have B446 : ∀ (k154 : (Nat → Int) → (Nat → Int) → Int → Int → Int → Int → Int → Int → Int → Int → Int → Prop) (hk154 : ∀ (ax : Nat → Int) (ay : Nat → Int) (v5 : Int) (v6 : Int) (v7 : Int) (v8 : Int) (v9 : Int) (v10 : Int) (v11 : Int) (v12 : Int) (v13 : Int), k154 ax ay v5 v6 v7 v8 v9 v10 v11 v12 v13 → ∀ (H : Heap) (locs : List Loc) (ls : Array Slot), va_P X.1 vwCl ([(a_ag, eI X 15 ag), (a_ae, eI X 50 ae), (a_ax, eI X 60 ax), (a_ay, eI X 22 ay)] ++ wo X ad sg) H → va_D A ([(a_ag, eI X 15 ag), (a_ae, eI X 50 ae), (a_ax, eI X 60 ax), (a_ay, eI X 22 ay)] ++ wo X ad sg) → va_S A s.heap H locs → lv_has ls 23 [(0, .ref (ad 0)), (1, .ref a_ag), (2, .ref a_ae), (3, .ref a_ax), (4, .ref a_ay), (5, .int (iI v5)), (6, .int (iI v6)), (7, .int (iI v7)), (8, .int (iI v8)), (9, .int (iI v9)), (10, .int (iI v10)), (11, .int (iI v11)), (12, .int (iI v12)), (13, .int (iI v13))] → W p l e rmL_isSo s m args below meth c H locs 1 6 Q (F0 m 154 ls [])) (ax : Nat → Int) (ay : Nat → Int) (v5 : Int) (v6 : Int) (v7 : Int) (v8 : Int) (v9 : Int) (v10 : Int) (v12 : Int) (v13 : Int) (v14 : Int) (v15 : Int) (v16 : Int) (v17 : Int) (w0 : Int) (w1 : Int), wpL_isSo_446 ag ae sg post k154 ax ay v5 v6 v7 v8 v9 v10 v12 v13 v14 v15 v16 v17 w0 w1 → ∀ (H : Heap) (locs : List Loc) (ls : Array Slot), va_P X.1 vwCl ([(a_ag, eI X 15 ag), (a_ae, eI X 50 ae), (a_ax, eI X 60 ax), (a_ay, eI X 22 ay)] ++ wo X ad sg) H → va_D A ([(a_ag, eI X 15 ag), (a_ae, eI X 50 ae), (a_ax, eI X 60 ax), (a_ay, eI X 22 ay)] ++ wo X ad sg) → va_S A s.heap H locs → lv_has ls 23 [(0, .ref (ad 0)), (1, .ref a_ag), (2, .ref a_ae), (3, .ref a_ax), (4, .ref a_ay), (5, .int (iI v5)), (6, .int (iI v6)), (7, .int (iI v7)), (8, .int (iI v8)), (9, .int (iI v9)), (10, .int (iI v10)), (12, .int (iI v12)), (13, .int (iI v13)), (14, .int (iI v14)), (15, .int (iI v15)), (16, .int (iI v16)), (17, .int (iI v17))] → W p l e rmL_isSo s m args below meth c H locs 1 6 Q (F0 m 446 ls [.int (iI w0), .int (iI w1)]) := by
    intro k154 hk154 ax ay v5 v6 v7 v8 v9 v10 v12 v13 v14 v15 v16 v17 w0 w1 h H locs ls hP hD hS hl
    refine i_cmp_ne (tgt := 475) hx hb h.1 h.2.1 dL_isSo_446 (by decide) (fun c1 => ?_) (fun c1 => ?_)
    · have h := h.2.2.1 c1
      refine W.widen (k := 1) (n := 6) (Nat.le_of_ble_eq_true rfl) (Nat.le_of_ble_eq_true rfl) ?_
      exact B475 k154 hk154 ax ay v5 v6 v7 v8 v9 v10 v12 v13 v14 v15 v16 v17 h _ _ _ hP hD hS (lv_sub hl [0, 1, 2, 3, 4, 5, 6, 7, 8, 9, 10, 11, 12, 13, 14, 15, 16] rfl)
    · have h := h.2.2.2 c1
      refine lv_aload_n hx hb dL_isSo_449 rfl (lv_at hl 0 rfl) ?_
      refine lv_iload hx hb dL_isSo_450 (lv_at hl 12 rfl) ?_
      refine lv_bipush (v := iI 11) hx hb dL_isSo_452 (by decide +kernel) ?_
      refine t_i (xs := [(a_ag, eI X 15 ag), (a_ae, eI X 50 ae), (a_ax, eI X 60 ax), (a_ay, eI X 22 ay)]) (isR := [0, 1, 2, 3]) (vx_runSW (As := [.ref (ad 0), .int (iI v13), .int (iI 11)]) (rest := []) ⟨hx, hb, hml, hown, hts⟩ (kL_lineOf0 l X ad sg v13 11 _ h _) (vx_cwSW 3 hts gL_isSo_L_lineOf rfl rfl rfl (by decide +kernel) ⟨(Nat.le_of_ble_eq_true rfl), (Nat.le_of_ble_eq_true rfl)⟩) ⟨pre_blind, pre_cutP hE hK hA hP hD hS⟩ rfl rfl hl.1 rfl (lv_room (Nat.le_of_ble_eq_true rfl)) dL_isSo_454 ⟨(Nat.le_of_ble_eq_true rfl), (Nat.le_of_ble_eq_true rfl)⟩) hA hP hD hS rfl (by decide +kernel) (fun z3 u3 H locs h hP hD hS => ?_)
      have hP : va_P X.1 vwCl ([(a_ag, eI X 15 ag), (a_ae, eI X 50 ae), (a_ax, eI X 60 ax), (a_ay, eI X 22 ay)] ++ wo X ad sg) H := hP
      have hD : va_D A ([(a_ag, eI X 15 ag), (a_ae, eI X 50 ae), (a_ax, eI X 60 ax), (a_ay, eI X 22 ay)] ++ wo X ad sg) := hD
      refine lv_aload_n hx hb dL_isSo_457 rfl (lv_at hl 1 rfl) ?_
      refine lv_aload_n hx hb dL_isSo_458 rfl (lv_at hl 2 rfl) ?_
      refine lv_aload_n hx hb dL_isSo_459 rfl (lv_at hl 1 rfl) ?_
      refine lv_iconst (v := iI 0) hx hb dL_isSo_460 rfl ?_
      refine i_ald hx hb hK hP 0 0 rfl rfl (by decide) (by decide) rfl (Nat.le_of_ble_eq_true rfl) dL_isSo_461 ?_
      refine lv_aload_n hx hb dL_isSo_462 rfl (lv_at hl 3 rfl) ?_
      refine lv_iload hx hb dL_isSo_463 (lv_at hl 12 rfl) ?_
      refine u_i (xs := [(a_ag, eI X 15 ag), (a_ae, eI X 50 ae), (a_ax, eI X 60 ax), (a_ay, eI X 22 ay)]) (isC := [0, 1, 2]) (isR := [3]) (wr := [(a_ay, eI X 22 ay)]) (va_runS (As := [.ref a_ag, .ref a_ae, .int (iI (ag 0)), .ref a_ax, .int (iI v13)]) (rest := [.int (iI z3)]) ⟨hx, hb, hml, hown, hts⟩ (kL_empty l X a_ag a_ae a_ax ag ae ax (ag 0) v13 _ h _) (va_cwS 5 hts gL_isSo_L_empty rfl rfl rfl (by decide +kernel) ⟨(Nat.le_of_ble_eq_true rfl), (Nat.le_of_ble_eq_true rfl)⟩) ⟨pre_blind, pre_cutQ hE hK hA hP hD hS (isC := [0, 1, 2]) rfl rfl⟩ rfl rfl hl.1 rfl (lv_room (Nat.le_of_ble_eq_true rfl)) dL_isSo_465 ⟨(Nat.le_of_ble_eq_true rfl), (Nat.le_of_ble_eq_true rfl)⟩) hA hP hD hS rfl rfl (by decide +kernel) (by decide +kernel) (fun z4 u4 H locs h hP hD hS => ?_)
      have hP : va_P X.1 vwCl ([(a_ay, eI X 22 ay), (a_ag, eI X 15 ag), (a_ae, eI X 50 ae), (a_ax, eI X 60 ax)] ++ wo X ad sg) H := hP
      have hD : va_D A ([(a_ay, eI X 22 ay), (a_ag, eI X 15 ag), (a_ae, eI X 50 ae), (a_ax, eI X 60 ax)] ++ wo X ad sg) := hD
      refine i_cmp_ne (tgt := 475) hx hb h.1 h.2.1 dL_isSo_468 (by decide) (fun c5 => ?_) (fun c5 => ?_)
      · have h := h.2.2.1 c5
        have hP := va_P.subT (ws' := [(a_ag, eI X 15 ag), (a_ae, eI X 50 ae), (a_ax, eI X 60 ax), (a_ay, eI X 22 ay)]) [1, 2, 3, 0] rfl hP
        have hD := va_D.subT (ws' := [(a_ag, eI X 15 ag), (a_ae, eI X 50 ae), (a_ax, eI X 60 ax), (a_ay, eI X 22 ay)]) [1, 2, 3, 0] (by decide +kernel) rfl hD
        refine W.widen (k := 1) (n := 6) (Nat.le_of_ble_eq_true rfl) (Nat.le_of_ble_eq_true rfl) ?_
        exact B475 k154 hk154 ax ay v5 v6 v7 v8 v9 v10 v12 v13 v14 v15 v16 v17 h _ _ _ hP hD hS (lv_sub hl [0, 1, 2, 3, 4, 5, 6, 7, 8, 9, 10, 11, 12, 13, 14, 15, 16] rfl)
      · have h := h.2.2.2 c5
        refine lv_iconst (v := iI 1) hx hb dL_isSo_471 rfl ?_
        refine lv_goto (tgt := 476) hx hb dL_isSo_472 (by decide) ?_
        have hP := va_P.subT (ws' := [(a_ag, eI X 15 ag), (a_ae, eI X 50 ae), (a_ax, eI X 60 ax), (a_ay, eI X 22 ay)]) [1, 2, 3, 0] rfl hP
        have hD := va_D.subT (ws' := [(a_ag, eI X 15 ag), (a_ae, eI X 50 ae), (a_ax, eI X 60 ax), (a_ay, eI X 22 ay)]) [1, 2, 3, 0] (by decide +kernel) rfl hD
        refine W.widen (k := 1) (n := 6) (Nat.le_of_ble_eq_true rfl) (Nat.le_of_ble_eq_true rfl) ?_
        exact B476 k154 hk154 ax ay v5 v6 v7 v8 v9 v10 v12 v13 v14 v15 v16 v17 1 h _ _ _ hP hD hS (lv_sub hl [0, 1, 2, 3, 4, 5, 6, 7, 8, 9, 10, 11, 12, 13, 14, 15, 16] rfl)
  have B245 : ∀ (k154 : (Nat → Int) → (Nat → Int) → Int → Int → Int → Int → Int → Int → Int → Int → Int → Prop) (hk154 : ∀ (ax : Nat → Int) (ay : Nat → Int) (v5 : Int) (v6 : Int) (v7 : Int) (v8 : Int) (v9 : Int) (v10 : Int) (v11 : Int) (v12 : Int) (v13 : Int), k154 ax ay v5 v6 v7 v8 v9 v10 v11 v12 v13 → ∀ (H : Heap) (locs : List Loc) (ls : Array Slot), va_P X.1 vwCl ([(a_ag, eI X 15 ag), (a_ae, eI X 50 ae), (a_ax, eI X 60 ax), (a_ay, eI X 22 ay)] ++ wo X ad sg) H → va_D A ([(a_ag, eI X 15 ag), (a_ae, eI X 50 ae), (a_ax, eI X 60 ax), (a_ay, eI X 22 ay)] ++ wo X ad sg) → va_S A s.heap H locs → lv_has ls 23 [(0, .ref (ad 0)), (1, .ref a_ag), (2, .ref a_ae), (3, .ref a_ax), (4, .ref a_ay), (5, .int (iI v5)), (6, .int (iI v6)), (7, .int (iI v7)), (8, .int (iI v8)), (9, .int (iI v9)), (10, .int (iI v10)), (11, .int (iI v11)), (12, .int (iI v12)), (13, .int (iI v13))] → W p l e rmL_isSo s m args below meth c H locs 1 6 Q (F0 m 154 ls [])) (ax : Nat → Int) (ay : Nat → Int) (v5 : Int) (v6 : Int) (v7 : Int) (v8 : Int) (v9 : Int) (v10 : Int) (v13 : Int) (v14 : Int) (v15 : Int) (v16 : Int) (v17 : Int) (v18 : Int) (w0 : Int), wpL_isSo_245 ag ae sg post k154 ax ay v5 v6 v7 v8 v9 v10 v13 v14 v15 v16 v17 v18 w0 → ∀ (H : Heap) (locs : List Loc) (ls : Array Slot), va_P X.1 vwCl ([(a_ag, eI X 15 ag), (a_ae, eI X 50 ae), (a_ax, eI X 60 ax), (a_ay, eI X 22 ay)] ++ wo X ad sg) H → va_D A ([(a_ag, eI X 15 ag), (a_ae, eI X 50 ae), (a_ax, eI X 60 ax), (a_ay, eI X 22 ay)] ++ wo X ad sg) → va_S A s.heap H locs → lv_has ls 23 [(0, .ref (ad 0)), (1, .ref a_ag), (2, .ref a_ae), (3, .ref a_ax), (4, .ref a_ay), (5, .int (iI v5)), (6, .int (iI v6)), (7, .int (iI v7)), (8, .int (iI v8)), (9, .int (iI v9)), (10, .int (iI v10)), (13, .int (iI v13)), (14, .int (iI v14)), (15, .int (iI v15)), (16, .int (iI v16)), (17, .int (iI v17)), (18, .int (iI v18))] → W p l e rmL_isSo s m args below meth c H locs 1 6 Q (F0 m 245 ls [.int (iI w0)]) := by
    intro k154 hk154 ax ay v5 v6 v7 v8 v9 v10 v13 v14 v15 v16 v17 v18 w0 h H locs ls hP hD hS hl
    refine lv_aload_n hx hb dL_isSo_245 rfl (lv_at hl 3 rfl) ?_
    refine lv_iload hx hb dL_isSo_246 (lv_at hl 12 rfl) ?_
    refine lv_iconst (v := iI 2) hx hb dL_isSo_248 rfl ?_
    refine i_add hx hb dL_isSo_249 ?_
    refine i_ald hx hb hK hP 2 0 rfl rfl h.1 h.2.1 rfl (Nat.le_of_ble_eq_true rfl) dL_isSo_250 ?_
    have h := h.2.2
    refine i_add hx hb dL_isSo_251 ?_
    refine lv_aload_n hx hb dL_isSo_252 rfl (lv_at hl 3 rfl) ?_
    refine lv_iload hx hb dL_isSo_253 (lv_at hl 12 rfl) ?_
    refine lv_iconst (v := iI 3) hx hb dL_isSo_255 rfl ?_
    refine i_add hx hb dL_isSo_256 ?_
    refine i_ald hx hb hK hP 2 0 rfl rfl h.1 h.2.1 rfl (Nat.le_of_ble_eq_true rfl) dL_isSo_257 ?_
    have h := h.2.2
    refine i_add hx hb dL_isSo_258 ?_
    refine lv_aload_n hx hb dL_isSo_259 rfl (lv_at hl 3 rfl) ?_
    refine lv_iload hx hb dL_isSo_260 (lv_at hl 12 rfl) ?_
    refine lv_iconst (v := iI 4) hx hb dL_isSo_262 rfl ?_
    refine i_add hx hb dL_isSo_263 ?_
    refine i_ald hx hb hK hP 2 0 rfl rfl h.1 h.2.1 rfl (Nat.le_of_ble_eq_true rfl) dL_isSo_264 ?_
    have h := h.2.2
    refine i_sub hx hb dL_isSo_265 ?_
    refine lv_istore (lv' := [(12, .int (iI (((w0 + ax (v14 + 2).toNat) + ax (v14 + 3).toNat) - ax (v14 + 4).toNat))), (0, .ref (ad 0)), (1, .ref a_ag), (2, .ref a_ae), (3, .ref a_ax), (4, .ref a_ay), (5, .int (iI v5)), (6, .int (iI v6)), (7, .int (iI v7)), (8, .int (iI v8)), (9, .int (iI v9)), (10, .int (iI v10)), (13, .int (iI v13)), (14, .int (iI v14)), (15, .int (iI v15)), (16, .int (iI v16)), (17, .int (iI v17)), (18, .int (iI v18))]) hx hb dL_isSo_266 hl (by decide) rfl (fun ls hl => ?_)
    refine lv_aload_n hx hb dL_isSo_268 rfl (lv_at hl 2 rfl) ?_
    refine lv_aload_n hx hb dL_isSo_269 rfl (lv_at hl 3 rfl) ?_
    refine lv_iload hx hb dL_isSo_270 (lv_at hl 15 rfl) ?_
    refine lv_iload hx hb dL_isSo_272 (lv_at hl 16 rfl) ?_
    refine i_add hx hb dL_isSo_274 ?_
    refine lv_iconst (v := iI 1) hx hb dL_isSo_275 rfl ?_
    refine i_sub hx hb dL_isSo_276 ?_
    refine u_i (xs := [(a_ag, eI X 15 ag), (a_ae, eI X 50 ae), (a_ax, eI X 60 ax), (a_ay, eI X 22 ay)]) (isC := [0, 1]) (isR := [2, 3]) (wr := [(a_ax, eI X 60 ax), (a_ay, eI X 22 ay)]) (va_runS (As := [.ref a_ag, .ref a_ae, .int (iI ((v16 + v17) - 1))]) (rest := []) ⟨hx, hb, hml, hown, hts⟩ (kL_closes l X a_ag a_ae ag ae ((v16 + v17) - 1) _ h _) (va_cwS 3 hts gL_isSo_L_closes rfl rfl rfl (by decide +kernel) ⟨(Nat.le_of_ble_eq_true rfl), (Nat.le_of_ble_eq_true rfl)⟩) ⟨pre_blind, pre_cutQ hE hK hA hP hD hS (isC := [0, 1]) rfl rfl⟩ rfl rfl hl.1 rfl (lv_room (Nat.le_of_ble_eq_true rfl)) dL_isSo_277 ⟨(Nat.le_of_ble_eq_true rfl), (Nat.le_of_ble_eq_true rfl)⟩) hA hP hD hS rfl rfl (by decide +kernel) (by decide +kernel) (fun z1 u1 H locs h hP hD hS => ?_)
    have hP : va_P X.1 vwCl ([(a_ax, eI X 60 ax), (a_ay, eI X 22 ay), (a_ag, eI X 15 ag), (a_ae, eI X 50 ae)] ++ wo X ad sg) H := hP
    have hD : va_D A ([(a_ax, eI X 60 ax), (a_ay, eI X 22 ay), (a_ag, eI X 15 ag), (a_ae, eI X 50 ae)] ++ wo X ad sg) := hD
    refine lv_istore (lv' := [(20, .int (iI z1)), (12, .int (iI (((w0 + ax (v14 + 2).toNat) + ax (v14 + 3).toNat) - ax (v14 + 4).toNat))), (0, .ref (ad 0)), (1, .ref a_ag), (2, .ref a_ae), (3, .ref a_ax), (4, .ref a_ay), (5, .int (iI v5)), (6, .int (iI v6)), (7, .int (iI v7)), (8, .int (iI v8)), (9, .int (iI v9)), (10, .int (iI v10)), (13, .int (iI v13)), (14, .int (iI v14)), (15, .int (iI v15)), (16, .int (iI v16)), (17, .int (iI v17)), (18, .int (iI v18))]) hx hb dL_isSo_280 hl (by decide) rfl (fun ls hl => ?_)
    refine lv_aload_n hx hb dL_isSo_282 rfl (lv_at hl 2 rfl) ?_
    refine lv_iload hx hb dL_isSo_283 (lv_at hl 13 rfl) ?_
    refine lv_iconst (v := iI 0) hx hb dL_isSo_285 rfl ?_
    refine t_i (xs := [(a_ax, eI X 60 ax), (a_ay, eI X 22 ay), (a_ag, eI X 15 ag), (a_ae, eI X 50 ae)]) (isR := [0, 1, 2, 3]) (vx_runSW (As := [.ref (ad 0), .int (iI v13), .int (iI 0)]) (rest := []) ⟨hx, hb, hml, hown, hts⟩ (kL_lineOf0 l X ad sg v13 0 _ h _) (vx_cwSW 3 hts gL_isSo_L_lineOf rfl rfl rfl (by decide +kernel) ⟨(Nat.le_of_ble_eq_true rfl), (Nat.le_of_ble_eq_true rfl)⟩) ⟨pre_blind, pre_cutP hE hK hA hP hD hS⟩ rfl rfl hl.1 rfl (lv_room (Nat.le_of_ble_eq_true rfl)) dL_isSo_286 ⟨(Nat.le_of_ble_eq_true rfl), (Nat.le_of_ble_eq_true rfl)⟩) hA hP hD hS rfl (by decide +kernel) (fun z3 u3 H locs h hP hD hS => ?_)
    have hP : va_P X.1 vwCl ([(a_ax, eI X 60 ax), (a_ay, eI X 22 ay), (a_ag, eI X 15 ag), (a_ae, eI X 50 ae)] ++ wo X ad sg) H := hP
    have hD : va_D A ([(a_ax, eI X 60 ax), (a_ay, eI X 22 ay), (a_ag, eI X 15 ag), (a_ae, eI X 50 ae)] ++ wo X ad sg) := hD
    refine lv_iload hx hb dL_isSo_289 (lv_at hl 15 rfl) ?_
    refine i_cmp_ne (tgt := 475) hx hb h.1 h.2.1 dL_isSo_291 (by decide) (fun c4 => ?_) (fun c4 => ?_)
    · have h := h.2.2.1 c4
      have hP := va_P.subT (ws' := [(a_ag, eI X 15 ag), (a_ae, eI X 50 ae), (a_ax, eI X 60 ax), (a_ay, eI X 22 ay)]) [2, 3, 0, 1] rfl hP
      have hD := va_D.subT (ws' := [(a_ag, eI X 15 ag), (a_ae, eI X 50 ae), (a_ax, eI X 60 ax), (a_ay, eI X 22 ay)]) [2, 3, 0, 1] (by decide +kernel) rfl hD
      refine W.widen (k := 1) (n := 6) (Nat.le_of_ble_eq_true rfl) (Nat.le_of_ble_eq_true rfl) ?_
      exact B475 k154 hk154 ax ay v5 v6 v7 v8 v9 v10 (((w0 + ax (v14 + 2).toNat) + ax (v14 + 3).toNat) - ax (v14 + 4).toNat) v13 v14 v15 v16 v17 h _ _ _ hP hD hS (lv_sub hl [2, 3, 4, 5, 6, 7, 8, 9, 10, 11, 12, 1, 13, 14, 15, 16, 17] rfl)
    · have h := h.2.2.2 c4
      refine lv_aload_n hx hb dL_isSo_294 rfl (lv_at hl 2 rfl) ?_
      refine lv_iload hx hb dL_isSo_295 (lv_at hl 13 rfl) ?_
      refine lv_iconst (v := iI 1) hx hb dL_isSo_297 rfl ?_
      refine t_i (xs := [(a_ax, eI X 60 ax), (a_ay, eI X 22 ay), (a_ag, eI X 15 ag), (a_ae, eI X 50 ae)]) (isR := [0, 1, 2, 3]) (vx_runSW (As := [.ref (ad 0), .int (iI v13), .int (iI 1)]) (rest := []) ⟨hx, hb, hml, hown, hts⟩ (kL_lineOf0 l X ad sg v13 1 _ h _) (vx_cwSW 3 hts gL_isSo_L_lineOf rfl rfl rfl (by decide +kernel) ⟨(Nat.le_of_ble_eq_true rfl), (Nat.le_of_ble_eq_true rfl)⟩) ⟨pre_blind, pre_cutP hE hK hA hP hD hS⟩ rfl rfl hl.1 rfl (lv_room (Nat.le_of_ble_eq_true rfl)) dL_isSo_298 ⟨(Nat.le_of_ble_eq_true rfl), (Nat.le_of_ble_eq_true rfl)⟩) hA hP hD hS rfl (by decide +kernel) (fun z6 u6 H locs h hP hD hS => ?_)
      have hP : va_P X.1 vwCl ([(a_ax, eI X 60 ax), (a_ay, eI X 22 ay), (a_ag, eI X 15 ag), (a_ae, eI X 50 ae)] ++ wo X ad sg) H := hP
      have hD : va_D A ([(a_ax, eI X 60 ax), (a_ay, eI X 22 ay), (a_ag, eI X 15 ag), (a_ae, eI X 50 ae)] ++ wo X ad sg) := hD
      refine lv_iload hx hb dL_isSo_301 (lv_at hl 16 rfl) ?_
      refine i_cmp_ne (tgt := 475) hx hb h.1 h.2.1 dL_isSo_303 (by decide) (fun c7 => ?_) (fun c7 => ?_)
      · have h := h.2.2.1 c7
        have hP := va_P.subT (ws' := [(a_ag, eI X 15 ag), (a_ae, eI X 50 ae), (a_ax, eI X 60 ax), (a_ay, eI X 22 ay)]) [2, 3, 0, 1] rfl hP
        have hD := va_D.subT (ws' := [(a_ag, eI X 15 ag), (a_ae, eI X 50 ae), (a_ax, eI X 60 ax), (a_ay, eI X 22 ay)]) [2, 3, 0, 1] (by decide +kernel) rfl hD
        refine W.widen (k := 1) (n := 6) (Nat.le_of_ble_eq_true rfl) (Nat.le_of_ble_eq_true rfl) ?_
        exact B475 k154 hk154 ax ay v5 v6 v7 v8 v9 v10 (((w0 + ax (v14 + 2).toNat) + ax (v14 + 3).toNat) - ax (v14 + 4).toNat) v13 v14 v15 v16 v17 h _ _ _ hP hD hS (lv_sub hl [2, 3, 4, 5, 6, 7, 8, 9, 10, 11, 12, 1, 13, 14, 15, 16, 17] rfl)
      · have h := h.2.2.2 c7
        refine lv_aload_n hx hb dL_isSo_306 rfl (lv_at hl 2 rfl) ?_
        refine lv_iload hx hb dL_isSo_307 (lv_at hl 13 rfl) ?_
        refine lv_iconst (v := iI 2) hx hb dL_isSo_309 rfl ?_
        refine t_i (xs := [(a_ax, eI X 60 ax), (a_ay, eI X 22 ay), (a_ag, eI X 15 ag), (a_ae, eI X 50 ae)]) (isR := [0, 1, 2, 3]) (vx_runSW (As := [.ref (ad 0), .int (iI v13), .int (iI 2)]) (rest := []) ⟨hx, hb, hml, hown, hts⟩ (kL_lineOf0 l X ad sg v13 2 _ h _) (vx_cwSW 3 hts gL_isSo_L_lineOf rfl rfl rfl (by decide +kernel) ⟨(Nat.le_of_ble_eq_true rfl), (Nat.le_of_ble_eq_true rfl)⟩) ⟨pre_blind, pre_cutP hE hK hA hP hD hS⟩ rfl rfl hl.1 rfl (lv_room (Nat.le_of_ble_eq_true rfl)) dL_isSo_310 ⟨(Nat.le_of_ble_eq_true rfl), (Nat.le_of_ble_eq_true rfl)⟩) hA hP hD hS rfl (by decide +kernel) (fun z9 u9 H locs h hP hD hS => ?_)
        have hP : va_P X.1 vwCl ([(a_ax, eI X 60 ax), (a_ay, eI X 22 ay), (a_ag, eI X 15 ag), (a_ae, eI X 50 ae)] ++ wo X ad sg) H := hP
        have hD : va_D A ([(a_ax, eI X 60 ax), (a_ay, eI X 22 ay), (a_ag, eI X 15 ag), (a_ae, eI X 50 ae)] ++ wo X ad sg) := hD
        refine lv_iload hx hb dL_isSo_313 (lv_at hl 17 rfl) ?_
        refine i_cmp_ne (tgt := 475) hx hb h.1 h.2.1 dL_isSo_315 (by decide) (fun c10 => ?_) (fun c10 => ?_)
        · have h := h.2.2.1 c10
          have hP := va_P.subT (ws' := [(a_ag, eI X 15 ag), (a_ae, eI X 50 ae), (a_ax, eI X 60 ax), (a_ay, eI X 22 ay)]) [2, 3, 0, 1] rfl hP
          have hD := va_D.subT (ws' := [(a_ag, eI X 15 ag), (a_ae, eI X 50 ae), (a_ax, eI X 60 ax), (a_ay, eI X 22 ay)]) [2, 3, 0, 1] (by decide +kernel) rfl hD
          refine W.widen (k := 1) (n := 6) (Nat.le_of_ble_eq_true rfl) (Nat.le_of_ble_eq_true rfl) ?_
          exact B475 k154 hk154 ax ay v5 v6 v7 v8 v9 v10 (((w0 + ax (v14 + 2).toNat) + ax (v14 + 3).toNat) - ax (v14 + 4).toNat) v13 v14 v15 v16 v17 h _ _ _ hP hD hS (lv_sub hl [2, 3, 4, 5, 6, 7, 8, 9, 10, 11, 12, 1, 13, 14, 15, 16, 17] rfl)
        · have h := h.2.2.2 c10
          refine lv_aload_n hx hb dL_isSo_318 rfl (lv_at hl 2 rfl) ?_
          refine lv_iload hx hb dL_isSo_319 (lv_at hl 13 rfl) ?_
          refine lv_iconst (v := iI 3) hx hb dL_isSo_321 rfl ?_
          refine t_i (xs := [(a_ax, eI X 60 ax), (a_ay, eI X 22 ay), (a_ag, eI X 15 ag), (a_ae, eI X 50 ae)]) (isR := [0, 1, 2, 3]) (vx_runSW (As := [.ref (ad 0), .int (iI v13), .int (iI 3)]) (rest := []) ⟨hx, hb, hml, hown, hts⟩ (kL_lineOf0 l X ad sg v13 3 _ h _) (vx_cwSW 3 hts gL_isSo_L_lineOf rfl rfl rfl (by decide +kernel) ⟨(Nat.le_of_ble_eq_true rfl), (Nat.le_of_ble_eq_true rfl)⟩) ⟨pre_blind, pre_cutP hE hK hA hP hD hS⟩ rfl rfl hl.1 rfl (lv_room (Nat.le_of_ble_eq_true rfl)) dL_isSo_322 ⟨(Nat.le_of_ble_eq_true rfl), (Nat.le_of_ble_eq_true rfl)⟩) hA hP hD hS rfl (by decide +kernel) (fun z12 u12 H locs h hP hD hS => ?_)
          have hP : va_P X.1 vwCl ([(a_ax, eI X 60 ax), (a_ay, eI X 22 ay), (a_ag, eI X 15 ag), (a_ae, eI X 50 ae)] ++ wo X ad sg) H := hP
          have hD : va_D A ([(a_ax, eI X 60 ax), (a_ay, eI X 22 ay), (a_ag, eI X 15 ag), (a_ae, eI X 50 ae)] ++ wo X ad sg) := hD
          refine lv_aload_n hx hb dL_isSo_325 rfl (lv_at hl 4 rfl) ?_
          refine lv_iload hx hb dL_isSo_326 (lv_at hl 16 rfl) ?_
          refine lv_iload hx hb dL_isSo_328 (lv_at hl 17 rfl) ?_
          refine u_i (xs := [(a_ax, eI X 60 ax), (a_ay, eI X 22 ay), (a_ag, eI X 15 ag), (a_ae, eI X 50 ae)]) (isC := [3]) (isR := [0, 1, 2]) (wr := [(a_ax, eI X 60 ax), (a_ay, eI X 22 ay), (a_ag, eI X 15 ag)]) (va_runS (As := [.ref a_ae, .int (iI v16), .int (iI v17)]) (rest := [.int (iI z12)]) ⟨hx, hb, hml, hown, hts⟩ (kL_natural l X a_ae ae v16 v17 _ h _) (va_cwS 3 hts gL_isSo_L_natural rfl rfl rfl (by decide +kernel) ⟨(Nat.le_of_ble_eq_true rfl), (Nat.le_of_ble_eq_true rfl)⟩) ⟨pre_blind, pre_cutQ hE hK hA hP hD hS (isC := [3]) rfl rfl⟩ rfl rfl hl.1 rfl (lv_room (Nat.le_of_ble_eq_true rfl)) dL_isSo_330 ⟨(Nat.le_of_ble_eq_true rfl), (Nat.le_of_ble_eq_true rfl)⟩) hA hP hD hS rfl rfl (by decide +kernel) (by decide +kernel) (fun z13 u13 H locs h hP hD hS => ?_)
          have hP : va_P X.1 vwCl ([(a_ax, eI X 60 ax), (a_ay, eI X 22 ay), (a_ag, eI X 15 ag), (a_ae, eI X 50 ae)] ++ wo X ad sg) H := hP
          have hD : va_D A ([(a_ax, eI X 60 ax), (a_ay, eI X 22 ay), (a_ag, eI X 15 ag), (a_ae, eI X 50 ae)] ++ wo X ad sg) := hD
          refine i_cmp_ne (tgt := 475) hx hb h.1 h.2.1 dL_isSo_333 (by decide) (fun c14 => ?_) (fun c14 => ?_)
          · have h := h.2.2.1 c14
            have hP := va_P.subT (ws' := [(a_ag, eI X 15 ag), (a_ae, eI X 50 ae), (a_ax, eI X 60 ax), (a_ay, eI X 22 ay)]) [2, 3, 0, 1] rfl hP
            have hD := va_D.subT (ws' := [(a_ag, eI X 15 ag), (a_ae, eI X 50 ae), (a_ax, eI X 60 ax), (a_ay, eI X 22 ay)]) [2, 3, 0, 1] (by decide +kernel) rfl hD
            refine W.widen (k := 1) (n := 6) (Nat.le_of_ble_eq_true rfl) (Nat.le_of_ble_eq_true rfl) ?_
            exact B475 k154 hk154 ax ay v5 v6 v7 v8 v9 v10 (((w0 + ax (v14 + 2).toNat) + ax (v14 + 3).toNat) - ax (v14 + 4).toNat) v13 v14 v15 v16 v17 h _ _ _ hP hD hS (lv_sub hl [2, 3, 4, 5, 6, 7, 8, 9, 10, 11, 12, 1, 13, 14, 15, 16, 17] rfl)
          · have h := h.2.2.2 c14
            refine lv_aload_n hx hb dL_isSo_336 rfl (lv_at hl 2 rfl) ?_
            refine lv_iload hx hb dL_isSo_337 (lv_at hl 13 rfl) ?_
            refine lv_iconst (v := iI 4) hx hb dL_isSo_339 rfl ?_
            refine t_i (xs := [(a_ax, eI X 60 ax), (a_ay, eI X 22 ay), (a_ag, eI X 15 ag), (a_ae, eI X 50 ae)]) (isR := [0, 1, 2, 3]) (vx_runSW (As := [.ref (ad 0), .int (iI v13), .int (iI 4)]) (rest := []) ⟨hx, hb, hml, hown, hts⟩ (kL_lineOf0 l X ad sg v13 4 _ h _) (vx_cwSW 3 hts gL_isSo_L_lineOf rfl rfl rfl (by decide +kernel) ⟨(Nat.le_of_ble_eq_true rfl), (Nat.le_of_ble_eq_true rfl)⟩) ⟨pre_blind, pre_cutP hE hK hA hP hD hS⟩ rfl rfl hl.1 rfl (lv_room (Nat.le_of_ble_eq_true rfl)) dL_isSo_340 ⟨(Nat.le_of_ble_eq_true rfl), (Nat.le_of_ble_eq_true rfl)⟩) hA hP hD hS rfl (by decide +kernel) (fun z16 u16 H locs h hP hD hS => ?_)
            have hP : va_P X.1 vwCl ([(a_ax, eI X 60 ax), (a_ay, eI X 22 ay), (a_ag, eI X 15 ag), (a_ae, eI X 50 ae)] ++ wo X ad sg) H := hP
            have hD : va_D A ([(a_ax, eI X 60 ax), (a_ay, eI X 22 ay), (a_ag, eI X 15 ag), (a_ae, eI X 50 ae)] ++ wo X ad sg) := hD
            refine lv_iload hx hb dL_isSo_343 (lv_at hl 18 rfl) ?_
            refine i_cmp_ne (tgt := 475) hx hb h.1 h.2.1 dL_isSo_345 (by decide) (fun c17 => ?_) (fun c17 => ?_)
            · have h := h.2.2.1 c17
              have hP := va_P.subT (ws' := [(a_ag, eI X 15 ag), (a_ae, eI X 50 ae), (a_ax, eI X 60 ax), (a_ay, eI X 22 ay)]) [2, 3, 0, 1] rfl hP
              have hD := va_D.subT (ws' := [(a_ag, eI X 15 ag), (a_ae, eI X 50 ae), (a_ax, eI X 60 ax), (a_ay, eI X 22 ay)]) [2, 3, 0, 1] (by decide +kernel) rfl hD
              refine W.widen (k := 1) (n := 6) (Nat.le_of_ble_eq_true rfl) (Nat.le_of_ble_eq_true rfl) ?_
              exact B475 k154 hk154 ax ay v5 v6 v7 v8 v9 v10 (((w0 + ax (v14 + 2).toNat) + ax (v14 + 3).toNat) - ax (v14 + 4).toNat) v13 v14 v15 v16 v17 h _ _ _ hP hD hS (lv_sub hl [2, 3, 4, 5, 6, 7, 8, 9, 10, 11, 12, 1, 13, 14, 15, 16, 17] rfl)
            · have h := h.2.2.2 c17
              refine lv_aload_n hx hb dL_isSo_348 rfl (lv_at hl 2 rfl) ?_
              refine lv_iload hx hb dL_isSo_349 (lv_at hl 13 rfl) ?_
              refine lv_iconst (v := iI 5) hx hb dL_isSo_351 rfl ?_
              refine t_i (xs := [(a_ax, eI X 60 ax), (a_ay, eI X 22 ay), (a_ag, eI X 15 ag), (a_ae, eI X 50 ae)]) (isR := [0, 1, 2, 3]) (vx_runSW (As := [.ref (ad 0), .int (iI v13), .int (iI 5)]) (rest := []) ⟨hx, hb, hml, hown, hts⟩ (kL_lineOf0 l X ad sg v13 5 _ h _) (vx_cwSW 3 hts gL_isSo_L_lineOf rfl rfl rfl (by decide +kernel) ⟨(Nat.le_of_ble_eq_true rfl), (Nat.le_of_ble_eq_true rfl)⟩) ⟨pre_blind, pre_cutP hE hK hA hP hD hS⟩ rfl rfl hl.1 rfl (lv_room (Nat.le_of_ble_eq_true rfl)) dL_isSo_352 ⟨(Nat.le_of_ble_eq_true rfl), (Nat.le_of_ble_eq_true rfl)⟩) hA hP hD hS rfl (by decide +kernel) (fun z19 u19 H locs h hP hD hS => ?_)
              have hP : va_P X.1 vwCl ([(a_ax, eI X 60 ax), (a_ay, eI X 22 ay), (a_ag, eI X 15 ag), (a_ae, eI X 50 ae)] ++ wo X ad sg) H := hP
              have hD : va_D A ([(a_ax, eI X 60 ax), (a_ay, eI X 22 ay), (a_ag, eI X 15 ag), (a_ae, eI X 50 ae)] ++ wo X ad sg) := hD
              refine lv_aload_n hx hb dL_isSo_355 rfl (lv_at hl 5 rfl) ?_
              refine lv_iload hx hb dL_isSo_356 (lv_at hl 14 rfl) ?_
              refine lv_iconst (v := iI 2) hx hb dL_isSo_358 rfl ?_
              refine i_add hx hb dL_isSo_359 ?_
              refine i_ald hx hb hK hP 0 0 rfl rfl h.1 h.2.1 rfl (Nat.le_of_ble_eq_true rfl) dL_isSo_360 ?_
              have h := h.2.2
              refine i_cmp_ne (tgt := 475) hx hb h.1 h.2.1 dL_isSo_361 (by decide) (fun c20 => ?_) (fun c20 => ?_)
              · have h := h.2.2.1 c20
                have hP := va_P.subT (ws' := [(a_ag, eI X 15 ag), (a_ae, eI X 50 ae), (a_ax, eI X 60 ax), (a_ay, eI X 22 ay)]) [2, 3, 0, 1] rfl hP
                have hD := va_D.subT (ws' := [(a_ag, eI X 15 ag), (a_ae, eI X 50 ae), (a_ax, eI X 60 ax), (a_ay, eI X 22 ay)]) [2, 3, 0, 1] (by decide +kernel) rfl hD
                refine W.widen (k := 1) (n := 6) (Nat.le_of_ble_eq_true rfl) (Nat.le_of_ble_eq_true rfl) ?_
                exact B475 k154 hk154 ax ay v5 v6 v7 v8 v9 v10 (((w0 + ax (v14 + 2).toNat) + ax (v14 + 3).toNat) - ax (v14 + 4).toNat) v13 v14 v15 v16 v17 h _ _ _ hP hD hS (lv_sub hl [2, 3, 4, 5, 6, 7, 8, 9, 10, 11, 12, 1, 13, 14, 15, 16, 17] rfl)
              · have h := h.2.2.2 c20
                refine lv_aload_n hx hb dL_isSo_364 rfl (lv_at hl 2 rfl) ?_
                refine lv_iload hx hb dL_isSo_365 (lv_at hl 13 rfl) ?_
                refine lv_bipush (v := iI 6) hx hb dL_isSo_367 (by decide +kernel) ?_
                refine t_i (xs := [(a_ax, eI X 60 ax), (a_ay, eI X 22 ay), (a_ag, eI X 15 ag), (a_ae, eI X 50 ae)]) (isR := [0, 1, 2, 3]) (vx_runSW (As := [.ref (ad 0), .int (iI v13), .int (iI 6)]) (rest := []) ⟨hx, hb, hml, hown, hts⟩ (kL_lineOf0 l X ad sg v13 6 _ h _) (vx_cwSW 3 hts gL_isSo_L_lineOf rfl rfl rfl (by decide +kernel) ⟨(Nat.le_of_ble_eq_true rfl), (Nat.le_of_ble_eq_true rfl)⟩) ⟨pre_blind, pre_cutP hE hK hA hP hD hS⟩ rfl rfl hl.1 rfl (lv_room (Nat.le_of_ble_eq_true rfl)) dL_isSo_369 ⟨(Nat.le_of_ble_eq_true rfl), (Nat.le_of_ble_eq_true rfl)⟩) hA hP hD hS rfl (by decide +kernel) (fun z22 u22 H locs h hP hD hS => ?_)
                have hP : va_P X.1 vwCl ([(a_ax, eI X 60 ax), (a_ay, eI X 22 ay), (a_ag, eI X 15 ag), (a_ae, eI X 50 ae)] ++ wo X ad sg) H := hP
                have hD : va_D A ([(a_ax, eI X 60 ax), (a_ay, eI X 22 ay), (a_ag, eI X 15 ag), (a_ae, eI X 50 ae)] ++ wo X ad sg) := hD
                refine lv_aload_n hx hb dL_isSo_372 rfl (lv_at hl 5 rfl) ?_
                refine lv_iload hx hb dL_isSo_373 (lv_at hl 14 rfl) ?_
                refine lv_iconst (v := iI 3) hx hb dL_isSo_375 rfl ?_
                refine i_add hx hb dL_isSo_376 ?_
                refine i_ald hx hb hK hP 0 0 rfl rfl h.1 h.2.1 rfl (Nat.le_of_ble_eq_true rfl) dL_isSo_377 ?_
                have h := h.2.2
                refine i_cmp_ne (tgt := 475) hx hb h.1 h.2.1 dL_isSo_378 (by decide) (fun c23 => ?_) (fun c23 => ?_)
                · have h := h.2.2.1 c23
                  have hP := va_P.subT (ws' := [(a_ag, eI X 15 ag), (a_ae, eI X 50 ae), (a_ax, eI X 60 ax), (a_ay, eI X 22 ay)]) [2, 3, 0, 1] rfl hP
                  have hD := va_D.subT (ws' := [(a_ag, eI X 15 ag), (a_ae, eI X 50 ae), (a_ax, eI X 60 ax), (a_ay, eI X 22 ay)]) [2, 3, 0, 1] (by decide +kernel) rfl hD
                  refine W.widen (k := 1) (n := 6) (Nat.le_of_ble_eq_true rfl) (Nat.le_of_ble_eq_true rfl) ?_
                  exact B475 k154 hk154 ax ay v5 v6 v7 v8 v9 v10 (((w0 + ax (v14 + 2).toNat) + ax (v14 + 3).toNat) - ax (v14 + 4).toNat) v13 v14 v15 v16 v17 h _ _ _ hP hD hS (lv_sub hl [2, 3, 4, 5, 6, 7, 8, 9, 10, 11, 12, 1, 13, 14, 15, 16, 17] rfl)
                · have h := h.2.2.2 c23
                  refine lv_aload_n hx hb dL_isSo_381 rfl (lv_at hl 2 rfl) ?_
                  refine lv_iload hx hb dL_isSo_382 (lv_at hl 13 rfl) ?_
                  refine lv_bipush (v := iI 7) hx hb dL_isSo_384 (by decide +kernel) ?_
                  refine t_i (xs := [(a_ax, eI X 60 ax), (a_ay, eI X 22 ay), (a_ag, eI X 15 ag), (a_ae, eI X 50 ae)]) (isR := [0, 1, 2, 3]) (vx_runSW (As := [.ref (ad 0), .int (iI v13), .int (iI 7)]) (rest := []) ⟨hx, hb, hml, hown, hts⟩ (kL_lineOf0 l X ad sg v13 7 _ h _) (vx_cwSW 3 hts gL_isSo_L_lineOf rfl rfl rfl (by decide +kernel) ⟨(Nat.le_of_ble_eq_true rfl), (Nat.le_of_ble_eq_true rfl)⟩) ⟨pre_blind, pre_cutP hE hK hA hP hD hS⟩ rfl rfl hl.1 rfl (lv_room (Nat.le_of_ble_eq_true rfl)) dL_isSo_386 ⟨(Nat.le_of_ble_eq_true rfl), (Nat.le_of_ble_eq_true rfl)⟩) hA hP hD hS rfl (by decide +kernel) (fun z25 u25 H locs h hP hD hS => ?_)
                  have hP : va_P X.1 vwCl ([(a_ax, eI X 60 ax), (a_ay, eI X 22 ay), (a_ag, eI X 15 ag), (a_ae, eI X 50 ae)] ++ wo X ad sg) H := hP
                  have hD : va_D A ([(a_ax, eI X 60 ax), (a_ay, eI X 22 ay), (a_ag, eI X 15 ag), (a_ae, eI X 50 ae)] ++ wo X ad sg) := hD
                  refine lv_aload_n hx hb dL_isSo_389 rfl (lv_at hl 5 rfl) ?_
                  refine lv_iload hx hb dL_isSo_390 (lv_at hl 14 rfl) ?_
                  refine lv_iconst (v := iI 4) hx hb dL_isSo_392 rfl ?_
                  refine i_add hx hb dL_isSo_393 ?_
                  refine i_ald hx hb hK hP 0 0 rfl rfl h.1 h.2.1 rfl (Nat.le_of_ble_eq_true rfl) dL_isSo_394 ?_
                  have h := h.2.2
                  refine i_cmp_ne (tgt := 475) hx hb h.1 h.2.1 dL_isSo_395 (by decide) (fun c26 => ?_) (fun c26 => ?_)
                  · have h := h.2.2.1 c26
                    have hP := va_P.subT (ws' := [(a_ag, eI X 15 ag), (a_ae, eI X 50 ae), (a_ax, eI X 60 ax), (a_ay, eI X 22 ay)]) [2, 3, 0, 1] rfl hP
                    have hD := va_D.subT (ws' := [(a_ag, eI X 15 ag), (a_ae, eI X 50 ae), (a_ax, eI X 60 ax), (a_ay, eI X 22 ay)]) [2, 3, 0, 1] (by decide +kernel) rfl hD
                    refine W.widen (k := 1) (n := 6) (Nat.le_of_ble_eq_true rfl) (Nat.le_of_ble_eq_true rfl) ?_
                    exact B475 k154 hk154 ax ay v5 v6 v7 v8 v9 v10 (((w0 + ax (v14 + 2).toNat) + ax (v14 + 3).toNat) - ax (v14 + 4).toNat) v13 v14 v15 v16 v17 h _ _ _ hP hD hS (lv_sub hl [2, 3, 4, 5, 6, 7, 8, 9, 10, 11, 12, 1, 13, 14, 15, 16, 17] rfl)
                  · have h := h.2.2.2 c26
                    refine lv_aload_n hx hb dL_isSo_398 rfl (lv_at hl 2 rfl) ?_
                    refine lv_iload hx hb dL_isSo_399 (lv_at hl 13 rfl) ?_
                    refine lv_bipush (v := iI 8) hx hb dL_isSo_401 (by decide +kernel) ?_
                    refine t_i (xs := [(a_ax, eI X 60 ax), (a_ay, eI X 22 ay), (a_ag, eI X 15 ag), (a_ae, eI X 50 ae)]) (isR := [0, 1, 2, 3]) (vx_runSW (As := [.ref (ad 0), .int (iI v13), .int (iI 8)]) (rest := []) ⟨hx, hb, hml, hown, hts⟩ (kL_lineOf0 l X ad sg v13 8 _ h _) (vx_cwSW 3 hts gL_isSo_L_lineOf rfl rfl rfl (by decide +kernel) ⟨(Nat.le_of_ble_eq_true rfl), (Nat.le_of_ble_eq_true rfl)⟩) ⟨pre_blind, pre_cutP hE hK hA hP hD hS⟩ rfl rfl hl.1 rfl (lv_room (Nat.le_of_ble_eq_true rfl)) dL_isSo_403 ⟨(Nat.le_of_ble_eq_true rfl), (Nat.le_of_ble_eq_true rfl)⟩) hA hP hD hS rfl (by decide +kernel) (fun z28 u28 H locs h hP hD hS => ?_)
                    have hP : va_P X.1 vwCl ([(a_ax, eI X 60 ax), (a_ay, eI X 22 ay), (a_ag, eI X 15 ag), (a_ae, eI X 50 ae)] ++ wo X ad sg) H := hP
                    have hD : va_D A ([(a_ax, eI X 60 ax), (a_ay, eI X 22 ay), (a_ag, eI X 15 ag), (a_ae, eI X 50 ae)] ++ wo X ad sg) := hD
                    refine lv_iload hx hb dL_isSo_406 (lv_at hl 1 rfl) ?_
                    refine i_cmp_ne (tgt := 475) hx hb h.1 h.2.1 dL_isSo_408 (by decide) (fun c29 => ?_) (fun c29 => ?_)
                    · have h := h.2.2.1 c29
                      have hP := va_P.subT (ws' := [(a_ag, eI X 15 ag), (a_ae, eI X 50 ae), (a_ax, eI X 60 ax), (a_ay, eI X 22 ay)]) [2, 3, 0, 1] rfl hP
                      have hD := va_D.subT (ws' := [(a_ag, eI X 15 ag), (a_ae, eI X 50 ae), (a_ax, eI X 60 ax), (a_ay, eI X 22 ay)]) [2, 3, 0, 1] (by decide +kernel) rfl hD
                      refine W.widen (k := 1) (n := 6) (Nat.le_of_ble_eq_true rfl) (Nat.le_of_ble_eq_true rfl) ?_
                      exact B475 k154 hk154 ax ay v5 v6 v7 v8 v9 v10 (((w0 + ax (v14 + 2).toNat) + ax (v14 + 3).toNat) - ax (v14 + 4).toNat) v13 v14 v15 v16 v17 h _ _ _ hP hD hS (lv_sub hl [2, 3, 4, 5, 6, 7, 8, 9, 10, 11, 12, 1, 13, 14, 15, 16, 17] rfl)
                    · have h := h.2.2.2 c29
                      refine lv_aload_n hx hb dL_isSo_411 rfl (lv_at hl 2 rfl) ?_
                      refine lv_iload hx hb dL_isSo_412 (lv_at hl 13 rfl) ?_
                      refine lv_bipush (v := iI 9) hx hb dL_isSo_414 (by decide +kernel) ?_
                      refine t_i (xs := [(a_ax, eI X 60 ax), (a_ay, eI X 22 ay), (a_ag, eI X 15 ag), (a_ae, eI X 50 ae)]) (isR := [0, 1, 2, 3]) (vx_runSW (As := [.ref (ad 0), .int (iI v13), .int (iI 9)]) (rest := []) ⟨hx, hb, hml, hown, hts⟩ (kL_lineOf0 l X ad sg v13 9 _ h _) (vx_cwSW 3 hts gL_isSo_L_lineOf rfl rfl rfl (by decide +kernel) ⟨(Nat.le_of_ble_eq_true rfl), (Nat.le_of_ble_eq_true rfl)⟩) ⟨pre_blind, pre_cutP hE hK hA hP hD hS⟩ rfl rfl hl.1 rfl (lv_room (Nat.le_of_ble_eq_true rfl)) dL_isSo_416 ⟨(Nat.le_of_ble_eq_true rfl), (Nat.le_of_ble_eq_true rfl)⟩) hA hP hD hS rfl (by decide +kernel) (fun z31 u31 H locs h hP hD hS => ?_)
                      have hP : va_P X.1 vwCl ([(a_ax, eI X 60 ax), (a_ay, eI X 22 ay), (a_ag, eI X 15 ag), (a_ae, eI X 50 ae)] ++ wo X ad sg) H := hP
                      have hD : va_D A ([(a_ax, eI X 60 ax), (a_ay, eI X 22 ay), (a_ag, eI X 15 ag), (a_ae, eI X 50 ae)] ++ wo X ad sg) := hD
                      refine lv_aload_n hx hb dL_isSo_419 rfl (lv_at hl 5 rfl) ?_
                      refine lv_iload hx hb dL_isSo_420 (lv_at hl 14 rfl) ?_
                      refine lv_iconst (v := iI 5) hx hb dL_isSo_422 rfl ?_
                      refine i_add hx hb dL_isSo_423 ?_
                      refine i_ald hx hb hK hP 0 0 rfl rfl h.1 h.2.1 rfl (Nat.le_of_ble_eq_true rfl) dL_isSo_424 ?_
                      have h := h.2.2
                      refine i_cmp_ne (tgt := 475) hx hb h.1 h.2.1 dL_isSo_425 (by decide) (fun c32 => ?_) (fun c32 => ?_)
                      · have h := h.2.2.1 c32
                        have hP := va_P.subT (ws' := [(a_ag, eI X 15 ag), (a_ae, eI X 50 ae), (a_ax, eI X 60 ax), (a_ay, eI X 22 ay)]) [2, 3, 0, 1] rfl hP
                        have hD := va_D.subT (ws' := [(a_ag, eI X 15 ag), (a_ae, eI X 50 ae), (a_ax, eI X 60 ax), (a_ay, eI X 22 ay)]) [2, 3, 0, 1] (by decide +kernel) rfl hD
                        refine W.widen (k := 1) (n := 6) (Nat.le_of_ble_eq_true rfl) (Nat.le_of_ble_eq_true rfl) ?_
                        exact B475 k154 hk154 ax ay v5 v6 v7 v8 v9 v10 (((w0 + ax (v14 + 2).toNat) + ax (v14 + 3).toNat) - ax (v14 + 4).toNat) v13 v14 v15 v16 v17 h _ _ _ hP hD hS (lv_sub hl [2, 3, 4, 5, 6, 7, 8, 9, 10, 11, 12, 1, 13, 14, 15, 16, 17] rfl)
                      · have h := h.2.2.2 c32
                        refine lv_aload_n hx hb dL_isSo_428 rfl (lv_at hl 2 rfl) ?_
                        refine lv_iload hx hb dL_isSo_429 (lv_at hl 13 rfl) ?_
                        refine lv_bipush (v := iI 10) hx hb dL_isSo_431 (by decide +kernel) ?_
                        refine t_i (xs := [(a_ax, eI X 60 ax), (a_ay, eI X 22 ay), (a_ag, eI X 15 ag), (a_ae, eI X 50 ae)]) (isR := [0, 1, 2, 3]) (vx_runSW (As := [.ref (ad 0), .int (iI v13), .int (iI 10)]) (rest := []) ⟨hx, hb, hml, hown, hts⟩ (kL_lineOf0 l X ad sg v13 10 _ h _) (vx_cwSW 3 hts gL_isSo_L_lineOf rfl rfl rfl (by decide +kernel) ⟨(Nat.le_of_ble_eq_true rfl), (Nat.le_of_ble_eq_true rfl)⟩) ⟨pre_blind, pre_cutP hE hK hA hP hD hS⟩ rfl rfl hl.1 rfl (lv_room (Nat.le_of_ble_eq_true rfl)) dL_isSo_433 ⟨(Nat.le_of_ble_eq_true rfl), (Nat.le_of_ble_eq_true rfl)⟩) hA hP hD hS rfl (by decide +kernel) (fun z34 u34 H locs h hP hD hS => ?_)
                        have hP : va_P X.1 vwCl ([(a_ax, eI X 60 ax), (a_ay, eI X 22 ay), (a_ag, eI X 15 ag), (a_ae, eI X 50 ae)] ++ wo X ad sg) H := hP
                        have hD : va_D A ([(a_ax, eI X 60 ax), (a_ay, eI X 22 ay), (a_ag, eI X 15 ag), (a_ae, eI X 50 ae)] ++ wo X ad sg) := hD
                        refine lv_iload hx hb dL_isSo_436 (lv_at hl 0 rfl) ?_
                        refine i_if_eq (tgt := 445) hx hb h.1 dL_isSo_438 (by decide) (fun c35 => ?_) (fun c35 => ?_)
                        · have h := h.2.1 c35
                          refine lv_iconst (v := iI 0) hx hb dL_isSo_445 rfl ?_
                          have hP := va_P.subT (ws' := [(a_ag, eI X 15 ag), (a_ae, eI X 50 ae), (a_ax, eI X 60 ax), (a_ay, eI X 22 ay)]) [2, 3, 0, 1] rfl hP
                          have hD := va_D.subT (ws' := [(a_ag, eI X 15 ag), (a_ae, eI X 50 ae), (a_ax, eI X 60 ax), (a_ay, eI X 22 ay)]) [2, 3, 0, 1] (by decide +kernel) rfl hD
                          refine W.widen (k := 1) (n := 6) (Nat.le_of_ble_eq_true rfl) (Nat.le_of_ble_eq_true rfl) ?_
                          exact B446 k154 hk154 ax ay v5 v6 v7 v8 v9 v10 (((w0 + ax (v14 + 2).toNat) + ax (v14 + 3).toNat) - ax (v14 + 4).toNat) v13 v14 v15 v16 v17 0 z34 h _ _ _ hP hD hS (lv_sub hl [2, 3, 4, 5, 6, 7, 8, 9, 10, 11, 12, 1, 13, 14, 15, 16, 17] rfl)
                        · have h := h.2.2 c35
                          refine lv_iconst (v := iI 1) hx hb dL_isSo_441 rfl ?_
                          refine lv_goto (tgt := 446) hx hb dL_isSo_442 (by decide) ?_
                          have hP := va_P.subT (ws' := [(a_ag, eI X 15 ag), (a_ae, eI X 50 ae), (a_ax, eI X 60 ax), (a_ay, eI X 22 ay)]) [2, 3, 0, 1] rfl hP
                          have hD := va_D.subT (ws' := [(a_ag, eI X 15 ag), (a_ae, eI X 50 ae), (a_ax, eI X 60 ax), (a_ay, eI X 22 ay)]) [2, 3, 0, 1] (by decide +kernel) rfl hD
                          refine W.widen (k := 1) (n := 6) (Nat.le_of_ble_eq_true rfl) (Nat.le_of_ble_eq_true rfl) ?_
                          exact B446 k154 hk154 ax ay v5 v6 v7 v8 v9 v10 (((w0 + ax (v14 + 2).toNat) + ax (v14 + 3).toNat) - ax (v14 + 4).toNat) v13 v14 v15 v16 v17 1 z34 h _ _ _ hP hD hS (lv_sub hl [2, 3, 4, 5, 6, 7, 8, 9, 10, 11, 12, 1, 13, 14, 15, 16, 17] rfl)
  have B232 : ∀ (k154 : (Nat → Int) → (Nat → Int) → Int → Int → Int → Int → Int → Int → Int → Int → Int → Prop) (hk154 : ∀ (ax : Nat → Int) (ay : Nat → Int) (v5 : Int) (v6 : Int) (v7 : Int) (v8 : Int) (v9 : Int) (v10 : Int) (v11 : Int) (v12 : Int) (v13 : Int), k154 ax ay v5 v6 v7 v8 v9 v10 v11 v12 v13 → ∀ (H : Heap) (locs : List Loc) (ls : Array Slot), va_P X.1 vwCl ([(a_ag, eI X 15 ag), (a_ae, eI X 50 ae), (a_ax, eI X 60 ax), (a_ay, eI X 22 ay)] ++ wo X ad sg) H → va_D A ([(a_ag, eI X 15 ag), (a_ae, eI X 50 ae), (a_ax, eI X 60 ax), (a_ay, eI X 22 ay)] ++ wo X ad sg) → va_S A s.heap H locs → lv_has ls 23 [(0, .ref (ad 0)), (1, .ref a_ag), (2, .ref a_ae), (3, .ref a_ax), (4, .ref a_ay), (5, .int (iI v5)), (6, .int (iI v6)), (7, .int (iI v7)), (8, .int (iI v8)), (9, .int (iI v9)), (10, .int (iI v10)), (11, .int (iI v11)), (12, .int (iI v12)), (13, .int (iI v13))] → W p l e rmL_isSo s m args below meth c H locs 1 6 Q (F0 m 154 ls [])) (ax : Nat → Int) (ay : Nat → Int) (v5 : Int) (v6 : Int) (v7 : Int) (v8 : Int) (v9 : Int) (v10 : Int) (v12 : Int) (v13 : Int) (v14 : Int) (v15 : Int) (v16 : Int) (v17 : Int) (v18 : Int) (w0 : Int), wpL_isSo_232 ag ae sg post k154 ax ay v5 v6 v7 v8 v9 v10 v12 v13 v14 v15 v16 v17 v18 w0 → ∀ (H : Heap) (locs : List Loc) (ls : Array Slot), va_P X.1 vwCl ([(a_ag, eI X 15 ag), (a_ae, eI X 50 ae), (a_ax, eI X 60 ax), (a_ay, eI X 22 ay)] ++ wo X ad sg) H → va_D A ([(a_ag, eI X 15 ag), (a_ae, eI X 50 ae), (a_ax, eI X 60 ax), (a_ay, eI X 22 ay)] ++ wo X ad sg) → va_S A s.heap H locs → lv_has ls 23 [(0, .ref (ad 0)), (1, .ref a_ag), (2, .ref a_ae), (3, .ref a_ax), (4, .ref a_ay), (5, .int (iI v5)), (6, .int (iI v6)), (7, .int (iI v7)), (8, .int (iI v8)), (9, .int (iI v9)), (10, .int (iI v10)), (12, .int (iI v12)), (13, .int (iI v13)), (14, .int (iI v14)), (15, .int (iI v15)), (16, .int (iI v16)), (17, .int (iI v17)), (18, .int (iI v18))] → W p l e rmL_isSo s m args below meth c H locs 1 6 Q (F0 m 232 ls [.int (iI w0)]) := by
    intro k154 hk154 ax ay v5 v6 v7 v8 v9 v10 v12 v13 v14 v15 v16 v17 v18 w0 h H locs ls hP hD hS hl
    refine lv_istore (lv' := [(19, .int (iI w0)), (0, .ref (ad 0)), (1, .ref a_ag), (2, .ref a_ae), (3, .ref a_ax), (4, .ref a_ay), (5, .int (iI v5)), (6, .int (iI v6)), (7, .int (iI v7)), (8, .int (iI v8)), (9, .int (iI v9)), (10, .int (iI v10)), (12, .int (iI v12)), (13, .int (iI v13)), (14, .int (iI v14)), (15, .int (iI v15)), (16, .int (iI v16)), (17, .int (iI v17)), (18, .int (iI v18))]) hx hb dL_isSo_232 hl (by decide) rfl (fun ls hl => ?_)
    refine lv_iload hx hb dL_isSo_234 (lv_at hl 0 rfl) ?_
    refine i_if_eq (tgt := 243) hx hb h.1 dL_isSo_236 (by decide) (fun c1 => ?_) (fun c1 => ?_)
    · have h := h.2.1 c1
      refine lv_iload hx hb dL_isSo_243 (lv_at hl 12 rfl) ?_
      refine W.widen (k := 1) (n := 6) (Nat.le_of_ble_eq_true rfl) (Nat.le_of_ble_eq_true rfl) ?_
      exact B245 k154 hk154 ax ay v5 v6 v7 v8 v9 v10 v13 v14 v15 v16 v17 v18 v12 h _ _ _ hP hD hS (lv_sub hl [1, 2, 3, 4, 5, 6, 7, 8, 9, 10, 11, 13, 14, 15, 16, 17, 18] rfl)
    · have h := h.2.2 c1
      refine lv_iconst (v := iI 0) hx hb dL_isSo_239 rfl ?_
      refine lv_goto (tgt := 245) hx hb dL_isSo_240 (by decide) ?_
      refine W.widen (k := 1) (n := 6) (Nat.le_of_ble_eq_true rfl) (Nat.le_of_ble_eq_true rfl) ?_
      exact B245 k154 hk154 ax ay v5 v6 v7 v8 v9 v10 v13 v14 v15 v16 v17 v18 0 h _ _ _ hP hD hS (lv_sub hl [1, 2, 3, 4, 5, 6, 7, 8, 9, 10, 11, 13, 14, 15, 16, 17, 18] rfl)
  have B227 : ∀ (k154 : (Nat → Int) → (Nat → Int) → Int → Int → Int → Int → Int → Int → Int → Int → Int → Prop) (hk154 : ∀ (ax : Nat → Int) (ay : Nat → Int) (v5 : Int) (v6 : Int) (v7 : Int) (v8 : Int) (v9 : Int) (v10 : Int) (v11 : Int) (v12 : Int) (v13 : Int), k154 ax ay v5 v6 v7 v8 v9 v10 v11 v12 v13 → ∀ (H : Heap) (locs : List Loc) (ls : Array Slot), va_P X.1 vwCl ([(a_ag, eI X 15 ag), (a_ae, eI X 50 ae), (a_ax, eI X 60 ax), (a_ay, eI X 22 ay)] ++ wo X ad sg) H → va_D A ([(a_ag, eI X 15 ag), (a_ae, eI X 50 ae), (a_ax, eI X 60 ax), (a_ay, eI X 22 ay)] ++ wo X ad sg) → va_S A s.heap H locs → lv_has ls 23 [(0, .ref (ad 0)), (1, .ref a_ag), (2, .ref a_ae), (3, .ref a_ax), (4, .ref a_ay), (5, .int (iI v5)), (6, .int (iI v6)), (7, .int (iI v7)), (8, .int (iI v8)), (9, .int (iI v9)), (10, .int (iI v10)), (11, .int (iI v11)), (12, .int (iI v12)), (13, .int (iI v13))] → W p l e rmL_isSo s m args below meth c H locs 1 6 Q (F0 m 154 ls [])) (ax : Nat → Int) (ay : Nat → Int) (v5 : Int) (v6 : Int) (v7 : Int) (v8 : Int) (v9 : Int) (v10 : Int) (v12 : Int) (v13 : Int) (v14 : Int) (v15 : Int) (v16 : Int) (v17 : Int) (v18 : Int), wpL_isSo_227 ag ae sg post k154 ax ay v5 v6 v7 v8 v9 v10 v12 v13 v14 v15 v16 v17 v18 → ∀ (H : Heap) (locs : List Loc) (ls : Array Slot), va_P X.1 vwCl ([(a_ag, eI X 15 ag), (a_ae, eI X 50 ae), (a_ax, eI X 60 ax), (a_ay, eI X 22 ay)] ++ wo X ad sg) H → va_D A ([(a_ag, eI X 15 ag), (a_ae, eI X 50 ae), (a_ax, eI X 60 ax), (a_ay, eI X 22 ay)] ++ wo X ad sg) → va_S A s.heap H locs → lv_has ls 23 [(0, .ref (ad 0)), (1, .ref a_ag), (2, .ref a_ae), (3, .ref a_ax), (4, .ref a_ay), (5, .int (iI v5)), (6, .int (iI v6)), (7, .int (iI v7)), (8, .int (iI v8)), (9, .int (iI v9)), (10, .int (iI v10)), (12, .int (iI v12)), (13, .int (iI v13)), (14, .int (iI v14)), (15, .int (iI v15)), (16, .int (iI v16)), (17, .int (iI v17)), (18, .int (iI v18))] → W p l e rmL_isSo s m args below meth c H locs 1 6 Q (F0 m 227 ls []) := by
    intro k154 hk154 ax ay v5 v6 v7 v8 v9 v10 v12 v13 v14 v15 v16 v17 v18 h H locs ls hP hD hS hl
    refine lv_iconst (v := iI 1) hx hb dL_isSo_227 rfl ?_
    refine lv_goto (tgt := 232) hx hb dL_isSo_228 (by decide) ?_
    refine W.widen (k := 1) (n := 6) (Nat.le_of_ble_eq_true rfl) (Nat.le_of_ble_eq_true rfl) ?_
    exact B232 k154 hk154 ax ay v5 v6 v7 v8 v9 v10 v12 v13 v14 v15 v16 v17 v18 1 h _ _ _ hP hD hS (lv_sub hl [0, 1, 2, 3, 4, 5, 6, 7, 8, 9, 10, 11, 12, 13, 14, 15, 16, 17] rfl)
  have B154 : ∀ (n : Nat) (ax : Nat → Int) (ay : Nat → Int) (v5 : Int) (v6 : Int) (v7 : Int) (v8 : Int) (v9 : Int) (v10 : Int) (v11 : Int) (v12 : Int) (v13 : Int), wpL_isSo_154 ag ae sg post n ax ay v5 v6 v7 v8 v9 v10 v11 v12 v13 → ∀ (H : Heap) (locs : List Loc) (ls : Array Slot), va_P X.1 vwCl ([(a_ag, eI X 15 ag), (a_ae, eI X 50 ae), (a_ax, eI X 60 ax), (a_ay, eI X 22 ay)] ++ wo X ad sg) H → va_D A ([(a_ag, eI X 15 ag), (a_ae, eI X 50 ae), (a_ax, eI X 60 ax), (a_ay, eI X 22 ay)] ++ wo X ad sg) → va_S A s.heap H locs → lv_has ls 23 [(0, .ref (ad 0)), (1, .ref a_ag), (2, .ref a_ae), (3, .ref a_ax), (4, .ref a_ay), (5, .int (iI v5)), (6, .int (iI v6)), (7, .int (iI v7)), (8, .int (iI v8)), (9, .int (iI v9)), (10, .int (iI v10)), (11, .int (iI v11)), (12, .int (iI v12)), (13, .int (iI v13))] → W p l e rmL_isSo s m args below meth c H locs 1 6 Q (F0 m 154 ls []) := by
    intro  n
    induction n with
    | zero => intro ax ay v5 v6 v7 v8 v9 v10 v11 v12 v13 h; exact h.elim
    | succ n ih =>
      intro ax ay v5 v6 v7 v8 v9 v10 v11 v12 v13 h H locs ls hP hD hS hl
      refine lv_iload hx hb dL_isSo_154 (lv_at hl 13 rfl) ?_
      refine lv_aload hx hb dL_isSo_156 (lv_at hl 4 rfl) ?_
      refine lv_iconst (v := iI 0) hx hb dL_isSo_158 rfl ?_
      refine i_ald hx hb hK hP 3 0 rfl rfl (by decide) (by decide) rfl (Nat.le_of_ble_eq_true rfl) dL_isSo_159 ?_
      refine i_cmp_ge (tgt := 771) hx hb h.1 h.2.1 dL_isSo_160 (by decide) (fun c1 => ?_) (fun c1 => ?_)
      · have h := h.2.2.1 c1
        refine W.widen (k := 1) (n := 6) (Nat.le_of_ble_eq_true rfl) (Nat.le_of_ble_eq_true rfl) ?_
        exact B771  ax ay v5 v6 v7 v8 v9 v10 v11 h _ _ _ hP hD hS (lv_sub hl [0, 1, 2, 3, 4, 5, 6, 7, 8, 9, 10, 11] rfl)
      · have h := h.2.2.2 c1
        refine lv_iload hx hb dL_isSo_163 (lv_at hl 11 rfl) ?_
        refine i_if_eq (tgt := 771) hx hb h.1 dL_isSo_165 (by decide) (fun c2 => ?_) (fun c2 => ?_)
        · have h := h.2.1 c2
          refine W.widen (k := 1) (n := 6) (Nat.le_of_ble_eq_true rfl) (Nat.le_of_ble_eq_true rfl) ?_
          exact B771  ax ay v5 v6 v7 v8 v9 v10 v11 h _ _ _ hP hD hS (lv_sub hl [0, 1, 2, 3, 4, 5, 6, 7, 8, 9, 10, 11] rfl)
        · have h := h.2.2 c2
          refine lv_bipush (v := iI 6) hx hb dL_isSo_168 (by decide +kernel) ?_
          refine lv_iload hx hb dL_isSo_170 (lv_at hl 13 rfl) ?_
          refine i_mul hx hb dL_isSo_172 ?_
          refine lv_istore (lv' := [(14, .int (iI (6 * v13))), (0, .ref (ad 0)), (1, .ref a_ag), (2, .ref a_ae), (3, .ref a_ax), (4, .ref a_ay), (5, .int (iI v5)), (6, .int (iI v6)), (7, .int (iI v7)), (8, .int (iI v8)), (9, .int (iI v9)), (10, .int (iI v10)), (11, .int (iI v11)), (12, .int (iI v12)), (13, .int (iI v13))]) hx hb dL_isSo_173 hl (by decide) rfl (fun ls hl => ?_)
          refine lv_aload hx hb dL_isSo_175 (lv_at hl 5 rfl) ?_
          refine lv_iconst (v := iI 2) hx hb dL_isSo_177 rfl ?_
          refine lv_iload hx hb dL_isSo_178 (lv_at hl 14 rfl) ?_
          refine i_add hx hb dL_isSo_180 ?_
          refine i_ald hx hb hK hP 3 0 rfl rfl h.1 h.2.1 rfl (Nat.le_of_ble_eq_true rfl) dL_isSo_181 ?_
          have h := h.2.2
          refine lv_istore (lv' := [(15, .int (iI (ay (2 + v13).toNat))), (14, .int (iI (6 * v13))), (0, .ref (ad 0)), (1, .ref a_ag), (2, .ref a_ae), (3, .ref a_ax), (4, .ref a_ay), (5, .int (iI v5)), (6, .int (iI v6)), (7, .int (iI v7)), (8, .int (iI v8)), (9, .int (iI v9)), (10, .int (iI v10)), (11, .int (iI v11)), (12, .int (iI v12)), (13, .int (iI v13))]) hx hb dL_isSo_182 hl (by decide) rfl (fun ls hl => ?_)
          refine lv_aload_n hx hb dL_isSo_184 rfl (lv_at hl 5 rfl) ?_
          refine lv_iload hx hb dL_isSo_185 (lv_at hl 1 rfl) ?_
          refine i_ald hx hb hK hP 2 0 rfl rfl h.1 h.2.1 rfl (Nat.le_of_ble_eq_true rfl) dL_isSo_187 ?_
          have h := h.2.2
          refine lv_istore (lv' := [(16, .int (iI (ax (6 * v13).toNat))), (15, .int (iI (ay (2 + v13).toNat))), (14, .int (iI (6 * v13))), (0, .ref (ad 0)), (1, .ref a_ag), (2, .ref a_ae), (3, .ref a_ax), (4, .ref a_ay), (5, .int (iI v5)), (6, .int (iI v6)), (7, .int (iI v7)), (8, .int (iI v8)), (9, .int (iI v9)), (10, .int (iI v10)), (11, .int (iI v11)), (12, .int (iI v12)), (13, .int (iI v13))]) hx hb dL_isSo_188 hl (by decide) rfl (fun ls hl => ?_)
          refine lv_aload_n hx hb dL_isSo_190 rfl (lv_at hl 6 rfl) ?_
          refine lv_iload hx hb dL_isSo_191 (lv_at hl 2 rfl) ?_
          refine lv_iconst (v := iI 1) hx hb dL_isSo_193 rfl ?_
          refine i_add hx hb dL_isSo_194 ?_
          refine i_ald hx hb hK hP 2 0 rfl rfl h.1 h.2.1 rfl (Nat.le_of_ble_eq_true rfl) dL_isSo_195 ?_
          have h := h.2.2
          refine lv_istore (lv' := [(17, .int (iI (ax ((6 * v13) + 1).toNat))), (16, .int (iI (ax (6 * v13).toNat))), (15, .int (iI (ay (2 + v13).toNat))), (14, .int (iI (6 * v13))), (0, .ref (ad 0)), (1, .ref a_ag), (2, .ref a_ae), (3, .ref a_ax), (4, .ref a_ay), (5, .int (iI v5)), (6, .int (iI v6)), (7, .int (iI v7)), (8, .int (iI v8)), (9, .int (iI v9)), (10, .int (iI v10)), (11, .int (iI v11)), (12, .int (iI v12)), (13, .int (iI v13))]) hx hb dL_isSo_196 hl (by decide) rfl (fun ls hl => ?_)
          refine lv_aload_n hx hb dL_isSo_198 rfl (lv_at hl 5 rfl) ?_
          refine lv_iconst (v := iI 0) hx hb dL_isSo_199 rfl ?_
          refine i_ald hx hb hK hP 0 0 rfl rfl (by decide) (by decide) rfl (Nat.le_of_ble_eq_true rfl) dL_isSo_200 ?_
          refine lv_aload_n hx hb dL_isSo_201 rfl (lv_at hl 7 rfl) ?_
          refine lv_iload hx hb dL_isSo_202 (lv_at hl 3 rfl) ?_
          refine lv_iconst (v := iI 4) hx hb dL_isSo_204 rfl ?_
          refine i_add hx hb dL_isSo_205 ?_
          refine i_ald hx hb hK hP 2 0 rfl rfl h.1 h.2.1 rfl (Nat.le_of_ble_eq_true rfl) dL_isSo_206 ?_
          have h := h.2.2
          refine i_sub hx hb dL_isSo_207 ?_
          refine lv_istore (lv' := [(18, .int (iI (ag 0 - ax ((6 * v13) + 4).toNat))), (17, .int (iI (ax ((6 * v13) + 1).toNat))), (16, .int (iI (ax (6 * v13).toNat))), (15, .int (iI (ay (2 + v13).toNat))), (14, .int (iI (6 * v13))), (0, .ref (ad 0)), (1, .ref a_ag), (2, .ref a_ae), (3, .ref a_ax), (4, .ref a_ay), (5, .int (iI v5)), (6, .int (iI v6)), (7, .int (iI v7)), (8, .int (iI v8)), (9, .int (iI v9)), (10, .int (iI v10)), (11, .int (iI v11)), (12, .int (iI v12)), (13, .int (iI v13))]) hx hb dL_isSo_208 hl (by decide) rfl (fun ls hl => ?_)
          refine lv_iload hx hb dL_isSo_210 (lv_at hl 18 rfl) ?_
          refine i_if_eq (tgt := 227) hx hb h.1 dL_isSo_212 (by decide) (fun c3 => ?_) (fun c3 => ?_)
          · have h := h.2.1 c3
            refine W.widen (k := 1) (n := 6) (Nat.le_of_ble_eq_true rfl) (Nat.le_of_ble_eq_true rfl) ?_
            exact B227 (wpL_isSo_154 ag ae sg post n) ih ax ay v5 v6 v7 v8 v9 v10 v12 v13 (6 * v13) (ay (2 + v13).toNat) (ax (6 * v13).toNat) (ax ((6 * v13) + 1).toNat) (ag 0 - ax ((6 * v13) + 4).toNat) h _ _ _ hP hD hS (lv_sub hl [5, 6, 7, 8, 9, 10, 11, 12, 13, 14, 15, 17, 18, 4, 3, 2, 1, 0] rfl)
          · have h := h.2.2 c3
            refine lv_aload hx hb dL_isSo_215 (lv_at hl 9 rfl) ?_
            refine lv_iconst (v := iI 1) hx hb dL_isSo_217 rfl ?_
            refine lv_iload hx hb dL_isSo_218 (lv_at hl 18 rfl) ?_
            refine i_add hx hb dL_isSo_220 ?_
            refine i_ald hx hb hK hP 3 0 rfl rfl h.1 h.2.1 rfl (Nat.le_of_ble_eq_true rfl) dL_isSo_221 ?_
            have h := h.2.2
            refine lv_iload hx hb dL_isSo_222 (lv_at hl 3 rfl) ?_
            refine i_cmp_eq (tgt := 231) hx hb h.1 h.2.1 dL_isSo_224 (by decide) (fun c4 => ?_) (fun c4 => ?_)
            · have h := h.2.2.1 c4
              refine lv_iconst (v := iI 0) hx hb dL_isSo_231 rfl ?_
              refine W.widen (k := 1) (n := 6) (Nat.le_of_ble_eq_true rfl) (Nat.le_of_ble_eq_true rfl) ?_
              exact B232 (wpL_isSo_154 ag ae sg post n) ih ax ay v5 v6 v7 v8 v9 v10 v12 v13 (6 * v13) (ay (2 + v13).toNat) (ax (6 * v13).toNat) (ax ((6 * v13) + 1).toNat) (ag 0 - ax ((6 * v13) + 4).toNat) 0 h _ _ _ hP hD hS (lv_sub hl [5, 6, 7, 8, 9, 10, 11, 12, 13, 14, 15, 17, 18, 4, 3, 2, 1, 0] rfl)
            · have h := h.2.2.2 c4
              refine W.widen (k := 1) (n := 6) (Nat.le_of_ble_eq_true rfl) (Nat.le_of_ble_eq_true rfl) ?_
              exact B227 (wpL_isSo_154 ag ae sg post n) ih ax ay v5 v6 v7 v8 v9 v10 v12 v13 (6 * v13) (ay (2 + v13).toNat) (ax (6 * v13).toNat) (ax ((6 * v13) + 1).toNat) (ag 0 - ax ((6 * v13) + 4).toNat) h _ _ _ hP hD hS (lv_sub hl [5, 6, 7, 8, 9, 10, 11, 12, 13, 14, 15, 17, 18, 4, 3, 2, 1, 0] rfl)
  have B135 : ∀ (k86 : (Nat → Int) → (Nat → Int) → Int → Int → Int → Int → Int → Int → Int → Int → Prop) (hk86 : ∀ (ax : Nat → Int) (ay : Nat → Int) (v5 : Int) (v6 : Int) (v7 : Int) (v8 : Int) (v9 : Int) (v10 : Int) (v11 : Int) (v12 : Int), k86 ax ay v5 v6 v7 v8 v9 v10 v11 v12 → ∀ (H : Heap) (locs : List Loc) (ls : Array Slot), va_P X.1 vwCl ([(a_ag, eI X 15 ag), (a_ae, eI X 50 ae), (a_ax, eI X 60 ax), (a_ay, eI X 22 ay)] ++ wo X ad sg) H → va_D A ([(a_ag, eI X 15 ag), (a_ae, eI X 50 ae), (a_ax, eI X 60 ax), (a_ay, eI X 22 ay)] ++ wo X ad sg) → va_S A s.heap H locs → lv_has ls 23 [(0, .ref (ad 0)), (1, .ref a_ag), (2, .ref a_ae), (3, .ref a_ax), (4, .ref a_ay), (5, .int (iI v5)), (6, .int (iI v6)), (7, .int (iI v7)), (8, .int (iI v8)), (9, .int (iI v9)), (10, .int (iI v10)), (11, .int (iI v11)), (12, .int (iI v12))] → W p l e rmL_isSo s m args below meth c H locs 1 6 Q (F0 m 86 ls [])) (ax : Nat → Int) (ay : Nat → Int) (v5 : Int) (v6 : Int) (v7 : Int) (v8 : Int) (v9 : Int) (v10 : Int) (v12 : Int), wpL_isSo_135 ag ae sg post k86 ax ay v5 v6 v7 v8 v9 v10 v12 → ∀ (H : Heap) (locs : List Loc) (ls : Array Slot), va_P X.1 vwCl ([(a_ag, eI X 15 ag), (a_ae, eI X 50 ae), (a_ax, eI X 60 ax), (a_ay, eI X 22 ay)] ++ wo X ad sg) H → va_D A ([(a_ag, eI X 15 ag), (a_ae, eI X 50 ae), (a_ax, eI X 60 ax), (a_ay, eI X 22 ay)] ++ wo X ad sg) → va_S A s.heap H locs → lv_has ls 23 [(0, .ref (ad 0)), (1, .ref a_ag), (2, .ref a_ae), (3, .ref a_ax), (4, .ref a_ay), (5, .int (iI v5)), (6, .int (iI v6)), (7, .int (iI v7)), (8, .int (iI v8)), (9, .int (iI v9)), (10, .int (iI v10)), (12, .int (iI v12))] → W p l e rmL_isSo s m args below meth c H locs 1 6 Q (F0 m 135 ls []) := by
    intro k86 hk86 ax ay v5 v6 v7 v8 v9 v10 v12 h H locs ls hP hD hS hl
    refine lv_iconst (v := iI 1) hx hb dL_isSo_135 rfl ?_
    refine lv_goto (tgt := 140) hx hb dL_isSo_136 (by decide) ?_
    refine W.widen (k := 1) (n := 6) (Nat.le_of_ble_eq_true rfl) (Nat.le_of_ble_eq_true rfl) ?_
    exact B140 k86 hk86 ax ay v5 v6 v7 v8 v9 v10 v12 1 h _ _ _ hP hD hS (lv_sub hl [0, 1, 2, 3, 4, 5, 6, 7, 8, 9, 10, 11] rfl)
  have B86 : ∀ (n : Nat) (ax : Nat → Int) (ay : Nat → Int) (v5 : Int) (v6 : Int) (v7 : Int) (v8 : Int) (v9 : Int) (v10 : Int) (v11 : Int) (v12 : Int), wpL_isSo_86 ag ae sg post n ax ay v5 v6 v7 v8 v9 v10 v11 v12 → ∀ (H : Heap) (locs : List Loc) (ls : Array Slot), va_P X.1 vwCl ([(a_ag, eI X 15 ag), (a_ae, eI X 50 ae), (a_ax, eI X 60 ax), (a_ay, eI X 22 ay)] ++ wo X ad sg) H → va_D A ([(a_ag, eI X 15 ag), (a_ae, eI X 50 ae), (a_ax, eI X 60 ax), (a_ay, eI X 22 ay)] ++ wo X ad sg) → va_S A s.heap H locs → lv_has ls 23 [(0, .ref (ad 0)), (1, .ref a_ag), (2, .ref a_ae), (3, .ref a_ax), (4, .ref a_ay), (5, .int (iI v5)), (6, .int (iI v6)), (7, .int (iI v7)), (8, .int (iI v8)), (9, .int (iI v9)), (10, .int (iI v10)), (11, .int (iI v11)), (12, .int (iI v12))] → W p l e rmL_isSo s m args below meth c H locs 1 6 Q (F0 m 86 ls []) := by
    intro  n
    induction n with
    | zero => intro ax ay v5 v6 v7 v8 v9 v10 v11 v12 h; exact h.elim
    | succ n ih =>
      intro ax ay v5 v6 v7 v8 v9 v10 v11 v12 h H locs ls hP hD hS hl
      refine lv_iload hx hb dL_isSo_86 (lv_at hl 12 rfl) ?_
      refine lv_bipush (v := iI 8) hx hb dL_isSo_88 (by decide +kernel) ?_
      refine i_cmp_ge (tgt := 148) hx hb h.1 (inR_lit rfl) dL_isSo_90 (by decide) (fun c1 => ?_) (fun c1 => ?_)
      · have h := h.2.1 c1
        refine lv_iconst (v := iI 0) hx hb dL_isSo_148 rfl ?_
        refine lv_istore (lv' := [(12, .int (iI 0)), (0, .ref (ad 0)), (1, .ref a_ag), (2, .ref a_ae), (3, .ref a_ax), (4, .ref a_ay), (5, .int (iI v5)), (6, .int (iI v6)), (7, .int (iI v7)), (8, .int (iI v8)), (9, .int (iI v9)), (10, .int (iI v10)), (11, .int (iI v11))]) hx hb dL_isSo_149 hl (by decide) rfl (fun ls hl => ?_)
        refine lv_iconst (v := iI 0) hx hb dL_isSo_151 rfl ?_
        refine lv_istore (lv' := [(13, .int (iI 0)), (12, .int (iI 0)), (0, .ref (ad 0)), (1, .ref a_ag), (2, .ref a_ae), (3, .ref a_ax), (4, .ref a_ay), (5, .int (iI v5)), (6, .int (iI v6)), (7, .int (iI v7)), (8, .int (iI v8)), (9, .int (iI v9)), (10, .int (iI v10)), (11, .int (iI v11))]) hx hb dL_isSo_152 hl (by decide) rfl (fun ls hl => ?_)
        refine W.widen (k := 1) (n := 6) (Nat.le_of_ble_eq_true rfl) (Nat.le_of_ble_eq_true rfl) ?_
        obtain ⟨n2, h⟩ := h
        exact B154  n2 ax ay v5 v6 v7 v8 v9 v10 v11 0 0 h _ _ _ hP hD hS (lv_sub hl [2, 3, 4, 5, 6, 7, 8, 9, 10, 11, 12, 13, 1, 0] rfl)
      · have h := h.2.2 c1
        refine lv_iload hx hb dL_isSo_93 (lv_at hl 11 rfl) ?_
        refine i_if_eq (tgt := 139) hx hb h.1 dL_isSo_95 (by decide) (fun c3 => ?_) (fun c3 => ?_)
        · have h := h.2.1 c3
          refine W.widen (k := 1) (n := 6) (Nat.le_of_ble_eq_true rfl) (Nat.le_of_ble_eq_true rfl) ?_
          exact B139 (wpL_isSo_86 ag ae sg post n) ih ax ay v5 v6 v7 v8 v9 v10 v12 h _ _ _ hP hD hS (lv_sub hl [0, 1, 2, 3, 4, 5, 6, 7, 8, 9, 10, 12] rfl)
        · have h := h.2.2 c3
          refine lv_aload_n hx hb dL_isSo_98 rfl (lv_at hl 0 rfl) ?_
          refine lv_iload hx hb dL_isSo_99 (lv_at hl 12 rfl) ?_
          refine t_i (xs := [(a_ag, eI X 15 ag), (a_ae, eI X 50 ae), (a_ax, eI X 60 ax), (a_ay, eI X 22 ay)]) (isR := [0, 1, 2, 3]) (vx_runSW (As := [.ref (ad 0), .int (iI v12)]) (rest := []) ⟨hx, hb, hml, hown, hts⟩ (kL_shareOf0 l X ad sg v12 _ h _) (vx_cwSW 2 hts gL_isSo_L_shareOf rfl rfl rfl (by decide +kernel) ⟨(Nat.le_of_ble_eq_true rfl), (Nat.le_of_ble_eq_true rfl)⟩) ⟨pre_blind, pre_cutP hE hK hA hP hD hS⟩ rfl rfl hl.1 rfl (lv_room (Nat.le_of_ble_eq_true rfl)) dL_isSo_101 ⟨(Nat.le_of_ble_eq_true rfl), (Nat.le_of_ble_eq_true rfl)⟩) hA hP hD hS rfl (by decide +kernel) (fun z5 u5 H locs h hP hD hS => ?_)
          have hP : va_P X.1 vwCl ([(a_ag, eI X 15 ag), (a_ae, eI X 50 ae), (a_ax, eI X 60 ax), (a_ay, eI X 22 ay)] ++ wo X ad sg) H := hP
          have hD : va_D A ([(a_ag, eI X 15 ag), (a_ae, eI X 50 ae), (a_ax, eI X 60 ax), (a_ay, eI X 22 ay)] ++ wo X ad sg) := hD
          refine lv_aload_n hx hb dL_isSo_104 rfl (lv_at hl 1 rfl) ?_
          refine lv_bipush (v := iI 6) hx hb dL_isSo_105 (by decide +kernel) ?_
          refine lv_iload hx hb dL_isSo_107 (lv_at hl 12 rfl) ?_
          refine i_add hx hb dL_isSo_109 ?_
          refine i_ald hx hb hK hP 0 0 rfl rfl h.1 h.2.1 rfl (Nat.le_of_ble_eq_true rfl) dL_isSo_110 ?_
          have h := h.2.2
          refine i_cmp_ne (tgt := 139) hx hb h.1 h.2.1 dL_isSo_111 (by decide) (fun c6 => ?_) (fun c6 => ?_)
          · have h := h.2.2.1 c6
            refine W.widen (k := 1) (n := 6) (Nat.le_of_ble_eq_true rfl) (Nat.le_of_ble_eq_true rfl) ?_
            exact B139 (wpL_isSo_86 ag ae sg post n) ih ax ay v5 v6 v7 v8 v9 v10 v12 h _ _ _ hP hD hS (lv_sub hl [0, 1, 2, 3, 4, 5, 6, 7, 8, 9, 10, 12] rfl)
          · have h := h.2.2.2 c6
            refine lv_iload hx hb dL_isSo_114 (lv_at hl 12 rfl) ?_
            refine lv_iconst (v := iI 5) hx hb dL_isSo_116 rfl ?_
            refine i_cmp_gt (tgt := 135) hx hb h.1 (inR_lit rfl) dL_isSo_117 (by decide) (fun c7 => ?_) (fun c7 => ?_)
            · have h := h.2.1 c7
              refine W.widen (k := 1) (n := 6) (Nat.le_of_ble_eq_true rfl) (Nat.le_of_ble_eq_true rfl) ?_
              exact B135 (wpL_isSo_86 ag ae sg post n) ih ax ay v5 v6 v7 v8 v9 v10 v12 h _ _ _ hP hD hS (lv_sub hl [0, 1, 2, 3, 4, 5, 6, 7, 8, 9, 10, 12] rfl)
            · have h := h.2.2 c7
              refine lv_aload_n hx hb dL_isSo_120 rfl (lv_at hl 0 rfl) ?_
              refine lv_iconst (v := iI 4) hx hb dL_isSo_121 rfl ?_
              refine lv_iload hx hb dL_isSo_122 (lv_at hl 12 rfl) ?_
              refine i_add hx hb dL_isSo_124 ?_
              refine t_i (xs := [(a_ag, eI X 15 ag), (a_ae, eI X 50 ae), (a_ax, eI X 60 ax), (a_ay, eI X 22 ay)]) (isR := [0, 1, 2, 3]) (vx_runSW (As := [.ref (ad 0), .int (iI (4 + v12))]) (rest := []) ⟨hx, hb, hml, hown, hts⟩ (kL_wholeOf0 l X ad sg (4 + v12) _ h _) (vx_cwSW 2 hts gL_isSo_L_wholeOf rfl rfl rfl (by decide +kernel) ⟨(Nat.le_of_ble_eq_true rfl), (Nat.le_of_ble_eq_true rfl)⟩) ⟨pre_blind, pre_cutP hE hK hA hP hD hS⟩ rfl rfl hl.1 rfl (lv_room (Nat.le_of_ble_eq_true rfl)) dL_isSo_125 ⟨(Nat.le_of_ble_eq_true rfl), (Nat.le_of_ble_eq_true rfl)⟩) hA hP hD hS rfl (by decide +kernel) (fun z9 u9 H locs h hP hD hS => ?_)
              have hP : va_P X.1 vwCl ([(a_ag, eI X 15 ag), (a_ae, eI X 50 ae), (a_ax, eI X 60 ax), (a_ay, eI X 22 ay)] ++ wo X ad sg) H := hP
              have hD : va_D A ([(a_ag, eI X 15 ag), (a_ae, eI X 50 ae), (a_ax, eI X 60 ax), (a_ay, eI X 22 ay)] ++ wo X ad sg) := hD
              refine lv_aload_n hx hb dL_isSo_128 rfl (lv_at hl 1 rfl) ?_
              refine lv_iload hx hb dL_isSo_129 (lv_at hl 12 rfl) ?_
              refine i_ald hx hb hK hP 0 0 rfl rfl h.1 h.2.1 rfl (Nat.le_of_ble_eq_true rfl) dL_isSo_131 ?_
              have h := h.2.2
              refine i_cmp_ne (tgt := 139) hx hb h.1 h.2.1 dL_isSo_132 (by decide) (fun c10 => ?_) (fun c10 => ?_)
              · have h := h.2.2.1 c10
                refine W.widen (k := 1) (n := 6) (Nat.le_of_ble_eq_true rfl) (Nat.le_of_ble_eq_true rfl) ?_
                exact B139 (wpL_isSo_86 ag ae sg post n) ih ax ay v5 v6 v7 v8 v9 v10 v12 h _ _ _ hP hD hS (lv_sub hl [0, 1, 2, 3, 4, 5, 6, 7, 8, 9, 10, 12] rfl)
              · have h := h.2.2.2 c10
                refine W.widen (k := 1) (n := 6) (Nat.le_of_ble_eq_true rfl) (Nat.le_of_ble_eq_true rfl) ?_
                exact B135 (wpL_isSo_86 ag ae sg post n) ih ax ay v5 v6 v7 v8 v9 v10 v12 h _ _ _ hP hD hS (lv_sub hl [0, 1, 2, 3, 4, 5, 6, 7, 8, 9, 10, 12] rfl)
  have B81 : ∀ (ax : Nat → Int) (ay : Nat → Int) (v5 : Int) (v6 : Int) (v7 : Int) (v8 : Int) (v9 : Int) (v10 : Int) (w0 : Int), wpL_isSo_81 ag ae sg post ax ay v5 v6 v7 v8 v9 v10 w0 → ∀ (H : Heap) (locs : List Loc) (ls : Array Slot), va_P X.1 vwCl ([(a_ag, eI X 15 ag), (a_ae, eI X 50 ae), (a_ax, eI X 60 ax), (a_ay, eI X 22 ay)] ++ wo X ad sg) H → va_D A ([(a_ag, eI X 15 ag), (a_ae, eI X 50 ae), (a_ax, eI X 60 ax), (a_ay, eI X 22 ay)] ++ wo X ad sg) → va_S A s.heap H locs → lv_has ls 23 [(0, .ref (ad 0)), (1, .ref a_ag), (2, .ref a_ae), (3, .ref a_ax), (4, .ref a_ay), (5, .int (iI v5)), (6, .int (iI v6)), (7, .int (iI v7)), (8, .int (iI v8)), (9, .int (iI v9)), (10, .int (iI v10))] → W p l e rmL_isSo s m args below meth c H locs 1 6 Q (F0 m 81 ls [.int (iI w0)]) := by
    intro  ax ay v5 v6 v7 v8 v9 v10 w0 h H locs ls hP hD hS hl
    refine lv_istore (lv' := [(11, .int (iI w0)), (0, .ref (ad 0)), (1, .ref a_ag), (2, .ref a_ae), (3, .ref a_ax), (4, .ref a_ay), (5, .int (iI v5)), (6, .int (iI v6)), (7, .int (iI v7)), (8, .int (iI v8)), (9, .int (iI v9)), (10, .int (iI v10))]) hx hb dL_isSo_81 hl (by decide) rfl (fun ls hl => ?_)
    refine lv_iconst (v := iI 0) hx hb dL_isSo_83 rfl ?_
    refine lv_istore (lv' := [(12, .int (iI 0)), (11, .int (iI w0)), (0, .ref (ad 0)), (1, .ref a_ag), (2, .ref a_ae), (3, .ref a_ax), (4, .ref a_ay), (5, .int (iI v5)), (6, .int (iI v6)), (7, .int (iI v7)), (8, .int (iI v8)), (9, .int (iI v9)), (10, .int (iI v10))]) hx hb dL_isSo_84 hl (by decide) rfl (fun ls hl => ?_)
    refine W.widen (k := 1) (n := 6) (Nat.le_of_ble_eq_true rfl) (Nat.le_of_ble_eq_true rfl) ?_
    obtain ⟨n1, h⟩ := h
    exact B86  n1 ax ay v5 v6 v7 v8 v9 v10 w0 0 h _ _ _ hP hD hS (lv_sub hl [2, 3, 4, 5, 6, 7, 8, 9, 10, 11, 12, 1, 0] rfl)
  have B80 : ∀ (ax : Nat → Int) (ay : Nat → Int) (v5 : Int) (v6 : Int) (v7 : Int) (v8 : Int) (v9 : Int) (v10 : Int), wpL_isSo_80 ag ae sg post ax ay v5 v6 v7 v8 v9 v10 → ∀ (H : Heap) (locs : List Loc) (ls : Array Slot), va_P X.1 vwCl ([(a_ag, eI X 15 ag), (a_ae, eI X 50 ae), (a_ax, eI X 60 ax), (a_ay, eI X 22 ay)] ++ wo X ad sg) H → va_D A ([(a_ag, eI X 15 ag), (a_ae, eI X 50 ae), (a_ax, eI X 60 ax), (a_ay, eI X 22 ay)] ++ wo X ad sg) → va_S A s.heap H locs → lv_has ls 23 [(0, .ref (ad 0)), (1, .ref a_ag), (2, .ref a_ae), (3, .ref a_ax), (4, .ref a_ay), (5, .int (iI v5)), (6, .int (iI v6)), (7, .int (iI v7)), (8, .int (iI v8)), (9, .int (iI v9)), (10, .int (iI v10))] → W p l e rmL_isSo s m args below meth c H locs 1 6 Q (F0 m 80 ls []) := by
    intro  ax ay v5 v6 v7 v8 v9 v10 h H locs ls hP hD hS hl
    refine lv_iconst (v := iI 0) hx hb dL_isSo_80 rfl ?_
    refine W.widen (k := 1) (n := 6) (Nat.le_of_ble_eq_true rfl) (Nat.le_of_ble_eq_true rfl) ?_
    exact B81  ax ay v5 v6 v7 v8 v9 v10 0 h _ _ _ hP hD hS (lv_sub hl [0, 1, 2, 3, 4, 5, 6, 7, 8, 9, 10] rfl)
  refine lv_aload_n hx hb dL_isSo_0 rfl (lv_at hl 1 rfl) ?_
  refine lv_aload_n hx hb dL_isSo_1 rfl (lv_at hl 2 rfl) ?_
  refine lv_aload_n hx hb dL_isSo_2 rfl (lv_at hl 1 rfl) ?_
  refine lv_iconst (v := iI 0) hx hb dL_isSo_3 rfl ?_
  refine i_ald hx hb hK hP 0 0 rfl rfl (by decide) (by decide) rfl (Nat.le_of_ble_eq_true rfl) dL_isSo_4 ?_
  refine lv_iconst (v := iI 1) hx hb dL_isSo_5 rfl ?_
  refine lv_aload_n hx hb dL_isSo_6 rfl (lv_at hl 3 rfl) ?_
  refine lv_aload hx hb dL_isSo_7 (lv_at hl 4 rfl) ?_
  refine u_v (xs := [(a_ag, eI X 15 ag), (a_ae, eI X 50 ae), (a_ax, eI X 60 ax), (a_ay, eI X 22 ay)]) (isC := [0, 1, 2, 3]) (isR := []) (wr := []) (va_runS (As := [.ref a_ag, .ref a_ae, .int (iI (ag 0)), .int (iI 1), .ref a_ax, .ref a_ay]) (rest := []) ⟨hx, hb, hml, hown, hts⟩ (kL_lay l X a_ag a_ae a_ax a_ay ag ae ax ay (ag 0) 1 _ h _) (va_cwS 6 hts gL_isSo_L_lay rfl rfl rfl (by decide +kernel) ⟨(Nat.le_of_ble_eq_true rfl), (Nat.le_of_ble_eq_true rfl)⟩) ⟨pre_blind, pre_cutQ hE hK hA hP hD hS (isC := [0, 1, 2, 3]) rfl rfl⟩ rfl rfl hl.1 rfl (lv_room (Nat.le_of_ble_eq_true rfl)) dL_isSo_9 ⟨(Nat.le_of_ble_eq_true rfl), (Nat.le_of_ble_eq_true rfl)⟩) hA hP hD hS rfl rfl (by decide +kernel) (by decide +kernel) (fun u1 H locs h hP hD hS => ?_)
  obtain ⟨ax_1, ay_1⟩ := u1
  have hP : va_P X.1 vwCl ([(a_ag, eI X 15 ag), (a_ae, eI X 50 ae), (a_ax, eI X 60 ax_1), (a_ay, eI X 22 ay_1)] ++ wo X ad sg) H := hP
  have hD : va_D A ([(a_ag, eI X 15 ag), (a_ae, eI X 50 ae), (a_ax, eI X 60 ax_1), (a_ay, eI X 22 ay_1)] ++ wo X ad sg) := hD
  refine lv_aload_n hx hb dL_isSo_12 rfl (lv_at hl 1 rfl) ?_
  refine lv_bipush (v := iI 14) hx hb dL_isSo_13 (by decide +kernel) ?_
  refine i_ald hx hb hK hP 0 0 rfl rfl (by decide) (by decide) rfl (Nat.le_of_ble_eq_true rfl) dL_isSo_15 ?_
  refine lv_istore (lv' := [(5, .int (iI (ag 14))), (0, .ref (ad 0)), (1, .ref a_ag), (2, .ref a_ae), (3, .ref a_ax), (4, .ref a_ay)]) hx hb dL_isSo_16 hl (by decide) rfl (fun ls hl => ?_)
  refine lv_iconst (v := iI 0) hx hb dL_isSo_18 rfl ?_
  refine lv_istore (lv' := [(6, .int (iI 0)), (5, .int (iI (ag 14))), (0, .ref (ad 0)), (1, .ref a_ag), (2, .ref a_ae), (3, .ref a_ax), (4, .ref a_ay)]) hx hb dL_isSo_19 hl (by decide) rfl (fun ls hl => ?_)
  refine lv_iconst (v := iI 0) hx hb dL_isSo_21 rfl ?_
  refine lv_istore (lv' := [(7, .int (iI 0)), (6, .int (iI 0)), (5, .int (iI (ag 14))), (0, .ref (ad 0)), (1, .ref a_ag), (2, .ref a_ae), (3, .ref a_ax), (4, .ref a_ay)]) hx hb dL_isSo_22 hl (by decide) rfl (fun ls hl => ?_)
  refine lv_iconst (v := iI 0) hx hb dL_isSo_24 rfl ?_
  refine lv_istore (lv' := [(8, .int (iI 0)), (7, .int (iI 0)), (6, .int (iI 0)), (5, .int (iI (ag 14))), (0, .ref (ad 0)), (1, .ref a_ag), (2, .ref a_ae), (3, .ref a_ax), (4, .ref a_ay)]) hx hb dL_isSo_25 hl (by decide) rfl (fun ls hl => ?_)
  refine lv_iconst (v := iI 0) hx hb dL_isSo_27 rfl ?_
  refine lv_istore (lv' := [(9, .int (iI 0)), (8, .int (iI 0)), (7, .int (iI 0)), (6, .int (iI 0)), (5, .int (iI (ag 14))), (0, .ref (ad 0)), (1, .ref a_ag), (2, .ref a_ae), (3, .ref a_ax), (4, .ref a_ay)]) hx hb dL_isSo_28 hl (by decide) rfl (fun ls hl => ?_)
  refine lv_iconst (v := iI 0) hx hb dL_isSo_30 rfl ?_
  refine lv_istore (lv' := [(10, .int (iI 0)), (9, .int (iI 0)), (8, .int (iI 0)), (7, .int (iI 0)), (6, .int (iI 0)), (5, .int (iI (ag 14))), (0, .ref (ad 0)), (1, .ref a_ag), (2, .ref a_ae), (3, .ref a_ax), (4, .ref a_ay)]) hx hb dL_isSo_31 hl (by decide) rfl (fun ls hl => ?_)
  refine lv_aload_n hx hb dL_isSo_33 rfl (lv_at hl 6 rfl) ?_
  refine lv_iconst (v := iI 0) hx hb dL_isSo_34 rfl ?_
  refine t_i (xs := [(a_ag, eI X 15 ag), (a_ae, eI X 50 ae), (a_ax, eI X 60 ax_1), (a_ay, eI X 22 ay_1)]) (isR := [0, 1, 2, 3]) (vx_runSW (As := [.ref (ad 0), .int (iI 0)]) (rest := []) ⟨hx, hb, hml, hown, hts⟩ (kL_wholeOf0 l X ad sg 0 _ h _) (vx_cwSW 2 hts gL_isSo_L_wholeOf rfl rfl rfl (by decide +kernel) ⟨(Nat.le_of_ble_eq_true rfl), (Nat.le_of_ble_eq_true rfl)⟩) ⟨pre_blind, pre_cutP hE hK hA hP hD hS⟩ rfl rfl hl.1 rfl (lv_room (Nat.le_of_ble_eq_true rfl)) dL_isSo_35 ⟨(Nat.le_of_ble_eq_true rfl), (Nat.le_of_ble_eq_true rfl)⟩) hA hP hD hS rfl (by decide +kernel) (fun z3 u3 H locs h hP hD hS => ?_)
  have hP : va_P X.1 vwCl ([(a_ag, eI X 15 ag), (a_ae, eI X 50 ae), (a_ax, eI X 60 ax_1), (a_ay, eI X 22 ay_1)] ++ wo X ad sg) H := hP
  have hD : va_D A ([(a_ag, eI X 15 ag), (a_ae, eI X 50 ae), (a_ax, eI X 60 ax_1), (a_ay, eI X 22 ay_1)] ++ wo X ad sg) := hD
  refine lv_iload hx hb dL_isSo_38 (lv_at hl 5 rfl) ?_
  refine i_cmp_ne (tgt := 80) hx hb h.1 h.2.1 dL_isSo_40 (by decide) (fun c4 => ?_) (fun c4 => ?_)
  · have h := h.2.2.1 c4
    refine W.widen (k := 1) (n := 6) (Nat.le_of_ble_eq_true rfl) (Nat.le_of_ble_eq_true rfl) ?_
    exact B80  ax_1 ay_1 (ag 14) 0 0 0 0 0 h _ _ _ hP hD hS (lv_sub hl [6, 7, 8, 9, 10, 5, 4, 3, 2, 1, 0] rfl)
  · have h := h.2.2.2 c4
    refine lv_aload_n hx hb dL_isSo_43 rfl (lv_at hl 6 rfl) ?_
    refine lv_iconst (v := iI 1) hx hb dL_isSo_44 rfl ?_
    refine t_i (xs := [(a_ag, eI X 15 ag), (a_ae, eI X 50 ae), (a_ax, eI X 60 ax_1), (a_ay, eI X 22 ay_1)]) (isR := [0, 1, 2, 3]) (vx_runSW (As := [.ref (ad 0), .int (iI 1)]) (rest := []) ⟨hx, hb, hml, hown, hts⟩ (kL_wholeOf0 l X ad sg 1 _ h _) (vx_cwSW 2 hts gL_isSo_L_wholeOf rfl rfl rfl (by decide +kernel) ⟨(Nat.le_of_ble_eq_true rfl), (Nat.le_of_ble_eq_true rfl)⟩) ⟨pre_blind, pre_cutP hE hK hA hP hD hS⟩ rfl rfl hl.1 rfl (lv_room (Nat.le_of_ble_eq_true rfl)) dL_isSo_45 ⟨(Nat.le_of_ble_eq_true rfl), (Nat.le_of_ble_eq_true rfl)⟩) hA hP hD hS rfl (by decide +kernel) (fun z6 u6 H locs h hP hD hS => ?_)
    have hP : va_P X.1 vwCl ([(a_ag, eI X 15 ag), (a_ae, eI X 50 ae), (a_ax, eI X 60 ax_1), (a_ay, eI X 22 ay_1)] ++ wo X ad sg) H := hP
    have hD : va_D A ([(a_ag, eI X 15 ag), (a_ae, eI X 50 ae), (a_ax, eI X 60 ax_1), (a_ay, eI X 22 ay_1)] ++ wo X ad sg) := hD
    refine lv_aload hx hb dL_isSo_48 (lv_at hl 10 rfl) ?_
    refine lv_iconst (v := iI 0) hx hb dL_isSo_50 rfl ?_
    refine i_ald hx hb hK hP 3 0 rfl rfl (by decide) (by decide) rfl (Nat.le_of_ble_eq_true rfl) dL_isSo_51 ?_
    refine i_cmp_ne (tgt := 80) hx hb h.1 h.2.1 dL_isSo_52 (by decide) (fun c7 => ?_) (fun c7 => ?_)
    · have h := h.2.2.1 c7
      refine W.widen (k := 1) (n := 6) (Nat.le_of_ble_eq_true rfl) (Nat.le_of_ble_eq_true rfl) ?_
      exact B80  ax_1 ay_1 (ag 14) 0 0 0 0 0 h _ _ _ hP hD hS (lv_sub hl [6, 7, 8, 9, 10, 5, 4, 3, 2, 1, 0] rfl)
    · have h := h.2.2.2 c7
      refine lv_aload_n hx hb dL_isSo_55 rfl (lv_at hl 6 rfl) ?_
      refine lv_iconst (v := iI 2) hx hb dL_isSo_56 rfl ?_
      refine t_i (xs := [(a_ag, eI X 15 ag), (a_ae, eI X 50 ae), (a_ax, eI X 60 ax_1), (a_ay, eI X 22 ay_1)]) (isR := [0, 1, 2, 3]) (vx_runSW (As := [.ref (ad 0), .int (iI 2)]) (rest := []) ⟨hx, hb, hml, hown, hts⟩ (kL_wholeOf0 l X ad sg 2 _ h _) (vx_cwSW 2 hts gL_isSo_L_wholeOf rfl rfl rfl (by decide +kernel) ⟨(Nat.le_of_ble_eq_true rfl), (Nat.le_of_ble_eq_true rfl)⟩) ⟨pre_blind, pre_cutP hE hK hA hP hD hS⟩ rfl rfl hl.1 rfl (lv_room (Nat.le_of_ble_eq_true rfl)) dL_isSo_57 ⟨(Nat.le_of_ble_eq_true rfl), (Nat.le_of_ble_eq_true rfl)⟩) hA hP hD hS rfl (by decide +kernel) (fun z9 u9 H locs h hP hD hS => ?_)
      have hP : va_P X.1 vwCl ([(a_ag, eI X 15 ag), (a_ae, eI X 50 ae), (a_ax, eI X 60 ax_1), (a_ay, eI X 22 ay_1)] ++ wo X ad sg) H := hP
      have hD : va_D A ([(a_ag, eI X 15 ag), (a_ae, eI X 50 ae), (a_ax, eI X 60 ax_1), (a_ay, eI X 22 ay_1)] ++ wo X ad sg) := hD
      refine lv_aload hx hb dL_isSo_60 (lv_at hl 10 rfl) ?_
      refine lv_iconst (v := iI 1) hx hb dL_isSo_62 rfl ?_
      refine i_ald hx hb hK hP 3 0 rfl rfl (by decide) (by decide) rfl (Nat.le_of_ble_eq_true rfl) dL_isSo_63 ?_
      refine i_cmp_ne (tgt := 80) hx hb h.1 h.2.1 dL_isSo_64 (by decide) (fun c10 => ?_) (fun c10 => ?_)
      · have h := h.2.2.1 c10
        refine W.widen (k := 1) (n := 6) (Nat.le_of_ble_eq_true rfl) (Nat.le_of_ble_eq_true rfl) ?_
        exact B80  ax_1 ay_1 (ag 14) 0 0 0 0 0 h _ _ _ hP hD hS (lv_sub hl [6, 7, 8, 9, 10, 5, 4, 3, 2, 1, 0] rfl)
      · have h := h.2.2.2 c10
        refine lv_aload_n hx hb dL_isSo_67 rfl (lv_at hl 6 rfl) ?_
        refine lv_bipush (v := iI 13) hx hb dL_isSo_68 (by decide +kernel) ?_
        refine t_i (xs := [(a_ag, eI X 15 ag), (a_ae, eI X 50 ae), (a_ax, eI X 60 ax_1), (a_ay, eI X 22 ay_1)]) (isR := [0, 1, 2, 3]) (vx_runSW (As := [.ref (ad 0), .int (iI 13)]) (rest := []) ⟨hx, hb, hml, hown, hts⟩ (kL_wholeOf0 l X ad sg 13 _ h _) (vx_cwSW 2 hts gL_isSo_L_wholeOf rfl rfl rfl (by decide +kernel) ⟨(Nat.le_of_ble_eq_true rfl), (Nat.le_of_ble_eq_true rfl)⟩) ⟨pre_blind, pre_cutP hE hK hA hP hD hS⟩ rfl rfl hl.1 rfl (lv_room (Nat.le_of_ble_eq_true rfl)) dL_isSo_70 ⟨(Nat.le_of_ble_eq_true rfl), (Nat.le_of_ble_eq_true rfl)⟩) hA hP hD hS rfl (by decide +kernel) (fun z12 u12 H locs h hP hD hS => ?_)
        have hP : va_P X.1 vwCl ([(a_ag, eI X 15 ag), (a_ae, eI X 50 ae), (a_ax, eI X 60 ax_1), (a_ay, eI X 22 ay_1)] ++ wo X ad sg) H := hP
        have hD : va_D A ([(a_ag, eI X 15 ag), (a_ae, eI X 50 ae), (a_ax, eI X 60 ax_1), (a_ay, eI X 22 ay_1)] ++ wo X ad sg) := hD
        refine i_if_ne (tgt := 80) hx hb h.1 dL_isSo_73 (by decide) (fun c13 => ?_) (fun c13 => ?_)
        · have h := h.2.1 c13
          refine W.widen (k := 1) (n := 6) (Nat.le_of_ble_eq_true rfl) (Nat.le_of_ble_eq_true rfl) ?_
          exact B80  ax_1 ay_1 (ag 14) 0 0 0 0 0 h _ _ _ hP hD hS (lv_sub hl [6, 7, 8, 9, 10, 5, 4, 3, 2, 1, 0] rfl)
        · have h := h.2.2 c13
          refine lv_iconst (v := iI 1) hx hb dL_isSo_76 rfl ?_
          refine lv_goto (tgt := 81) hx hb dL_isSo_77 (by decide) ?_
          refine W.widen (k := 1) (n := 6) (Nat.le_of_ble_eq_true rfl) (Nat.le_of_ble_eq_true rfl) ?_
          exact B81  ax_1 ay_1 (ag 14) 0 0 0 0 0 1 h _ _ _ hP hD hS (lv_sub hl [6, 7, 8, 9, 10, 5, 4, 3, 2, 1, 0] rfl)
