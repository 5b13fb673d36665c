abbrev rmX5_signWidth : Room := { frames := 0, cells := 0, slots := 0, locals := 0 }
set_option maxHeartbeats 4000000 in
set_option maxRecDepth 100000 in
theorem kX5_signWidth (l : Launch) (X : XD) (p0 : Int) (post : Int → Prop) (h : wpX5_signWidth p0 post) : MCi l yX5_signWidth wsX5_signWidth rmX5_signWidth X [.int (iI p0)] [] (S := Unit) (fun _ => []) (fun z _ => post z) 0 0 := by
  refine MCi.of (cc := cX5_signWidth) (maxL := 1) (by decide +kernel) rfl rfl ?_
  intro p e s m args below meth c A ls Q hE0 hP hD hS hl hend
  obtain ⟨hx, hb, hr, hml, hlocks, hown, hts, hK, hE, hA, hnm⟩ := hE0
  have hl : lv_has ls 1 [(0, .int (iI p0))] := hl
  have hf_218 := hts (.fieldLink RX5 218 "LentMargins" "SIGN_WIDTH" "[I") (by decide +kernel)
  obtain ⟨t_SIGN_WIDTH, hZ_SIGN_WIDTH, hT_SIGN_WIDTH, hC_SIGN_WIDTH⟩ := hE.2.1 _ (List.mem_of_getElem? (l := st_arrs) (i := 4) rfl)
  refine lv_iload_n hx hb dX5_signWidth_0 rfl (lv_at hl 0 rfl) ?_
  refine i_if_lt (tgt := 18) hx hb h.1 dX5_signWidth_1 (by decide) (fun c1 => ?_) (fun c1 => ?_)
  · have h := h.2.1 c1
    refine lv_iconst (v := iI 0) hx hb dX5_signWidth_18 rfl ?_
    exact hend _ _ _ _ _ _ 0 () hP hD hS h (Nat.le_of_ble_eq_true rfl) (Nat.le_of_ble_eq_true rfl) dX5_signWidth_19
  · have h := h.2.2 c1
    refine lv_iload_n hx hb dX5_signWidth_4 rfl (lv_at hl 0 rfl) ?_
    refine lv_bipush (v := iI 8) hx hb dX5_signWidth_5 (by decide +kernel) ?_
    refine i_cmp_ge (tgt := 18) hx hb h.1 (inR_lit rfl) dX5_signWidth_7 (by decide) (fun c2 => ?_) (fun c2 => ?_)
    · have h := h.2.1 c2
      refine lv_iconst (v := iI 0) hx hb dX5_signWidth_18 rfl ?_
      exact hend _ _ _ _ _ _ 0 () hP hD hS h (Nat.le_of_ble_eq_true rfl) (Nat.le_of_ble_eq_true rfl) dX5_signWidth_19
    · have h := h.2.2 c2
      refine va_gets hx hb hZ_SIGN_WIDTH hS hown hf_218 (fun _ h9 => h9) dX5_signWidth_10 ?_
      refine lv_iload_n hx hb dX5_signWidth_13 rfl (lv_at hl 0 rfl) ?_
      refine i_tld hx hb hT_SIGN_WIDTH hS h.1 h.2.1 rfl (Nat.le_of_ble_eq_true rfl) dX5_signWidth_14 ?_
      have h := h.2.2
      refine lv_goto (tgt := 19) hx hb dX5_signWidth_15 (by decide) ?_
      exact hend _ _ _ _ _ _ (tb_SIGN_WIDTH (p0).toNat) () hP hD hS h (Nat.le_of_ble_eq_true rfl) (Nat.le_of_ble_eq_true rfl) dX5_signWidth_19
abbrev rmX5_mayStandAhead : Room := { frames := 0, cells := 0, slots := 0, locals := 0 }
set_option maxHeartbeats 4000000 in
set_option maxRecDepth 100000 in
theorem kX5_mayStandAhead (l : Launch) (X : XD) (p0 : Int) (post : Int → Prop) (h : wpX5_mayStandAhead p0 post) : MCi l yX5_mayStandAhead wsX5_mayStandAhead rmX5_mayStandAhead X [.int (iI p0)] [] (S := Unit) (fun _ => []) (fun z _ => post z) 0 0 := by
  refine MCz.of (cc := cX5_mayStandAhead) (maxL := 1) (by decide +kernel) rfl rfl ?_
  intro p e s m args below meth c A ls Q hE0 hP hD hS hl hend
  obtain ⟨hx, hb, hr, hml, hlocks, hown, hts, hK, hE, hA, hnm⟩ := hE0
  have hl : lv_has ls 1 [(0, .int (iI p0))] := hl
  refine lv_iload_n hx hb dX5_mayStandAhead_0 rfl (lv_at hl 0 rfl) ?_
  refine i_if_eq (tgt := 9) hx hb h.1 dX5_mayStandAhead_1 (by decide) (fun c1 => ?_) (fun c1 => ?_)
  · have h := h.2.1 c1
    refine lv_iconst (v := iI 1) hx hb dX5_mayStandAhead_9 rfl ?_
    refine lv_goto (tgt := 14) hx hb dX5_mayStandAhead_10 (by decide) ?_
    exact hend _ _ _ _ _ _ 1 () hP hD hS (Or.inr rfl) h (Nat.le_of_ble_eq_true rfl) (Nat.le_of_ble_eq_true rfl) dX5_mayStandAhead_14
  · have h := h.2.2 c1
    refine lv_iload_n hx hb dX5_mayStandAhead_4 rfl (lv_at hl 0 rfl) ?_
    refine lv_iconst (v := iI 1) hx hb dX5_mayStandAhead_5 rfl ?_
    refine i_cmp_ne (tgt := 13) hx hb h.1 (inR_lit rfl) dX5_mayStandAhead_6 (by decide) (fun c2 => ?_) (fun c2 => ?_)
    · have h := h.2.1 c2
      refine lv_iconst (v := iI 0) hx hb dX5_mayStandAhead_13 rfl ?_
      exact hend _ _ _ _ _ _ 0 () hP hD hS (Or.inl rfl) h (Nat.le_of_ble_eq_true rfl) (Nat.le_of_ble_eq_true rfl) dX5_mayStandAhead_14
    · have h := h.2.2 c2
      refine lv_iconst (v := iI 1) hx hb dX5_mayStandAhead_9 rfl ?_
      refine lv_goto (tgt := 14) hx hb dX5_mayStandAhead_10 (by decide) ?_
      exact hend _ _ _ _ _ _ 1 () hP hD hS (Or.inr rfl) h (Nat.le_of_ble_eq_true rfl) (Nat.le_of_ble_eq_true rfl) dX5_mayStandAhead_14
abbrev rmX5_mayStandBehind : Room := { frames := 0, cells := 0, slots := 0, locals := 0 }
set_option maxHeartbeats 4000000 in
set_option maxRecDepth 100000 in
theorem kX5_mayStandBehind (l : Launch) (X : XD) (p0 : Int) (post : Int → Prop) (h : wpX5_mayStandBehind p0 post) : MCi l yX5_mayStandBehind wsX5_mayStandBehind rmX5_mayStandBehind X [.int (iI p0)] [] (S := Unit) (fun _ => []) (fun z _ => post z) 0 0 := by
  refine MCz.of (cc := cX5_mayStandBehind) (maxL := 1) (by decide +kernel) rfl rfl ?_
  intro p e s m args below meth c A ls Q hE0 hP hD hS hl hend
  obtain ⟨hx, hb, hr, hml, hlocks, hown, hts, hK, hE, hA, hnm⟩ := hE0
  have hl : lv_has ls 1 [(0, .int (iI p0))] := hl
  refine lv_iload_n hx hb dX5_mayStandBehind_0 rfl (lv_at hl 0 rfl) ?_
  refine i_if_eq (tgt := 15) hx hb h.1 dX5_mayStandBehind_1 (by decide) (fun c1 => ?_) (fun c1 => ?_)
  · have h := h.2.1 c1
    refine lv_iconst (v := iI 1) hx hb dX5_mayStandBehind_15 rfl ?_
    refine lv_goto (tgt := 20) hx hb dX5_mayStandBehind_16 (by decide) ?_
    exact hend _ _ _ _ _ _ 1 () hP hD hS (Or.inr rfl) h (Nat.le_of_ble_eq_true rfl) (Nat.le_of_ble_eq_true rfl) dX5_mayStandBehind_20
  · have h := h.2.2 c1
    refine lv_iload_n hx hb dX5_mayStandBehind_4 rfl (lv_at hl 0 rfl) ?_
    refine lv_iconst (v := iI 2) hx hb dX5_mayStandBehind_5 rfl ?_
    refine i_cmp_lt (tgt := 19) hx hb h.1 (inR_lit rfl) dX5_mayStandBehind_6 (by decide) (fun c2 => ?_) (fun c2 => ?_)
    · have h := h.2.1 c2
      refine lv_iconst (v := iI 0) hx hb dX5_mayStandBehind_19 rfl ?_
      exact hend _ _ _ _ _ _ 0 () hP hD hS (Or.inl rfl) h (Nat.le_of_ble_eq_true rfl) (Nat.le_of_ble_eq_true rfl) dX5_mayStandBehind_20
    · have h := h.2.2 c2
      refine lv_iload_n hx hb dX5_mayStandBehind_9 rfl (lv_at hl 0 rfl) ?_
      refine lv_bipush (v := iI 8) hx hb dX5_mayStandBehind_10 (by decide +kernel) ?_
      refine i_cmp_ge (tgt := 19) hx hb h.1 (inR_lit rfl) dX5_mayStandBehind_12 (by decide) (fun c3 => ?_) (fun c3 => ?_)
      · have h := h.2.1 c3
        refine lv_iconst (v := iI 0) hx hb dX5_mayStandBehind_19 rfl ?_
        exact hend _ _ _ _ _ _ 0 () hP hD hS (Or.inl rfl) h (Nat.le_of_ble_eq_true rfl) (Nat.le_of_ble_eq_true rfl) dX5_mayStandBehind_20
      · have h := h.2.2 c3
        refine lv_iconst (v := iI 1) hx hb dX5_mayStandBehind_15 rfl ?_
        refine lv_goto (tgt := 20) hx hb dX5_mayStandBehind_16 (by decide) ?_
        exact hend _ _ _ _ _ _ 1 () hP hD hS (Or.inr rfl) h (Nat.le_of_ble_eq_true rfl) (Nat.le_of_ble_eq_true rfl) dX5_mayStandBehind_20
abbrev rmX5_checkIndex : Room := { frames := 6, cells := 1, slots := 6, locals := 82 }
set_option maxHeartbeats 4000000 in
set_option maxRecDepth 100000 in
theorem kX5_checkIndex (l : Launch) (hst : l.stackTraces = false) (X : XD) (p0 : Int) (p1 : Int) (xp : String → Prop) (post : Prop) (h : wpX5_checkIndex p0 p1 xp post) : MXv l yX5_checkIndex wsX5_checkIndex rmX5_checkIndex X [.int (iI p0), .int (iI p1)] [] (S := Unit) (fun _ => []) (fun _ => post) xp 1 6 := by
  refine MXv.of (cc := cX5_checkIndex) (maxL := 2) hst (by decide +kernel) rfl rfl ?_
  intro p e s m args below meth c A ls Q hE0 hP hD hS hl hend
  obtain ⟨hx, hb, hr, hml, hlocks, hown, hts, hK, hE, hA, hnm⟩ := hE0
  have hl : lv_has ls 2 [(0, .int (iI p0)), (1, .int (iI p1))] := hl
  have hat_207 : ∀ w ∈ vx_atS RX5 207 "java/lang/IndexOutOfBoundsException" ["java/lang/RuntimeException", "java/lang/Exception"], w.before args s = true := by
      exact vx_hat (B := [.castable "java/lang/IndexOutOfBoundsException" "java/lang/IndexOutOfBoundsException", .declares (Bundle.initS "java/lang/RuntimeException"), .declares (Bundle.initS "java/lang/Exception"), .declares (Bundle.initS "java/lang/Throwable")]) (fun w hw => hts w (List.mem_cons_of_mem _ (List.mem_append_right _ hw))) (by decide +kernel) (vx_c (va_Nw.use rfl (hE.1.2.2.2.2.1 "java/lang/IndexOutOfBoundsException" (by decide +kernel))) (vx_c (va_Nw.use rfl (hE.1.2.2.2.2.2.1 _ (by decide +kernel))) (vx_c (va_Nw.use rfl (hE.1.2.2.2.2.2.1 _ (by decide +kernel))) (vx_c (va_Nw.use rfl (hE.1.2.2.2.2.2.1 _ (by decide +kernel))) vx_n))))
  refine lv_iload_n hx hb dX5_checkIndex_0 rfl (lv_at hl 0 rfl) ?_
  refine i_if_lt (tgt := 9) hx hb h.1 dX5_checkIndex_1 (by decide) (fun c1 => ?_) (fun c1 => ?_)
  · have h := h.2.1 c1
    obtain ⟨sa2, hsa2⟩ := hE.2.2.1 _ (List.mem_of_getElem? (l := st_strs) (i := 0) rfl)
    exact hend.1.2 _ _ _ _ _ _ _ RX5 "java/lang/IndexOutOfBoundsException" _ ["java/lang/RuntimeException", "java/lang/Exception"] 203 205 207 sa2 hown (by decide +kernel) (by decide +kernel) (hts (.classLink RX5 203 "java/lang/IndexOutOfBoundsException") (by decide +kernel)) (hts (.initialized "java/lang/IndexOutOfBoundsException") (by decide +kernel)) hsa2 (hat_207) (by decide +kernel) hP hD hS (hl.1.trans hml.symm) h (by rw [hb]; exact dX5_checkIndex_9) (by rw [hb]; exact dX5_checkIndex_12) (by rw [hb]; exact dX5_checkIndex_13) (by rw [hb]; exact dX5_checkIndex_15) (by rw [hb]; exact dX5_checkIndex_18) (Nat.le_of_ble_eq_true rfl) (Nat.le_of_ble_eq_true rfl) (Nat.le_of_ble_eq_true rfl) (Nat.le_of_ble_eq_true rfl) (Nat.le_of_ble_eq_true rfl) (Nat.le_of_ble_eq_true rfl)
  · have h := h.2.2 c1
    refine lv_iload_n hx hb dX5_checkIndex_4 rfl (lv_at hl 0 rfl) ?_
    refine lv_iload_n hx hb dX5_checkIndex_5 rfl (lv_at hl 1 rfl) ?_
    refine i_cmp_lt (tgt := 19) hx hb h.1 h.2.1 dX5_checkIndex_6 (by decide) (fun c3 => ?_) (fun c3 => ?_)
    · have h := h.2.2.1 c3
      exact hend.2 _ _ _ _ _ _ () hP hD hS h (Nat.le_of_ble_eq_true rfl) (Nat.le_of_ble_eq_true rfl) dX5_checkIndex_19
    · have h := h.2.2.2 c3
      obtain ⟨sa4, hsa4⟩ := hE.2.2.1 _ (List.mem_of_getElem? (l := st_strs) (i := 0) rfl)
      exact hend.1.2 _ _ _ _ _ _ _ RX5 "java/lang/IndexOutOfBoundsException" _ ["java/lang/RuntimeException", "java/lang/Exception"] 203 205 207 sa4 hown (by decide +kernel) (by decide +kernel) (hts (.classLink RX5 203 "java/lang/IndexOutOfBoundsException") (by decide +kernel)) (hts (.initialized "java/lang/IndexOutOfBoundsException") (by decide +kernel)) hsa4 (hat_207) (by decide +kernel) hP hD hS (hl.1.trans hml.symm) h (by rw [hb]; exact dX5_checkIndex_9) (by rw [hb]; exact dX5_checkIndex_12) (by rw [hb]; exact dX5_checkIndex_13) (by rw [hb]; exact dX5_checkIndex_15) (by rw [hb]; exact dX5_checkIndex_18) (Nat.le_of_ble_eq_true rfl) (Nat.le_of_ble_eq_true rfl) (Nat.le_of_ble_eq_true rfl) (Nat.le_of_ble_eq_true rfl) (Nat.le_of_ble_eq_true rfl) (Nat.le_of_ble_eq_true rfl)
abbrev rmX5_checkRange : Room := { frames := 6, cells := 1, slots := 6, locals := 82 }
set_option maxHeartbeats 4000000 in
set_option maxRecDepth 100000 in
theorem kX5_checkRange (l : Launch) (hst : l.stackTraces = false) (X : XD) (p0 : Int) (p1 : Int) (p2 : Int) (xp : String → Prop) (post : Prop) (h : wpX5_checkRange p0 p1 p2 xp post) : MXv l yX5_checkRange wsX5_checkRange rmX5_checkRange X [.int (iI p0), .int (iI p1), .int (iI p2)] [] (S := Unit) (fun _ => []) (fun _ => post) xp 1 6 := by
  refine MXv.of (cc := cX5_checkRange) (maxL := 3) hst (by decide +kernel) rfl rfl ?_
  intro p e s m args below meth c A ls Q hE0 hP hD hS hl hend
  obtain ⟨hx, hb, hr, hml, hlocks, hown, hts, hK, hE, hA, hnm⟩ := hE0
  have hl : lv_has ls 3 [(0, .int (iI p0)), (1, .int (iI p1)), (2, .int (iI p2))] := hl
  have hat_177 : ∀ w ∈ vx_atS RX5 177 "java/lang/IllegalArgumentException" ["java/lang/RuntimeException", "java/lang/Exception"], w.before args s = true := by
      exact vx_hat (B := [.castable "java/lang/IllegalArgumentException" "java/lang/IllegalArgumentException", .declares (Bundle.initS "java/lang/RuntimeException"), .declares (Bundle.initS "java/lang/Exception"), .declares (Bundle.initS "java/lang/Throwable")]) (fun w hw => hts w (List.mem_cons_of_mem _ (List.mem_append_right _ hw))) (by decide +kernel) (vx_c (va_Nw.use rfl (hE.1.2.2.2.2.1 "java/lang/IllegalArgumentException" (by decide +kernel))) (vx_c (va_Nw.use rfl (hE.1.2.2.2.2.2.1 _ (by decide +kernel))) (vx_c (va_Nw.use rfl (hE.1.2.2.2.2.2.1 _ (by decide +kernel))) (vx_c (va_Nw.use rfl (hE.1.2.2.2.2.2.1 _ (by decide +kernel))) vx_n))))
  refine lv_iload_n hx hb dX5_checkRange_0 rfl (lv_at hl 0 rfl) ?_
  refine lv_iload_n hx hb dX5_checkRange_1 rfl (lv_at hl 1 rfl) ?_
  refine i_cmp_lt (tgt := 10) hx hb h.1 h.2.1 dX5_checkRange_2 (by decide) (fun c1 => ?_) (fun c1 => ?_)
  · have h := h.2.2.1 c1
    obtain ⟨sa2, hsa2⟩ := hE.2.2.1 _ (List.mem_of_getElem? (l := st_strs) (i := 1) rfl)
    exact hend.1.2 _ _ _ _ _ _ _ RX5 "java/lang/IllegalArgumentException" _ ["java/lang/RuntimeException", "java/lang/Exception"] 173 208 177 sa2 hown (by decide +kernel) (by decide +kernel) (hts (.classLink RX5 173 "java/lang/IllegalArgumentException") (by decide +kernel)) (hts (.initialized "java/lang/IllegalArgumentException") (by decide +kernel)) hsa2 (hat_177) (by decide +kernel) hP hD hS (hl.1.trans hml.symm) h (by rw [hb]; exact dX5_checkRange_10) (by rw [hb]; exact dX5_checkRange_13) (by rw [hb]; exact dX5_checkRange_14) (by rw [hb]; exact dX5_checkRange_16) (by rw [hb]; exact dX5_checkRange_19) (Nat.le_of_ble_eq_true rfl) (Nat.le_of_ble_eq_true rfl) (Nat.le_of_ble_eq_true rfl) (Nat.le_of_ble_eq_true rfl) (Nat.le_of_ble_eq_true rfl) (Nat.le_of_ble_eq_true rfl)
  · have h := h.2.2.2 c1
    refine lv_iload_n hx hb dX5_checkRange_5 rfl (lv_at hl 0 rfl) ?_
    refine lv_iload_n hx hb dX5_checkRange_6 rfl (lv_at hl 2 rfl) ?_
    refine i_cmp_le (tgt := 20) hx hb h.1 h.2.1 dX5_checkRange_7 (by decide) (fun c3 => ?_) (fun c3 => ?_)
    · have h := h.2.2.1 c3
      exact hend.2 _ _ _ _ _ _ () hP hD hS h (Nat.le_of_ble_eq_true rfl) (Nat.le_of_ble_eq_true rfl) dX5_checkRange_20
    · have h := h.2.2.2 c3
      obtain ⟨sa4, hsa4⟩ := hE.2.2.1 _ (List.mem_of_getElem? (l := st_strs) (i := 1) rfl)
      exact hend.1.2 _ _ _ _ _ _ _ RX5 "java/lang/IllegalArgumentException" _ ["java/lang/RuntimeException", "java/lang/Exception"] 173 208 177 sa4 hown (by decide +kernel) (by decide +kernel) (hts (.classLink RX5 173 "java/lang/IllegalArgumentException") (by decide +kernel)) (hts (.initialized "java/lang/IllegalArgumentException") (by decide +kernel)) hsa4 (hat_177) (by decide +kernel) hP hD hS (hl.1.trans hml.symm) h (by rw [hb]; exact dX5_checkRange_10) (by rw [hb]; exact dX5_checkRange_13) (by rw [hb]; exact dX5_checkRange_14) (by rw [hb]; exact dX5_checkRange_16) (by rw [hb]; exact dX5_checkRange_19) (Nat.le_of_ble_eq_true rfl) (Nat.le_of_ble_eq_true rfl) (Nat.le_of_ble_eq_true rfl) (Nat.le_of_ble_eq_true rfl) (Nat.le_of_ble_eq_true rfl) (Nat.le_of_ble_eq_true rfl)
abbrev rmX5_checkSigns : Room := { frames := 6, cells := 1, slots := 6, locals := 82 }
set_option maxHeartbeats 4000000 in
set_option maxRecDepth 100000 in
theorem kX5_checkSigns (l : Launch) (hst : l.stackTraces = false) (X : XD) (p0 : Int) (p1 : Int) (xp : String → Prop) (post : Prop) (h : wpX5_checkSigns p0 p1 xp post) : MXv l yX5_checkSigns wsX5_checkSigns rmX5_checkSigns X [.int (iI p0), .int (iI p1)] [] (S := Unit) (fun _ => []) (fun _ => post) xp 1 6 := by
  refine MXv.of (cc := cX5_checkSigns) (maxL := 2) hst (by decide +kernel) rfl rfl ?_
  intro p e s m args below meth c A ls Q hE0 hP hD hS hl hend
  obtain ⟨hx, hb, hr, hml, hlocks, hown, hts, hK, hE, hA, hnm⟩ := hE0
  have hl : lv_has ls 2 [(0, .int (iI p0)), (1, .int (iI p1))] := hl
  have hat_177 : ∀ w ∈ vx_atS RX5 177 "java/lang/IllegalArgumentException" ["java/lang/RuntimeException", "java/lang/Exception"], w.before args s = true := by
      exact vx_hat (B := [.castable "java/lang/IllegalArgumentException" "java/lang/IllegalArgumentException", .declares (Bundle.initS "java/lang/RuntimeException"), .declares (Bundle.initS "java/lang/Exception"), .declares (Bundle.initS "java/lang/Throwable")]) (fun w hw => hts w (List.mem_cons_of_mem _ (List.mem_append_right _ hw))) (by decide +kernel) (vx_c (va_Nw.use rfl (hE.1.2.2.2.2.1 "java/lang/IllegalArgumentException" (by decide +kernel))) (vx_c (va_Nw.use rfl (hE.1.2.2.2.2.2.1 _ (by decide +kernel))) (vx_c (va_Nw.use rfl (hE.1.2.2.2.2.2.1 _ (by decide +kernel))) (vx_c (va_Nw.use rfl (hE.1.2.2.2.2.2.1 _ (by decide +kernel))) vx_n))))
  have B12 : ∀ (v1 : Int), wpX5_checkSigns_12 xp post v1 → ∀ (H : Heap) (locs : List Loc) (ls : Array Slot), va_P X.1 vwCl [] H → va_D A [] → va_S A s.heap H locs → lv_has ls 2 [(1, .int (iI v1))] → W p l e rmX5_checkSigns s m args below meth c H locs 0 0 Q (F0 m 12 ls []) := by
    intro  v1 h H locs ls hP hD hS hl
    refine lv_iload_n hx hb dX5_checkSigns_12 rfl (lv_at hl 0 rfl) ?_
    refine lv_iconst (v := iI (-1)) hx hb dX5_checkSigns_13 rfl ?_
    refine i_cmp_eq (tgt := 34) hx hb h.1 (inR_lit rfl) dX5_checkSigns_14 (by decide) (fun c1 => ?_) (fun c1 => ?_)
    · have h := h.2.1 c1
      exact hend.2 _ _ _ _ _ _ () hP hD hS h (Nat.le_of_ble_eq_true rfl) (Nat.le_of_ble_eq_true rfl) dX5_checkSigns_34
    · have h := h.2.2 c1
      refine lv_iload_n hx hb dX5_checkSigns_17 rfl (lv_at hl 0 rfl) ?_
      refine e_i (isC := []) (isR := []) (wr := []) (va_runS (As := [.int (iI v1)]) (rest := []) ⟨hx, hb, hml, hown, hts⟩ (kX5_mayStandBehind l X v1 _ h _) (va_cwS 1 hts gX5_checkSigns_X5_mayStandBehind rfl rfl rfl (by decide +kernel) ⟨(Nat.le_of_ble_eq_true rfl), (Nat.le_of_ble_eq_true rfl)⟩) ⟨pre_blind, pre_cut hE hK hA hP hD hS (isC := []) rfl (by decide +kernel)⟩ rfl rfl hl.1 rfl (lv_room (Nat.le_of_ble_eq_true rfl)) dX5_checkSigns_18 ⟨(Nat.le_of_ble_eq_true rfl), (Nat.le_of_ble_eq_true rfl)⟩) hA hP hD hS rfl rfl (by decide +kernel) (by decide +kernel) (fun z2 u2 H locs h hP hD hS => ?_)
      have hP : va_P X.1 vwCl [] H := hP
      have hD : va_D A [] := hD
      refine i_if_ne (tgt := 34) hx hb h.1 dX5_checkSigns_21 (by decide) (fun c3 => ?_) (fun c3 => ?_)
      · have h := h.2.1 c3
        exact hend.2 _ _ _ _ _ _ () hP hD hS h (Nat.le_of_ble_eq_true rfl) (Nat.le_of_ble_eq_true rfl) dX5_checkSigns_34
      · have h := h.2.2 c3
        obtain ⟨sa4, hsa4⟩ := hE.2.2.1 _ (List.mem_of_getElem? (l := st_strs) (i := 2) rfl)
        exact hend.1.2 _ _ _ _ _ _ _ RX5 "java/lang/IllegalArgumentException" _ ["java/lang/RuntimeException", "java/lang/Exception"] 173 216 177 sa4 hown (by decide +kernel) (by decide +kernel) (hts (.classLink RX5 173 "java/lang/IllegalArgumentException") (by decide +kernel)) (hts (.initialized "java/lang/IllegalArgumentException") (by decide +kernel)) hsa4 (hat_177) (by decide +kernel) hP hD hS (hl.1.trans hml.symm) h (by rw [hb]; exact dX5_checkSigns_24) (by rw [hb]; exact dX5_checkSigns_27) (by rw [hb]; exact dX5_checkSigns_28) (by rw [hb]; exact dX5_checkSigns_30) (by rw [hb]; exact dX5_checkSigns_33) (Nat.le_of_ble_eq_true rfl) (Nat.le_of_ble_eq_true rfl) (Nat.le_of_ble_eq_true rfl) (Nat.le_of_ble_eq_true rfl) (Nat.le_of_ble_eq_true rfl) (Nat.le_of_ble_eq_true rfl)
  refine lv_iload_n hx hb dX5_checkSigns_0 rfl (lv_at hl 0 rfl) ?_
  refine lv_iconst (v := iI (-1)) hx hb dX5_checkSigns_1 rfl ?_
  refine i_cmp_eq (tgt := 12) hx hb h.1 (inR_lit rfl) dX5_checkSigns_2 (by decide) (fun c1 => ?_) (fun c1 => ?_)
  · have h := h.2.1 c1
    exact B12  p1 h _ _ _ hP hD hS (lv_sub hl [1] rfl)
  · have h := h.2.2 c1
    refine lv_iload_n hx hb dX5_checkSigns_5 rfl (lv_at hl 0 rfl) ?_
    refine e_i (isC := []) (isR := []) (wr := []) (va_runS (As := [.int (iI p0)]) (rest := []) ⟨hx, hb, hml, hown, hts⟩ (kX5_mayStandAhead l X p0 _ h _) (va_cwS 1 hts gX5_checkSigns_X5_mayStandAhead rfl rfl rfl (by decide +kernel) ⟨(Nat.le_of_ble_eq_true rfl), (Nat.le_of_ble_eq_true rfl)⟩) ⟨pre_blind, pre_cut hE hK hA hP hD hS (isC := []) rfl (by decide +kernel)⟩ rfl rfl hl.1 rfl (lv_room (Nat.le_of_ble_eq_true rfl)) dX5_checkSigns_6 ⟨(Nat.le_of_ble_eq_true rfl), (Nat.le_of_ble_eq_true rfl)⟩) hA hP hD hS rfl rfl (by decide +kernel) (by decide +kernel) (fun z2 u2 H locs h hP hD hS => ?_)
    have hP : va_P X.1 vwCl [] H := hP
    have hD : va_D A [] := hD
    refine i_if_eq (tgt := 24) hx hb h.1 dX5_checkSigns_9 (by decide) (fun c3 => ?_) (fun c3 => ?_)
    · have h := h.2.1 c3
      obtain ⟨sa4, hsa4⟩ := hE.2.2.1 _ (List.mem_of_getElem? (l := st_strs) (i := 2) rfl)
      exact hend.1.2 _ _ _ _ _ _ _ RX5 "java/lang/IllegalArgumentException" _ ["java/lang/RuntimeException", "java/lang/Exception"] 173 216 177 sa4 hown (by decide +kernel) (by decide +kernel) (hts (.classLink RX5 173 "java/lang/IllegalArgumentException") (by decide +kernel)) (hts (.initialized "java/lang/IllegalArgumentException") (by decide +kernel)) hsa4 (hat_177) (by decide +kernel) hP hD hS (hl.1.trans hml.symm) h (by rw [hb]; exact dX5_checkSigns_24) (by rw [hb]; exact dX5_checkSigns_27) (by rw [hb]; exact dX5_checkSigns_28) (by rw [hb]; exact dX5_checkSigns_30) (by rw [hb]; exact dX5_checkSigns_33) (Nat.le_of_ble_eq_true rfl) (Nat.le_of_ble_eq_true rfl) (Nat.le_of_ble_eq_true rfl) (Nat.le_of_ble_eq_true rfl) (Nat.le_of_ble_eq_true rfl) (Nat.le_of_ble_eq_true rfl)
    · have h := h.2.2 c3
      exact B12  p1 h _ _ _ hP hD hS (lv_sub hl [1] rfl)

