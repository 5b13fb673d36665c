abbrev rmX6_thrown : Room := { frames := 0, cells := 0, slots := 0, locals := 0 }
set_option maxHeartbeats 4000000 in
set_option maxRecDepth 100000 in
theorem kX6_thrown (l : Launch) (X : XD) (a_m a_m_s a_m_past a_m_aside a_m_text a_m_line a_m_page : Nat) (m_pasts : Int) (m_typed : Int) (m_thrown : Int) (m_lines : Int) (m_pages : Int) (m_measure : Int) (m_mostLeft : Int) (m_mostRight : Int) (m_spot : Int) (m_h : Int64) (m_s : Nat → Int) (m_past : Nat → Int) (m_aside : Nat → Int) (m_text : Nat → Int) (m_line : Nat → Int) (m_page : Nat → Int) (post : Int → Prop) (h : wpX6_thrown m_thrown post) : MCi l yX6_thrown wsX6_thrown rmX6_thrown X [.ref a_m] [(a_m, .inr (6, [.ref a_m_s, .ref a_m_past, .ref a_m_aside, .int (iI m_pasts), .ref a_m_text, .int (iI m_typed), .int (iI m_thrown), .ref a_m_line, .ref a_m_page, .int (iI m_lines), .int (iI m_pages), .int (iI m_measure), .int (iI m_mostLeft), .int (iI m_mostRight), .int (iI m_spot), .long m_h])), (a_m_s, eI X 975 m_s), (a_m_past, eI X 3900 m_past), (a_m_aside, eI X 975 m_aside), (a_m_text, eI X 200 m_text), (a_m_line, eI X 600 m_line), (a_m_page, eI X 180 m_page)] (S := Unit) (fun _ => [(a_m, .inr (6, [.ref a_m_s, .ref a_m_past, .ref a_m_aside, .int (iI m_pasts), .ref a_m_text, .int (iI m_typed), .int (iI m_thrown), .ref a_m_line, .ref a_m_page, .int (iI m_lines), .int (iI m_pages), .int (iI m_measure), .int (iI m_mostLeft), .int (iI m_mostRight), .int (iI m_spot), .long m_h])), (a_m_s, eI X 975 m_s), (a_m_past, eI X 3900 m_past), (a_m_aside, eI X 975 m_aside), (a_m_text, eI X 200 m_text), (a_m_line, eI X 600 m_line), (a_m_page, eI X 180 m_page)]) (fun z _ => post z) 0 0 := by
  refine MCi.of (cc := cX6_thrown) (maxL := 1) (by decide +kernel) rfl rfl ?_
  intro p e s m args below meth c A ls Q hE0 hP hD hS hl hend
  obtain ⟨hx, hb, hr, hml, hlocks, hown, hts, hK, hE, hA, hnm⟩ := hE0
  have hl : lv_has ls 1 [(0, .ref a_m)] := hl
  have hi_X6 : ∀ w ∈ wsX60, w ∈ wsX6_thrown := by decide +kernel
  have hf_32 := hts (.fieldLink RX6 32 "LentMarginsModel" "thrown" "I") (by decide +kernel)
  refine lv_aload_n hx hb dX6_thrown_0 rfl (lv_at hl 0 rfl) ?_
  refine va_get (D := X.1) (ci := 6) (C := RX6) (T := TX6) (N := 16) hx hb hts hi_X6 hown hK hP 0 rfl rfl 6 (by decide) hf_32 (fun _ h9 => h9) rfl dX6_thrown_1 ?_
  exact hend _ _ _ _ _ _ m_thrown () hP hD hS h (Nat.le_of_ble_eq_true rfl) (Nat.le_of_ble_eq_true rfl) dX6_thrown_4
abbrev rmX6_in : Room := { frames := 0, cells := 0, slots := 0, locals := 0 }
set_option maxHeartbeats 4000000 in
set_option maxRecDepth 100000 in
theorem kX6_in (l : Launch) (X : XD) (p0 : Int) (p1 : Int) (p2 : Int) (post : Int → Prop) (h : wpX6_in p0 p1 p2 post) : MCi l yX6_in wsX6_in rmX6_in X [.int (iI p0), .int (iI p1), .int (iI p2)] [] (S := Unit) (fun _ => []) (fun z _ => post z) 0 0 := by
  refine MCz.of (cc := cX6_in) (maxL := 3) (by decide +kernel) rfl rfl ?_
  intro p e s m args below meth c A ls Q hE0 hP hD hS hl hend
  obtain ⟨hx, hb, hr, hml, hlocks, hown, hts, hK, hE, hA, hnm⟩ := hE0
  have hl : lv_has ls 3 [(0, .int (iI p0)), (1, .int (iI p1)), (2, .int (iI p2))] := hl
  refine lv_iload_n hx hb dX6_in_0 rfl (lv_at hl 0 rfl) ?_
  refine lv_iload_n hx hb dX6_in_1 rfl (lv_at hl 1 rfl) ?_
  refine i_cmp_lt (tgt := 14) hx hb h.1 h.2.1 dX6_in_2 (by decide) (fun c1 => ?_) (fun c1 => ?_)
  · have h := h.2.2.1 c1
    refine lv_iconst (v := iI 0) hx hb dX6_in_14 rfl ?_
    exact hend _ _ _ _ _ _ 0 () hP hD hS (Or.inl rfl) h (Nat.le_of_ble_eq_true rfl) (Nat.le_of_ble_eq_true rfl) dX6_in_15
  · have h := h.2.2.2 c1
    refine lv_iload_n hx hb dX6_in_5 rfl (lv_at hl 0 rfl) ?_
    refine lv_iload_n hx hb dX6_in_6 rfl (lv_at hl 2 rfl) ?_
    refine i_cmp_gt (tgt := 14) hx hb h.1 h.2.1 dX6_in_7 (by decide) (fun c2 => ?_) (fun c2 => ?_)
    · have h := h.2.2.1 c2
      refine lv_iconst (v := iI 0) hx hb dX6_in_14 rfl ?_
      exact hend _ _ _ _ _ _ 0 () hP hD hS (Or.inl rfl) h (Nat.le_of_ble_eq_true rfl) (Nat.le_of_ble_eq_true rfl) dX6_in_15
    · have h := h.2.2.2 c2
      refine lv_iconst (v := iI 1) hx hb dX6_in_10 rfl ?_
      refine lv_goto (tgt := 15) hx hb dX6_in_11 (by decide) ?_
      exact hend _ _ _ _ _ _ 1 () hP hD hS (Or.inr rfl) h (Nat.le_of_ble_eq_true rfl) (Nat.le_of_ble_eq_true rfl) dX6_in_15
abbrev rmX6_fails : Room := { frames := 0, cells := 0, slots := 0, locals := 0 }
set_option maxHeartbeats 4000000 in
set_option maxRecDepth 100000 in
theorem kX6_fails (l : Launch) (X : XD) (a_m a_m_s a_m_past a_m_aside a_m_text a_m_line a_m_page : Nat) (m_pasts : Int) (m_typed : Int) (m_thrown : Int) (m_lines : Int) (m_pages : Int) (m_measure : Int) (m_mostLeft : Int) (m_mostRight : Int) (m_spot : Int) (m_h : Int64) (m_s : Nat → Int) (m_past : Nat → Int) (m_aside : Nat → Int) (m_text : Nat → Int) (m_line : Nat → Int) (m_page : Nat → Int) (p1 : Int) (post : Int → Int → Prop) (h : wpX6_fails m_thrown p1 post) : MCi l yX6_fails wsX6_fails rmX6_fails X [.ref a_m, .int (iI p1)] [(a_m, .inr (6, [.ref a_m_s, .ref a_m_past, .ref a_m_aside, .int (iI m_pasts), .ref a_m_text, .int (iI m_typed), .int (iI m_thrown), .ref a_m_line, .ref a_m_page, .int (iI m_lines), .int (iI m_pages), .int (iI m_measure), .int (iI m_mostLeft), .int (iI m_mostRight), .int (iI m_spot), .long m_h])), (a_m_s, eI X 975 m_s), (a_m_past, eI X 3900 m_past), (a_m_aside, eI X 975 m_aside), (a_m_text, eI X 200 m_text), (a_m_line, eI X 600 m_line), (a_m_page, eI X 180 m_page)] (S := Int) (fun u => [(a_m, .inr (6, [.ref a_m_s, .ref a_m_past, .ref a_m_aside, .int (iI m_pasts), .ref a_m_text, .int (iI m_typed), .int (iI u), .ref a_m_line, .ref a_m_page, .int (iI m_lines), .int (iI m_pages), .int (iI m_measure), .int (iI m_mostLeft), .int (iI m_mostRight), .int (iI m_spot), .long m_h])), (a_m_s, eI X 975 m_s), (a_m_past, eI X 3900 m_past), (a_m_aside, eI X 975 m_aside), (a_m_text, eI X 200 m_text), (a_m_line, eI X 600 m_line), (a_m_page, eI X 180 m_page)]) (fun z u => post z u) 0 0 := by
  refine MCi.of (cc := cX6_fails) (maxL := 2) (by decide +kernel) rfl rfl ?_
  intro p e s m args below meth c A ls Q hE0 hP hD hS hl hend
  obtain ⟨hx, hb, hr, hml, hlocks, hown, hts, hK, hE, hA, hnm⟩ := hE0
  have hl : lv_has ls 2 [(0, .ref a_m), (1, .int (iI p1))] := hl
  have hi_X6 : ∀ w ∈ wsX60, w ∈ wsX6_fails := by decide +kernel
  have hf_32 := hts (.fieldLink RX6 32 "LentMarginsModel" "thrown" "I") (by decide +kernel)
  refine lv_aload_n hx hb dX6_fails_0 rfl (lv_at hl 0 rfl) ?_
  refine lv_iload_n hx hb dX6_fails_1 rfl (lv_at hl 1 rfl) ?_
  refine va_put (D := X.1) (ci := 6) (v := .int (iI p1)) (ty := .int) (C := RX6) (T := TX6) (N := 16) hx hb hts hi_X6 tyX6 tyX6_ok nmX6 hown hK hP hD hS 0 rfl rfl 6 (by decide) hf_32 (fun _ h9 => h9) rfl (by decide +kernel) rfl rfl (Nat.le_of_ble_eq_true rfl) dX6_fails_2 (fun H locs hP hD hS => ?_)
  have hP : va_P X.1 vwCl [(a_m, .inr (6, [.ref a_m_s, .ref a_m_past, .ref a_m_aside, .int (iI m_pasts), .ref a_m_text, .int (iI m_typed), .int (iI p1), .ref a_m_line, .ref a_m_page, .int (iI m_lines), .int (iI m_pages), .int (iI m_measure), .int (iI m_mostLeft), .int (iI m_mostRight), .int (iI m_spot), .long m_h])), (a_m_s, eI X 975 m_s), (a_m_past, eI X 3900 m_past), (a_m_aside, eI X 975 m_aside), (a_m_text, eI X 200 m_text), (a_m_line, eI X 600 m_line), (a_m_page, eI X 180 m_page)] H := hP
  have hD : va_D A [(a_m, .inr (6, [.ref a_m_s, .ref a_m_past, .ref a_m_aside, .int (iI m_pasts), .ref a_m_text, .int (iI m_typed), .int (iI p1), .ref a_m_line, .ref a_m_page, .int (iI m_lines), .int (iI m_pages), .int (iI m_measure), .int (iI m_mostLeft), .int (iI m_mostRight), .int (iI m_spot), .long m_h])), (a_m_s, eI X 975 m_s), (a_m_past, eI X 3900 m_past), (a_m_aside, eI X 975 m_aside), (a_m_text, eI X 200 m_text), (a_m_line, eI X 600 m_line), (a_m_page, eI X 180 m_page)] := hD
  refine lv_iconst (v := iI 0) hx hb dX6_fails_5 rfl ?_
  exact hend _ _ _ _ _ _ 0 p1 hP hD hS h (Nat.le_of_ble_eq_true rfl) (Nat.le_of_ble_eq_true rfl) dX6_fails_6
abbrev rmX6_tells : Room := { frames := 0, cells := 0, slots := 0, locals := 0 }
set_option maxHeartbeats 4000000 in
set_option maxRecDepth 100000 in
theorem kX6_tells (l : Launch) (X : XD) (a_m a_m_s a_m_past a_m_aside a_m_text a_m_line a_m_page : Nat) (m_pasts : Int) (m_typed : Int) (m_thrown : Int) (m_lines : Int) (m_pages : Int) (m_measure : Int) (m_mostLeft : Int) (m_mostRight : Int) (m_spot : Int) (m_h : Int64) (m_s : Nat → Int) (m_past : Nat → Int) (m_aside : Nat → Int) (m_text : Nat → Int) (m_line : Nat → Int) (m_page : Nat → Int) (p1 : Int) (post : Int → Int → Prop) (h : wpX6_tells m_thrown p1 post) : MCi l yX6_tells wsX6_tells rmX6_tells X [.ref a_m, .int (iI p1)] [(a_m, .inr (6, [.ref a_m_s, .ref a_m_past, .ref a_m_aside, .int (iI m_pasts), .ref a_m_text, .int (iI m_typed), .int (iI m_thrown), .ref a_m_line, .ref a_m_page, .int (iI m_lines), .int (iI m_pages), .int (iI m_measure), .int (iI m_mostLeft), .int (iI m_mostRight), .int (iI m_spot), .long m_h])), (a_m_s, eI X 975 m_s), (a_m_past, eI X 3900 m_past), (a_m_aside, eI X 975 m_aside), (a_m_text, eI X 200 m_text), (a_m_line, eI X 600 m_line), (a_m_page, eI X 180 m_page)] (S := Int) (fun u => [(a_m, .inr (6, [.ref a_m_s, .ref a_m_past, .ref a_m_aside, .int (iI m_pasts), .ref a_m_text, .int (iI m_typed), .int (iI u), .ref a_m_line, .ref a_m_page, .int (iI m_lines), .int (iI m_pages), .int (iI m_measure), .int (iI m_mostLeft), .int (iI m_mostRight), .int (iI m_spot), .long m_h])), (a_m_s, eI X 975 m_s), (a_m_past, eI X 3900 m_past), (a_m_aside, eI X 975 m_aside), (a_m_text, eI X 200 m_text), (a_m_line, eI X 600 m_line), (a_m_page, eI X 180 m_page)]) (fun z u => post z u) 0 0 := by
  refine MCi.of (cc := cX6_tells) (maxL := 2) (by decide +kernel) rfl rfl ?_
  intro p e s m args below meth c A ls Q hE0 hP hD hS hl hend
  obtain ⟨hx, hb, hr, hml, hlocks, hown, hts, hK, hE, hA, hnm⟩ := hE0
  have hl : lv_has ls 2 [(0, .ref a_m), (1, .int (iI p1))] := hl
  have hi_X6 : ∀ w ∈ wsX60, w ∈ wsX6_tells := by decide +kernel
  have hf_32 := hts (.fieldLink RX6 32 "LentMarginsModel" "thrown" "I") (by decide +kernel)
  refine lv_aload_n hx hb dX6_tells_0 rfl (lv_at hl 0 rfl) ?_
  refine lv_iconst (v := iI 0) hx hb dX6_tells_1 rfl ?_
  refine va_put (D := X.1) (ci := 6) (v := .int (iI 0)) (ty := .int) (C := RX6) (T := TX6) (N := 16) hx hb hts hi_X6 tyX6 tyX6_ok nmX6 hown hK hP hD hS 0 rfl rfl 6 (by decide) hf_32 (fun _ h9 => h9) rfl (by decide +kernel) rfl rfl (Nat.le_of_ble_eq_true rfl) dX6_tells_2 (fun H locs hP hD hS => ?_)
  have hP : va_P X.1 vwCl [(a_m, .inr (6, [.ref a_m_s, .ref a_m_past, .ref a_m_aside, .int (iI m_pasts), .ref a_m_text, .int (iI m_typed), .int (iI 0), .ref a_m_line, .ref a_m_page, .int (iI m_lines), .int (iI m_pages), .int (iI m_measure), .int (iI m_mostLeft), .int (iI m_mostRight), .int (iI m_spot), .long m_h])), (a_m_s, eI X 975 m_s), (a_m_past, eI X 3900 m_past), (a_m_aside, eI X 975 m_aside), (a_m_text, eI X 200 m_text), (a_m_line, eI X 600 m_line), (a_m_page, eI X 180 m_page)] H := hP
  have hD : va_D A [(a_m, .inr (6, [.ref a_m_s, .ref a_m_past, .ref a_m_aside, .int (iI m_pasts), .ref a_m_text, .int (iI m_typed), .int (iI 0), .ref a_m_line, .ref a_m_page, .int (iI m_lines), .int (iI m_pages), .int (iI m_measure), .int (iI m_mostLeft), .int (iI m_mostRight), .int (iI m_spot), .long m_h])), (a_m_s, eI X 975 m_s), (a_m_past, eI X 3900 m_past), (a_m_aside, eI X 975 m_aside), (a_m_text, eI X 200 m_text), (a_m_line, eI X 600 m_line), (a_m_page, eI X 180 m_page)] := hD
  refine lv_iload_n hx hb dX6_tells_5 rfl (lv_at hl 1 rfl) ?_
  exact hend _ _ _ _ _ _ p1 0 hP hD hS h (Nat.le_of_ble_eq_true rfl) (Nat.le_of_ble_eq_true rfl) dX6_tells_6
abbrev rmX6_hold : Room := { frames := 0, cells := 0, slots := 0, locals := 0 }
set_option maxHeartbeats 4000000 in
set_option maxRecDepth 100000 in
theorem kX6_hold (l : Launch) (X : XD) (a_m a_m_s a_m_past a_m_aside a_m_text a_m_line a_m_page : Nat) (m_pasts : Int) (m_typed : Int) (m_thrown : Int) (m_lines : Int) (m_pages : Int) (m_measure : Int) (m_mostLeft : Int) (m_mostRight : Int) (m_spot : Int) (m_h : Int64) (m_s : Nat → Int) (m_past : Nat → Int) (m_aside : Nat → Int) (m_text : Nat → Int) (m_line : Nat → Int) (m_page : Nat → Int) (post : (Nat → Int) → Prop) (h : wpX6_hold m_s m_aside post) : MCv l yX6_hold wsX6_hold rmX6_hold X [.ref a_m] [(a_m, .inr (6, [.ref a_m_s, .ref a_m_past, .ref a_m_aside, .int (iI m_pasts), .ref a_m_text, .int (iI m_typed), .int (iI m_thrown), .ref a_m_line, .ref a_m_page, .int (iI m_lines), .int (iI m_pages), .int (iI m_measure), .int (iI m_mostLeft), .int (iI m_mostRight), .int (iI m_spot), .long m_h])), (a_m_s, eI X 975 m_s), (a_m_past, eI X 3900 m_past), (a_m_aside, eI X 975 m_aside), (a_m_text, eI X 200 m_text), (a_m_line, eI X 600 m_line), (a_m_page, eI X 180 m_page)] (S := Nat → Int) (fun u => [(a_m, .inr (6, [.ref a_m_s, .ref a_m_past, .ref a_m_aside, .int (iI m_pasts), .ref a_m_text, .int (iI m_typed), .int (iI m_thrown), .ref a_m_line, .ref a_m_page, .int (iI m_lines), .int (iI m_pages), .int (iI m_measure), .int (iI m_mostLeft), .int (iI m_mostRight), .int (iI m_spot), .long m_h])), (a_m_s, eI X 975 m_s), (a_m_past, eI X 3900 m_past), (a_m_aside, eI X 975 u), (a_m_text, eI X 200 m_text), (a_m_line, eI X 600 m_line), (a_m_page, eI X 180 m_page)]) (fun u => post u) 0 0 := by
  refine MCv.of (cc := cX6_hold) (maxL := 2) (by decide +kernel) rfl rfl ?_
  intro p e s m args below meth c A ls Q hE0 hP hD hS hl hend
  obtain ⟨hx, hb, hr, hml, hlocks, hown, hts, hK, hE, hA, hnm⟩ := hE0
  have hl : lv_has ls 2 [(0, .ref a_m)] := hl
  have hi_X6 : ∀ w ∈ wsX60, w ∈ wsX6_hold := by decide +kernel
  have hf_7 := hts (.fieldLink RX6 7 "LentMarginsModel" "s" "[I") (by decide +kernel)
  have hf_16 := hts (.fieldLink RX6 16 "LentMarginsModel" "aside" "[I") (by decide +kernel)
  have B2 : ∀ (n : Nat) (m_aside : Nat → Int) (v1 : Int), wpX6_hold_2 m_s post n m_aside v1 → ∀ (H : Heap) (locs : List Loc) (ls : Array Slot), va_P X.1 vwCl [(a_m, .inr (6, [.ref a_m_s, .ref a_m_past, .ref a_m_aside, .int (iI m_pasts), .ref a_m_text, .int (iI m_typed), .int (iI m_thrown), .ref a_m_line, .ref a_m_page, .int (iI m_lines), .int (iI m_pages), .int (iI m_measure), .int (iI m_mostLeft), .int (iI m_mostRight), .int (iI m_spot), .long m_h])), (a_m_s, eI X 975 m_s), (a_m_past, eI X 3900 m_past), (a_m_aside, eI X 975 m_aside), (a_m_text, eI X 200 m_text), (a_m_line, eI X 600 m_line), (a_m_page, eI X 180 m_page)] H → va_D A [(a_m, .inr (6, [.ref a_m_s, .ref a_m_past, .ref a_m_aside, .int (iI m_pasts), .ref a_m_text, .int (iI m_typed), .int (iI m_thrown), .ref a_m_line, .ref a_m_page, .int (iI m_lines), .int (iI m_pages), .int (iI m_measure), .int (iI m_mostLeft), .int (iI m_mostRight), .int (iI m_spot), .long m_h])), (a_m_s, eI X 975 m_s), (a_m_past, eI X 3900 m_past), (a_m_aside, eI X 975 m_aside), (a_m_text, eI X 200 m_text), (a_m_line, eI X 600 m_line), (a_m_page, eI X 180 m_page)] → va_S A s.heap H locs → lv_has ls 2 [(0, .ref a_m), (1, .int (iI v1))] → W p l e rmX6_hold s m args below meth c H locs 0 0 Q (F0 m 2 ls []) := by
    intro  n
    induction n with
    | zero => intro m_aside v1 h; exact h.elim
    | succ n ih =>
      intro m_aside v1 h H locs ls hP hD hS hl
      refine lv_iload_n hx hb dX6_hold_2 rfl (lv_at hl 1 rfl) ?_
      refine lv_sipush (v := iI 975) hx hb dX6_hold_3 (by decide +kernel) ?_
      refine i_cmp_ge (tgt := 27) hx hb h.1 (inR_lit rfl) dX6_hold_6 (by decide) (fun c1 => ?_) (fun c1 => ?_)
      · have h := h.2.1 c1
        exact hend _ _ _ _ _ _ m_aside hP hD hS h (Nat.le_of_ble_eq_true rfl) (Nat.le_of_ble_eq_true rfl) dX6_hold_27
      · have h := h.2.2 c1
        refine lv_aload_n hx hb dX6_hold_9 rfl (lv_at hl 0 rfl) ?_
        refine va_get (D := X.1) (ci := 6) (C := RX6) (T := TX6) (N := 16) hx hb hts hi_X6 hown hK hP 0 rfl rfl 2 (by decide) hf_16 (fun _ h9 => h9) rfl dX6_hold_10 ?_
        refine lv_iload_n hx hb dX6_hold_13 rfl (lv_at hl 1 rfl) ?_
        refine lv_aload_n hx hb dX6_hold_14 rfl (lv_at hl 0 rfl) ?_
        refine va_get (D := X.1) (ci := 6) (C := RX6) (T := TX6) (N := 16) hx hb hts hi_X6 hown hK hP 0 rfl rfl 0 (by decide) hf_7 (fun _ h9 => h9) rfl dX6_hold_15 ?_
        refine lv_iload_n hx hb dX6_hold_18 rfl (lv_at hl 1 rfl) ?_
        refine i_ald hx hb hK hP 1 0 rfl rfl h.1 h.2.1 rfl (Nat.le_of_ble_eq_true rfl) dX6_hold_19 ?_
        have h := h.2.2
        refine i_ast hx hb hK hP hD hS 3 0 rfl rfl h.1 h.2.1 rfl (Nat.le_of_ble_eq_true rfl) dX6_hold_20 (fun H locs hP hD hS => ?_)
        have hP : va_P X.1 vwCl [(a_m, .inr (6, [.ref a_m_s, .ref a_m_past, .ref a_m_aside, .int (iI m_pasts), .ref a_m_text, .int (iI m_typed), .int (iI m_thrown), .ref a_m_line, .ref a_m_page, .int (iI m_lines), .int (iI m_pages), .int (iI m_measure), .int (iI m_mostLeft), .int (iI m_mostRight), .int (iI m_spot), .long m_h])), (a_m_s, eI X 975 m_s), (a_m_past, eI X 3900 m_past), (a_m_aside, eI X 975 (updI m_aside (v1).toNat (m_s (v1).toNat))), (a_m_text, eI X 200 m_text), (a_m_line, eI X 600 m_line), (a_m_page, eI X 180 m_page)] H := hP
        have hD : va_D A [(a_m, .inr (6, [.ref a_m_s, .ref a_m_past, .ref a_m_aside, .int (iI m_pasts), .ref a_m_text, .int (iI m_typed), .int (iI m_thrown), .ref a_m_line, .ref a_m_page, .int (iI m_lines), .int (iI m_pages), .int (iI m_measure), .int (iI m_mostLeft), .int (iI m_mostRight), .int (iI m_spot), .long m_h])), (a_m_s, eI X 975 m_s), (a_m_past, eI X 3900 m_past), (a_m_aside, eI X 975 (updI m_aside (v1).toNat (m_s (v1).toNat))), (a_m_text, eI X 200 m_text), (a_m_line, eI X 600 m_line), (a_m_page, eI X 180 m_page)] := hD
        have h := h.2.2
        refine lv_iinc (v := iI (v1 + 1)) (lv' := [(1, .int (iI (v1 + 1))), (0, .ref a_m)]) hx hb dX6_hold_21 hl (k := 1) rfl (iI_add _ _) (by decide) rfl (fun ls hl => ?_)
        refine lv_goto (tgt := 2) hx hb dX6_hold_24 (by decide) ?_
        exact ih (updI m_aside (v1).toNat (m_s (v1).toNat)) (v1 + 1) h _ _ _ hP hD hS (lv_sub hl [1, 0] rfl)
  refine lv_iconst (v := iI 0) hx hb dX6_hold_0 rfl ?_
  refine lv_istore_n (lv' := [(1, .int (iI 0)), (0, .ref a_m)]) hx hb dX6_hold_1 rfl hl (by decide) rfl (fun ls hl => ?_)
  obtain ⟨n1, h⟩ := h
  exact B2  n1 m_aside 0 h _ _ _ hP hD hS (lv_sub hl [1, 0] rfl)
abbrev rmX6_ends : Room := { frames := 1, cells := 0, slots := 0, locals := 21 }
set_option maxHeartbeats 4000000 in
set_option maxRecDepth 100000 in
theorem kX6_ends (l : Launch) (X : XD) (a_m a_m_s a_m_past a_m_aside a_m_text a_m_line a_m_page : Nat) (m_pasts : Int) (m_typed : Int) (m_thrown : Int) (m_lines : Int) (m_pages : Int) (m_measure : Int) (m_mostLeft : Int) (m_mostRight : Int) (m_spot : Int) (m_h : Int64) (m_s : Nat → Int) (m_past : Nat → Int) (m_aside : Nat → Int) (m_text : Nat → Int) (m_line : Nat → Int) (m_page : Nat → Int) (p1 : Int) (post : Int → Int → Int → (Nat → Int) → Prop) (h : wpX6_ends m_pasts m_thrown m_past m_aside p1 post) : MCi l yX6_ends wsX6_ends rmX6_ends X [.ref a_m, .int (iI p1)] [(a_m, .inr (6, [.ref a_m_s, .ref a_m_past, .ref a_m_aside, .int (iI m_pasts), .ref a_m_text, .int (iI m_typed), .int (iI m_thrown), .ref a_m_line, .ref a_m_page, .int (iI m_lines), .int (iI m_pages), .int (iI m_measure), .int (iI m_mostLeft), .int (iI m_mostRight), .int (iI m_spot), .long m_h])), (a_m_s, eI X 975 m_s), (a_m_past, eI X 3900 m_past), (a_m_aside, eI X 975 m_aside), (a_m_text, eI X 200 m_text), (a_m_line, eI X 600 m_line), (a_m_page, eI X 180 m_page)] (S := Int × Int × (Nat → Int)) (fun u => [(a_m, .inr (6, [.ref a_m_s, .ref a_m_past, .ref a_m_aside, .int (iI u.1), .ref a_m_text, .int (iI m_typed), .int (iI u.2.1), .ref a_m_line, .ref a_m_page, .int (iI m_lines), .int (iI m_pages), .int (iI m_measure), .int (iI m_mostLeft), .int (iI m_mostRight), .int (iI m_spot), .long m_h])), (a_m_s, eI X 975 m_s), (a_m_past, eI X 3900 u.2.2), (a_m_aside, eI X 975 m_aside), (a_m_text, eI X 200 m_text), (a_m_line, eI X 600 m_line), (a_m_page, eI X 180 m_page)]) (fun z u => post z u.1 u.2.1 u.2.2) 0 0 := by
  refine MCi.of (cc := cX6_ends) (maxL := 3) (by decide +kernel) rfl rfl ?_
  intro p e s m args below meth c A ls Q hE0 hP hD hS hl hend
  obtain ⟨hx, hb, hr, hml, hlocks, hown, hts, hK, hE, hA, hnm⟩ := hE0
  have hl : lv_has ls 3 [(0, .ref a_m), (1, .int (iI p1))] := hl
  have hi_X6 : ∀ w ∈ wsX60, w ∈ wsX6_ends := by decide +kernel
  have hf_13 := hts (.fieldLink RX6 13 "LentMarginsModel" "past" "[I") (by decide +kernel)
  have hf_16 := hts (.fieldLink RX6 16 "LentMarginsModel" "aside" "[I") (by decide +kernel)
  have hf_36 := hts (.fieldLink RX6 36 "LentMarginsModel" "pasts" "I") (by decide +kernel)
  have B51 : ∀ (n : Nat) (m_pasts : Int) (m_thrown : Int) (m_past : Nat → Int) (v1 : Int) (v2 : Int), wpX6_ends_51 m_aside post n m_pasts m_thrown m_past v1 v2 → ∀ (H : Heap) (locs : List Loc) (ls : Array Slot), va_P X.1 vwCl [(a_m, .inr (6, [.ref a_m_s, .ref a_m_past, .ref a_m_aside, .int (iI m_pasts), .ref a_m_text, .int (iI m_typed), .int (iI m_thrown), .ref a_m_line, .ref a_m_page, .int (iI m_lines), .int (iI m_pages), .int (iI m_measure), .int (iI m_mostLeft), .int (iI m_mostRight), .int (iI m_spot), .long m_h])), (a_m_s, eI X 975 m_s), (a_m_past, eI X 3900 m_past), (a_m_aside, eI X 975 m_aside), (a_m_text, eI X 200 m_text), (a_m_line, eI X 600 m_line), (a_m_page, eI X 180 m_page)] H → va_D A [(a_m, .inr (6, [.ref a_m_s, .ref a_m_past, .ref a_m_aside, .int (iI m_pasts), .ref a_m_text, .int (iI m_typed), .int (iI m_thrown), .ref a_m_line, .ref a_m_page, .int (iI m_lines), .int (iI m_pages), .int (iI m_measure), .int (iI m_mostLeft), .int (iI m_mostRight), .int (iI m_spot), .long m_h])), (a_m_s, eI X 975 m_s), (a_m_past, eI X 3900 m_past), (a_m_aside, eI X 975 m_aside), (a_m_text, eI X 200 m_text), (a_m_line, eI X 600 m_line), (a_m_page, eI X 180 m_page)] → va_S A s.heap H locs → lv_has ls 3 [(0, .ref a_m), (1, .int (iI v1)), (2, .int (iI v2))] → W p l e rmX6_ends s m args below meth c H locs 0 0 Q (F0 m 51 ls []) := by
    intro  n
    induction n with
    | zero => intro m_pasts m_thrown m_past v1 v2 h; exact h.elim
    | succ n ih =>
      intro m_pasts m_thrown m_past v1 v2 h H locs ls hP hD hS hl
      refine lv_iload_n hx hb dX6_ends_51 rfl (lv_at hl 2 rfl) ?_
      refine lv_sipush (v := iI 975) hx hb dX6_ends_52 (by decide +kernel) ?_
      refine i_cmp_ge (tgt := 85) hx hb h.1 (inR_lit rfl) dX6_ends_55 (by decide) (fun c1 => ?_) (fun c1 => ?_)
      · have h := h.2.1 c1
        refine lv_aload_n hx hb dX6_ends_85 rfl (lv_at hl 0 rfl) ?_
        refine lv_dup hx hb dX6_ends_86 rfl ?_
        refine va_get (D := X.1) (ci := 6) (C := RX6) (T := TX6) (N := 16) hx hb hts hi_X6 hown hK hP 0 rfl rfl 3 (by decide) hf_36 (fun _ h9 => h9) rfl dX6_ends_87 ?_
        refine lv_iconst (v := iI 1) hx hb dX6_ends_90 rfl ?_
        refine i_add hx hb dX6_ends_91 ?_
        refine va_put (D := X.1) (ci := 6) (v := .int (iI (m_pasts + 1))) (ty := .int) (C := RX6) (T := TX6) (N := 16) hx hb hts hi_X6 tyX6 tyX6_ok nmX6 hown hK hP hD hS 0 rfl rfl 3 (by decide) hf_36 (fun _ h9 => h9) rfl (by decide +kernel) rfl rfl (Nat.le_of_ble_eq_true rfl) dX6_ends_92 (fun H locs hP hD hS => ?_)
        have hP : va_P X.1 vwCl [(a_m, .inr (6, [.ref a_m_s, .ref a_m_past, .ref a_m_aside, .int (iI (m_pasts + 1)), .ref a_m_text, .int (iI m_typed), .int (iI m_thrown), .ref a_m_line, .ref a_m_page, .int (iI m_lines), .int (iI m_pages), .int (iI m_measure), .int (iI m_mostLeft), .int (iI m_mostRight), .int (iI m_spot), .long m_h])), (a_m_s, eI X 975 m_s), (a_m_past, eI X 3900 m_past), (a_m_aside, eI X 975 m_aside), (a_m_text, eI X 200 m_text), (a_m_line, eI X 600 m_line), (a_m_page, eI X 180 m_page)] H := hP
        have hD : va_D A [(a_m, .inr (6, [.ref a_m_s, .ref a_m_past, .ref a_m_aside, .int (iI (m_pasts + 1)), .ref a_m_text, .int (iI m_typed), .int (iI m_thrown), .ref a_m_line, .ref a_m_page, .int (iI m_lines), .int (iI m_pages), .int (iI m_measure), .int (iI m_mostLeft), .int (iI m_mostRight), .int (iI m_spot), .long m_h])), (a_m_s, eI X 975 m_s), (a_m_past, eI X 3900 m_past), (a_m_aside, eI X 975 m_aside), (a_m_text, eI X 200 m_text), (a_m_line, eI X 600 m_line), (a_m_page, eI X 180 m_page)] := hD
        refine lv_aload_n hx hb dX6_ends_95 rfl (lv_at hl 0 rfl) ?_
        refine lv_iload_n hx hb dX6_ends_96 rfl (lv_at hl 1 rfl) ?_
        refine e_i (isC := [0, 1, 2, 3, 4, 5, 6]) (isR := []) (wr := []) (va_runV (As := [.int (iI v1)]) (rest := []) ⟨hx, hb, hml, hown, hts⟩ (kX6_tells l X a_m a_m_s a_m_past a_m_aside a_m_text a_m_line a_m_page (m_pasts + 1) m_typed m_thrown m_lines m_pages m_measure m_mostLeft m_mostRight m_spot m_h m_s m_past m_aside m_text m_line m_page v1 _ h _) (cwV 1 hts gX6_ends_X6_tells rfl rfl rfl (by decide +kernel) ⟨(Nat.le_of_ble_eq_true rfl), (Nat.le_of_ble_eq_true rfl)⟩) ⟨pre_blind, va_recv hK hP (ci := 6) (q0 := 0) rfl rfl, pre_cut hE hK hA hP hD hS (isC := [0, 1, 2, 3, 4, 5, 6]) rfl (by decide +kernel)⟩ rfl rfl hl.1 rfl (lv_room (Nat.le_of_ble_eq_true rfl)) dX6_ends_97 ⟨(Nat.le_of_ble_eq_true rfl), (Nat.le_of_ble_eq_true rfl)⟩) hA hP hD hS rfl rfl (by decide +kernel) (by decide +kernel) (fun z2 m_thrown_2 H locs h hP hD hS => ?_)
        have hP : va_P X.1 vwCl [(a_m, .inr (6, [.ref a_m_s, .ref a_m_past, .ref a_m_aside, .int (iI (m_pasts + 1)), .ref a_m_text, .int (iI m_typed), .int (iI m_thrown_2), .ref a_m_line, .ref a_m_page, .int (iI m_lines), .int (iI m_pages), .int (iI m_measure), .int (iI m_mostLeft), .int (iI m_mostRight), .int (iI m_spot), .long m_h])), (a_m_s, eI X 975 m_s), (a_m_past, eI X 3900 m_past), (a_m_aside, eI X 975 m_aside), (a_m_text, eI X 200 m_text), (a_m_line, eI X 600 m_line), (a_m_page, eI X 180 m_page)] H := hP
        have hD : va_D A [(a_m, .inr (6, [.ref a_m_s, .ref a_m_past, .ref a_m_aside, .int (iI (m_pasts + 1)), .ref a_m_text, .int (iI m_typed), .int (iI m_thrown_2), .ref a_m_line, .ref a_m_page, .int (iI m_lines), .int (iI m_pages), .int (iI m_measure), .int (iI m_mostLeft), .int (iI m_mostRight), .int (iI m_spot), .long m_h])), (a_m_s, eI X 975 m_s), (a_m_past, eI X 3900 m_past), (a_m_aside, eI X 975 m_aside), (a_m_text, eI X 200 m_text), (a_m_line, eI X 600 m_line), (a_m_page, eI X 180 m_page)] := hD
        exact hend _ _ _ _ _ _ z2 ((m_pasts + 1), m_thrown_2, m_past) hP hD hS h (Nat.le_of_ble_eq_true rfl) (Nat.le_of_ble_eq_true rfl) dX6_ends_100
      · have h := h.2.2 c1
        refine lv_aload_n hx hb dX6_ends_58 rfl (lv_at hl 0 rfl) ?_
        refine va_get (D := X.1) (ci := 6) (C := RX6) (T := TX6) (N := 16) hx hb hts hi_X6 hown hK hP 0 rfl rfl 1 (by decide) hf_13 (fun _ h9 => h9) rfl dX6_ends_59 ?_
        refine lv_sipush (v := iI 975) hx hb dX6_ends_62 (by decide +kernel) ?_
        refine lv_aload_n hx hb dX6_ends_65 rfl (lv_at hl 0 rfl) ?_
        refine va_get (D := X.1) (ci := 6) (C := RX6) (T := TX6) (N := 16) hx hb hts hi_X6 hown hK hP 0 rfl rfl 3 (by decide) hf_36 (fun _ h9 => h9) rfl dX6_ends_66 ?_
        refine i_mul hx hb dX6_ends_69 ?_
        refine lv_iload_n hx hb dX6_ends_70 rfl (lv_at hl 2 rfl) ?_
        refine i_add hx hb dX6_ends_71 ?_
        refine lv_aload_n hx hb dX6_ends_72 rfl (lv_at hl 0 rfl) ?_
        refine va_get (D := X.1) (ci := 6) (C := RX6) (T := TX6) (N := 16) hx hb hts hi_X6 hown hK hP 0 rfl rfl 2 (by decide) hf_16 (fun _ h9 => h9) rfl dX6_ends_73 ?_
        refine lv_iload_n hx hb dX6_ends_76 rfl (lv_at hl 2 rfl) ?_
        refine i_ald hx hb hK hP 3 0 rfl rfl h.1 h.2.1 rfl (Nat.le_of_ble_eq_true rfl) dX6_ends_77 ?_
        have h := h.2.2
        refine i_ast hx hb hK hP hD hS 2 0 rfl rfl h.1 h.2.1 rfl (Nat.le_of_ble_eq_true rfl) dX6_ends_78 (fun H locs hP hD hS => ?_)
        have hP : va_P X.1 vwCl [(a_m, .inr (6, [.ref a_m_s, .ref a_m_past, .ref a_m_aside, .int (iI m_pasts), .ref a_m_text, .int (iI m_typed), .int (iI m_thrown), .ref a_m_line, .ref a_m_page, .int (iI m_lines), .int (iI m_pages), .int (iI m_measure), .int (iI m_mostLeft), .int (iI m_mostRight), .int (iI m_spot), .long m_h])), (a_m_s, eI X 975 m_s), (a_m_past, eI X 3900 (updI m_past ((975 * m_pasts) + v2).toNat (m_aside (v2).toNat))), (a_m_aside, eI X 975 m_aside), (a_m_text, eI X 200 m_text), (a_m_line, eI X 600 m_line), (a_m_page, eI X 180 m_page)] H := hP
        have hD : va_D A [(a_m, .inr (6, [.ref a_m_s, .ref a_m_past, .ref a_m_aside, .int (iI m_pasts), .ref a_m_text, .int (iI m_typed), .int (iI m_thrown), .ref a_m_line, .ref a_m_page, .int (iI m_lines), .int (iI m_pages), .int (iI m_measure), .int (iI m_mostLeft), .int (iI m_mostRight), .int (iI m_spot), .long m_h])), (a_m_s, eI X 975 m_s), (a_m_past, eI X 3900 (updI m_past ((975 * m_pasts) + v2).toNat (m_aside (v2).toNat))), (a_m_aside, eI X 975 m_aside), (a_m_text, eI X 200 m_text), (a_m_line, eI X 600 m_line), (a_m_page, eI X 180 m_page)] := hD
        have h := h.2.2
        refine lv_iinc (v := iI (v2 + 1)) (lv' := [(2, .int (iI (v2 + 1))), (0, .ref a_m), (1, .int (iI v1))]) hx hb dX6_ends_79 hl (k := 2) rfl (iI_add _ _) (by decide) rfl (fun ls hl => ?_)
        refine lv_goto (tgt := 51) hx hb dX6_ends_82 (by decide) ?_
        exact ih m_pasts m_thrown (updI m_past ((975 * m_pasts) + v2).toNat (m_aside (v2).toNat)) v1 (v2 + 1) h _ _ _ hP hD hS (lv_sub hl [1, 2, 0] rfl)
  have B49 : ∀ (m_pasts : Int) (m_thrown : Int) (m_past : Nat → Int) (v1 : Int), wpX6_ends_49 m_aside post m_pasts m_thrown m_past v1 → ∀ (H : Heap) (locs : List Loc) (ls : Array Slot), va_P X.1 vwCl [(a_m, .inr (6, [.ref a_m_s, .ref a_m_past, .ref a_m_aside, .int (iI m_pasts), .ref a_m_text, .int (iI m_typed), .int (iI m_thrown), .ref a_m_line, .ref a_m_page, .int (iI m_lines), .int (iI m_pages), .int (iI m_measure), .int (iI m_mostLeft), .int (iI m_mostRight), .int (iI m_spot), .long m_h])), (a_m_s, eI X 975 m_s), (a_m_past, eI X 3900 m_past), (a_m_aside, eI X 975 m_aside), (a_m_text, eI X 200 m_text), (a_m_line, eI X 600 m_line), (a_m_page, eI X 180 m_page)] H → va_D A [(a_m, .inr (6, [.ref a_m_s, .ref a_m_past, .ref a_m_aside, .int (iI m_pasts), .ref a_m_text, .int (iI m_typed), .int (iI m_thrown), .ref a_m_line, .ref a_m_page, .int (iI m_lines), .int (iI m_pages), .int (iI m_measure), .int (iI m_mostLeft), .int (iI m_mostRight), .int (iI m_spot), .long m_h])), (a_m_s, eI X 975 m_s), (a_m_past, eI X 3900 m_past), (a_m_aside, eI X 975 m_aside), (a_m_text, eI X 200 m_text), (a_m_line, eI X 600 m_line), (a_m_page, eI X 180 m_page)] → va_S A s.heap H locs → lv_has ls 3 [(0, .ref a_m), (1, .int (iI v1))] → W p l e rmX6_ends s m args below meth c H locs 0 0 Q (F0 m 49 ls []) := by
    intro  m_pasts m_thrown m_past v1 h H locs ls hP hD hS hl
    refine lv_iconst (v := iI 0) hx hb dX6_ends_49 rfl ?_
    refine lv_istore_n (lv' := [(2, .int (iI 0)), (0, .ref a_m), (1, .int (iI v1))]) hx hb dX6_ends_50 rfl hl (by decide) rfl (fun ls hl => ?_)
    obtain ⟨n1, h⟩ := h
    exact B51  n1 m_pasts m_thrown m_past v1 0 h _ _ _ hP hD hS (lv_sub hl [1, 2, 0] rfl)
  have B10 : ∀ (n : Nat) (m_pasts : Int) (m_thrown : Int) (m_past : Nat → Int) (v1 : Int) (v2 : Int), wpX6_ends_10 m_aside post n m_pasts m_thrown m_past v1 v2 → ∀ (H : Heap) (locs : List Loc) (ls : Array Slot), va_P X.1 vwCl [(a_m, .inr (6, [.ref a_m_s, .ref a_m_past, .ref a_m_aside, .int (iI m_pasts), .ref a_m_text, .int (iI m_typed), .int (iI m_thrown), .ref a_m_line, .ref a_m_page, .int (iI m_lines), .int (iI m_pages), .int (iI m_measure), .int (iI m_mostLeft), .int (iI m_mostRight), .int (iI m_spot), .long m_h])), (a_m_s, eI X 975 m_s), (a_m_past, eI X 3900 m_past), (a_m_aside, eI X 975 m_aside), (a_m_text, eI X 200 m_text), (a_m_line, eI X 600 m_line), (a_m_page, eI X 180 m_page)] H → va_D A [(a_m, .inr (6, [.ref a_m_s, .ref a_m_past, .ref a_m_aside, .int (iI m_pasts), .ref a_m_text, .int (iI m_typed), .int (iI m_thrown), .ref a_m_line, .ref a_m_page, .int (iI m_lines), .int (iI m_pages), .int (iI m_measure), .int (iI m_mostLeft), .int (iI m_mostRight), .int (iI m_spot), .long m_h])), (a_m_s, eI X 975 m_s), (a_m_past, eI X 3900 m_past), (a_m_aside, eI X 975 m_aside), (a_m_text, eI X 200 m_text), (a_m_line, eI X 600 m_line), (a_m_page, eI X 180 m_page)] → va_S A s.heap H locs → lv_has ls 3 [(0, .ref a_m), (1, .int (iI v1)), (2, .int (iI v2))] → W p l e rmX6_ends s m args below meth c H locs 0 0 Q (F0 m 10 ls []) := by
    intro  n
    induction n with
    | zero => intro m_pasts m_thrown m_past v1 v2 h; exact h.elim
    | succ n ih =>
      intro m_pasts m_thrown m_past v1 v2 h H locs ls hP hD hS hl
      refine lv_iload_n hx hb dX6_ends_10 rfl (lv_at hl 2 rfl) ?_
      refine lv_sipush (v := iI 2925) hx hb dX6_ends_11 (by decide +kernel) ?_
      refine i_cmp_ge (tgt := 39) hx hb h.1 (inR_lit rfl) dX6_ends_14 (by decide) (fun c1 => ?_) (fun c1 => ?_)
      · have h := h.2.1 c1
        refine lv_aload_n hx hb dX6_ends_39 rfl (lv_at hl 0 rfl) ?_
        refine lv_dup hx hb dX6_ends_40 rfl ?_
        refine va_get (D := X.1) (ci := 6) (C := RX6) (T := TX6) (N := 16) hx hb hts hi_X6 hown hK hP 0 rfl rfl 3 (by decide) hf_36 (fun _ h9 => h9) rfl dX6_ends_41 ?_
        refine lv_iconst (v := iI 1) hx hb dX6_ends_44 rfl ?_
        refine i_sub hx hb dX6_ends_45 ?_
        refine va_put (D := X.1) (ci := 6) (v := .int (iI (m_pasts - 1))) (ty := .int) (C := RX6) (T := TX6) (N := 16) hx hb hts hi_X6 tyX6 tyX6_ok nmX6 hown hK hP hD hS 0 rfl rfl 3 (by decide) hf_36 (fun _ h9 => h9) rfl (by decide +kernel) rfl rfl (Nat.le_of_ble_eq_true rfl) dX6_ends_46 (fun H locs hP hD hS => ?_)
        have hP : va_P X.1 vwCl [(a_m, .inr (6, [.ref a_m_s, .ref a_m_past, .ref a_m_aside, .int (iI (m_pasts - 1)), .ref a_m_text, .int (iI m_typed), .int (iI m_thrown), .ref a_m_line, .ref a_m_page, .int (iI m_lines), .int (iI m_pages), .int (iI m_measure), .int (iI m_mostLeft), .int (iI m_mostRight), .int (iI m_spot), .long m_h])), (a_m_s, eI X 975 m_s), (a_m_past, eI X 3900 m_past), (a_m_aside, eI X 975 m_aside), (a_m_text, eI X 200 m_text), (a_m_line, eI X 600 m_line), (a_m_page, eI X 180 m_page)] H := hP
        have hD : va_D A [(a_m, .inr (6, [.ref a_m_s, .ref a_m_past, .ref a_m_aside, .int (iI (m_pasts - 1)), .ref a_m_text, .int (iI m_typed), .int (iI m_thrown), .ref a_m_line, .ref a_m_page, .int (iI m_lines), .int (iI m_pages), .int (iI m_measure), .int (iI m_mostLeft), .int (iI m_mostRight), .int (iI m_spot), .long m_h])), (a_m_s, eI X 975 m_s), (a_m_past, eI X 3900 m_past), (a_m_aside, eI X 975 m_aside), (a_m_text, eI X 200 m_text), (a_m_line, eI X 600 m_line), (a_m_page, eI X 180 m_page)] := hD
        exact B49  (m_pasts - 1) m_thrown m_past v1 h _ _ _ hP hD hS (lv_sub hl [0, 1] rfl)
      · have h := h.2.2 c1
        refine lv_aload_n hx hb dX6_ends_17 rfl (lv_at hl 0 rfl) ?_
        refine va_get (D := X.1) (ci := 6) (C := RX6) (T := TX6) (N := 16) hx hb hts hi_X6 hown hK hP 0 rfl rfl 1 (by decide) hf_13 (fun _ h9 => h9) rfl dX6_ends_18 ?_
        refine lv_iload_n hx hb dX6_ends_21 rfl (lv_at hl 2 rfl) ?_
        refine lv_aload_n hx hb dX6_ends_22 rfl (lv_at hl 0 rfl) ?_
        refine va_get (D := X.1) (ci := 6) (C := RX6) (T := TX6) (N := 16) hx hb hts hi_X6 hown hK hP 0 rfl rfl 1 (by decide) hf_13 (fun _ h9 => h9) rfl dX6_ends_23 ?_
        refine lv_iload_n hx hb dX6_ends_26 rfl (lv_at hl 2 rfl) ?_
        refine lv_sipush (v := iI 975) hx hb dX6_ends_27 (by decide +kernel) ?_
        refine i_add hx hb dX6_ends_30 ?_
        refine i_ald hx hb hK hP 2 0 rfl rfl h.1 h.2.1 rfl (Nat.le_of_ble_eq_true rfl) dX6_ends_31 ?_
        have h := h.2.2
        refine i_ast hx hb hK hP hD hS 2 0 rfl rfl h.1 h.2.1 rfl (Nat.le_of_ble_eq_true rfl) dX6_ends_32 (fun H locs hP hD hS => ?_)
        have hP : va_P X.1 vwCl [(a_m, .inr (6, [.ref a_m_s, .ref a_m_past, .ref a_m_aside, .int (iI m_pasts), .ref a_m_text, .int (iI m_typed), .int (iI m_thrown), .ref a_m_line, .ref a_m_page, .int (iI m_lines), .int (iI m_pages), .int (iI m_measure), .int (iI m_mostLeft), .int (iI m_mostRight), .int (iI m_spot), .long m_h])), (a_m_s, eI X 975 m_s), (a_m_past, eI X 3900 (updI m_past (v2).toNat (m_past (v2 + 975).toNat))), (a_m_aside, eI X 975 m_aside), (a_m_text, eI X 200 m_text), (a_m_line, eI X 600 m_line), (a_m_page, eI X 180 m_page)] H := hP
        have hD : va_D A [(a_m, .inr (6, [.ref a_m_s, .ref a_m_past, .ref a_m_aside, .int (iI m_pasts), .ref a_m_text, .int (iI m_typed), .int (iI m_thrown), .ref a_m_line, .ref a_m_page, .int (iI m_lines), .int (iI m_pages), .int (iI m_measure), .int (iI m_mostLeft), .int (iI m_mostRight), .int (iI m_spot), .long m_h])), (a_m_s, eI X 975 m_s), (a_m_past, eI X 3900 (updI m_past (v2).toNat (m_past (v2 + 975).toNat))), (a_m_aside, eI X 975 m_aside), (a_m_text, eI X 200 m_text), (a_m_line, eI X 600 m_line), (a_m_page, eI X 180 m_page)] := hD
        have h := h.2.2
        refine lv_iinc (v := iI (v2 + 1)) (lv' := [(2, .int (iI (v2 + 1))), (0, .ref a_m), (1, .int (iI v1))]) hx hb dX6_ends_33 hl (k := 2) rfl (iI_add _ _) (by decide) rfl (fun ls hl => ?_)
        refine lv_goto (tgt := 10) hx hb dX6_ends_36 (by decide) ?_
        exact ih m_pasts m_thrown (updI m_past (v2).toNat (m_past (v2 + 975).toNat)) v1 (v2 + 1) h _ _ _ hP hD hS (lv_sub hl [1, 2, 0] rfl)
  refine lv_aload_n hx hb dX6_ends_0 rfl (lv_at hl 0 rfl) ?_
  refine va_get (D := X.1) (ci := 6) (C := RX6) (T := TX6) (N := 16) hx hb hts hi_X6 hown hK hP 0 rfl rfl 3 (by decide) hf_36 (fun _ h9 => h9) rfl dX6_ends_1 ?_
  refine lv_iconst (v := iI 4) hx hb dX6_ends_4 rfl ?_
  refine i_cmp_ne (tgt := 49) hx hb h.1 (inR_lit rfl) dX6_ends_5 (by decide) (fun c1 => ?_) (fun c1 => ?_)
  · have h := h.2.1 c1
    exact B49  m_pasts m_thrown m_past p1 h _ _ _ hP hD hS (lv_sub hl [0, 1] rfl)
  · have h := h.2.2 c1
    refine lv_iconst (v := iI 0) hx hb dX6_ends_8 rfl ?_
    refine lv_istore_n (lv' := [(2, .int (iI 0)), (0, .ref a_m), (1, .int (iI p1))]) hx hb dX6_ends_9 rfl hl (by decide) rfl (fun ls hl => ?_)
    obtain ⟨n2, h⟩ := h
    exact B10  n2 m_pasts m_thrown m_past p1 0 h _ _ _ hP hD hS (lv_sub hl [1, 2, 0] rfl)
abbrev rmX6_of : Room := { frames := 0, cells := 0, slots := 0, locals := 0 }
set_option maxHeartbeats 4000000 in
set_option maxRecDepth 100000 in
theorem kX6_of (l : Launch) (X : XD) (a_m a_m_s a_m_past a_m_aside a_m_text a_m_line a_m_page : Nat) (m_pasts : Int) (m_typed : Int) (m_thrown : Int) (m_lines : Int) (m_pages : Int) (m_measure : Int) (m_mostLeft : Int) (m_mostRight : Int) (m_spot : Int) (m_h : Int64) (m_s : Nat → Int) (m_past : Nat → Int) (m_aside : Nat → Int) (m_text : Nat → Int) (m_line : Nat → Int) (m_page : Nat → Int) (p1 : Int) (p2 : Int) (post : Int → Prop) (h : wpX6_of m_s p1 p2 post) : MCi l yX6_of wsX6_of rmX6_of X [.ref a_m, .int (iI p1), .int (iI p2)] [(a_m, .inr (6, [.ref a_m_s, .ref a_m_past, .ref a_m_aside, .int (iI m_pasts), .ref a_m_text, .int (iI m_typed), .int (iI m_thrown), .ref a_m_line, .ref a_m_page, .int (iI m_lines), .int (iI m_pages), .int (iI m_measure), .int (iI m_mostLeft), .int (iI m_mostRight), .int (iI m_spot), .long m_h])), (a_m_s, eI X 975 m_s), (a_m_past, eI X 3900 m_past), (a_m_aside, eI X 975 m_aside), (a_m_text, eI X 200 m_text), (a_m_line, eI X 600 m_line), (a_m_page, eI X 180 m_page)] (S := Unit) (fun _ => [(a_m, .inr (6, [.ref a_m_s, .ref a_m_past, .ref a_m_aside, .int (iI m_pasts), .ref a_m_text, .int (iI m_typed), .int (iI m_thrown), .ref a_m_line, .ref a_m_page, .int (iI m_lines), .int (iI m_pages), .int (iI m_measure), .int (iI m_mostLeft), .int (iI m_mostRight), .int (iI m_spot), .long m_h])), (a_m_s, eI X 975 m_s), (a_m_past, eI X 3900 m_past), (a_m_aside, eI X 975 m_aside), (a_m_text, eI X 200 m_text), (a_m_line, eI X 600 m_line), (a_m_page, eI X 180 m_page)]) (fun z _ => post z) 0 0 := by
  refine MCi.of (cc := cX6_of) (maxL := 3) (by decide +kernel) rfl rfl ?_
  intro p e s m args below meth c A ls Q hE0 hP hD hS hl hend
  obtain ⟨hx, hb, hr, hml, hlocks, hown, hts, hK, hE, hA, hnm⟩ := hE0
  have hl : lv_has ls 3 [(0, .ref a_m), (1, .int (iI p1)), (2, .int (iI p2))] := hl
  have hi_X6 : ∀ w ∈ wsX60, w ∈ wsX6_of := by decide +kernel
  have hf_7 := hts (.fieldLink RX6 7 "LentMarginsModel" "s" "[I") (by decide +kernel)
  refine lv_aload_n hx hb dX6_of_0 rfl (lv_at hl 0 rfl) ?_
  refine va_get (D := X.1) (ci := 6) (C := RX6) (T := TX6) (N := 16) hx hb hts hi_X6 hown hK hP 0 rfl rfl 0 (by decide) hf_7 (fun _ h9 => h9) rfl dX6_of_1 ?_
  refine lv_bipush (v := iI 15) hx hb dX6_of_4 (by decide +kernel) ?_
  refine lv_bipush (v := iI 16) hx hb dX6_of_6 (by decide +kernel) ?_
  refine lv_iload_n hx hb dX6_of_8 rfl (lv_at hl 1 rfl) ?_
  refine i_mul hx hb dX6_of_9 ?_
  refine i_add hx hb dX6_of_10 ?_
  refine lv_iload_n hx hb dX6_of_11 rfl (lv_at hl 2 rfl) ?_
  refine i_add hx hb dX6_of_12 ?_
  refine i_ald hx hb hK hP 1 0 rfl rfl h.1 h.2.1 rfl (Nat.le_of_ble_eq_true rfl) dX6_of_13 ?_
  have h := h.2.2
  exact hend _ _ _ _ _ _ (m_s ((15 + (16 * p1)) + p2).toNat) () hP hD hS h (Nat.le_of_ble_eq_true rfl) (Nat.le_of_ble_eq_true rfl) dX6_of_14
abbrev rmX6_puts : Room := { frames := 0, cells := 0, slots := 0, locals := 0 }
set_option maxHeartbeats 4000000 in
set_option maxRecDepth 100000 in
theorem kX6_puts (l : Launch) (X : XD) (a_m a_m_s a_m_past a_m_aside a_m_text a_m_line a_m_page : Nat) (m_pasts : Int) (m_typed : Int) (m_thrown : Int) (m_lines : Int) (m_pages : Int) (m_measure : Int) (m_mostLeft : Int) (m_mostRight : Int) (m_spot : Int) (m_h : Int64) (m_s : Nat → Int) (m_past : Nat → Int) (m_aside : Nat → Int) (m_text : Nat → Int) (m_line : Nat → Int) (m_page : Nat → Int) (p1 : Int) (p2 : Int) (p3 : Int) (post : (Nat → Int) → Prop) (h : wpX6_puts m_s p1 p2 p3 post) : MCv l yX6_puts wsX6_puts rmX6_puts X [.ref a_m, .int (iI p1), .int (iI p2), .int (iI p3)] [(a_m, .inr (6, [.ref a_m_s, .ref a_m_past, .ref a_m_aside, .int (iI m_pasts), .ref a_m_text, .int (iI m_typed), .int (iI m_thrown), .ref a_m_line, .ref a_m_page, .int (iI m_lines), .int (iI m_pages), .int (iI m_measure), .int (iI m_mostLeft), .int (iI m_mostRight), .int (iI m_spot), .long m_h])), (a_m_s, eI X 975 m_s), (a_m_past, eI X 3900 m_past), (a_m_aside, eI X 975 m_aside), (a_m_text, eI X 200 m_text), (a_m_line, eI X 600 m_line), (a_m_page, eI X 180 m_page)] (S := Nat → Int) (fun u => [(a_m, .inr (6, [.ref a_m_s, .ref a_m_past, .ref a_m_aside, .int (iI m_pasts), .ref a_m_text, .int (iI m_typed), .int (iI m_thrown), .ref a_m_line, .ref a_m_page, .int (iI m_lines), .int (iI m_pages), .int (iI m_measure), .int (iI m_mostLeft), .int (iI m_mostRight), .int (iI m_spot), .long m_h])), (a_m_s, eI X 975 u), (a_m_past, eI X 3900 m_past), (a_m_aside, eI X 975 m_aside), (a_m_text, eI X 200 m_text), (a_m_line, eI X 600 m_line), (a_m_page, eI X 180 m_page)]) (fun u => post u) 0 0 := by
  refine MCv.of (cc := cX6_puts) (maxL := 4) (by decide +kernel) rfl rfl ?_
  intro p e s m args below meth c A ls Q hE0 hP hD hS hl hend
  obtain ⟨hx, hb, hr, hml, hlocks, hown, hts, hK, hE, hA, hnm⟩ := hE0
  have hl : lv_has ls 4 [(0, .ref a_m), (1, .int (iI p1)), (2, .int (iI p2)), (3, .int (iI p3))] := hl
  have hi_X6 : ∀ w ∈ wsX60, w ∈ wsX6_puts := by decide +kernel
  have hf_7 := hts (.fieldLink RX6 7 "LentMarginsModel" "s" "[I") (by decide +kernel)
  refine lv_aload_n hx hb dX6_puts_0 rfl (lv_at hl 0 rfl) ?_
  refine va_get (D := X.1) (ci := 6) (C := RX6) (T := TX6) (N := 16) hx hb hts hi_X6 hown hK hP 0 rfl rfl 0 (by decide) hf_7 (fun _ h9 => h9) rfl dX6_puts_1 ?_
  refine lv_bipush (v := iI 15) hx hb dX6_puts_4 (by decide +kernel) ?_
  refine lv_bipush (v := iI 16) hx hb dX6_puts_6 (by decide +kernel) ?_
  refine lv_iload_n hx hb dX6_puts_8 rfl (lv_at hl 1 rfl) ?_
  refine i_mul hx hb dX6_puts_9 ?_
  refine i_add hx hb dX6_puts_10 ?_
  refine lv_iload_n hx hb dX6_puts_11 rfl (lv_at hl 2 rfl) ?_
  refine i_add hx hb dX6_puts_12 ?_
  refine lv_iload_n hx hb dX6_puts_13 rfl (lv_at hl 3 rfl) ?_
  refine i_ast hx hb hK hP hD hS 1 0 rfl rfl h.1 h.2.1 rfl (Nat.le_of_ble_eq_true rfl) dX6_puts_14 (fun H locs hP hD hS => ?_)
  have hP : va_P X.1 vwCl [(a_m, .inr (6, [.ref a_m_s, .ref a_m_past, .ref a_m_aside, .int (iI m_pasts), .ref a_m_text, .int (iI m_typed), .int (iI m_thrown), .ref a_m_line, .ref a_m_page, .int (iI m_lines), .int (iI m_pages), .int (iI m_measure), .int (iI m_mostLeft), .int (iI m_mostRight), .int (iI m_spot), .long m_h])), (a_m_s, eI X 975 (updI m_s ((15 + (16 * p1)) + p2).toNat p3)), (a_m_past, eI X 3900 m_past), (a_m_aside, eI X 975 m_aside), (a_m_text, eI X 200 m_text), (a_m_line, eI X 600 m_line), (a_m_page, eI X 180 m_page)] H := hP
  have hD : va_D A [(a_m, .inr (6, [.ref a_m_s, .ref a_m_past, .ref a_m_aside, .int (iI m_pasts), .ref a_m_text, .int (iI m_typed), .int (iI m_thrown), .ref a_m_line, .ref a_m_page, .int (iI m_lines), .int (iI m_pages), .int (iI m_measure), .int (iI m_mostLeft), .int (iI m_mostRight), .int (iI m_spot), .long m_h])), (a_m_s, eI X 975 (updI m_s ((15 + (16 * p1)) + p2).toNat p3)), (a_m_past, eI X 3900 m_past), (a_m_aside, eI X 975 m_aside), (a_m_text, eI X 200 m_text), (a_m_line, eI X 600 m_line), (a_m_page, eI X 180 m_page)] := hD
  have h := h.2.2
  exact hend _ _ _ _ _ _ (updI m_s ((15 + (16 * p1)) + p2).toNat p3) hP hD hS h (Nat.le_of_ble_eq_true rfl) (Nat.le_of_ble_eq_true rfl) dX6_puts_15
abbrev rmX6_isWord : Room := { frames := 0, cells := 0, slots := 0, locals := 0 }
set_option maxHeartbeats 4000000 in
set_option maxRecDepth 100000 in
theorem kX6_isWord (l : Launch) (X : XD) (a_m a_m_s a_m_past a_m_aside a_m_text a_m_line a_m_page : Nat) (m_pasts : Int) (m_typed : Int) (m_thrown : Int) (m_lines : Int) (m_pages : Int) (m_measure : Int) (m_mostLeft : Int) (m_mostRight : Int) (m_spot : Int) (m_h : Int64) (m_s : Nat → Int) (m_past : Nat → Int) (m_aside : Nat → Int) (m_text : Nat → Int) (m_line : Nat → Int) (m_page : Nat → Int) (p1 : Int) (post : Int → Prop) (h : wpX6_isWord m_s p1 post) : MCi l yX6_isWord wsX6_isWord rmX6_isWord X [.ref a_m, .int (iI p1)] [(a_m, .inr (6, [.ref a_m_s, .ref a_m_past, .ref a_m_aside, .int (iI m_pasts), .ref a_m_text, .int (iI m_typed), .int (iI m_thrown), .ref a_m_line, .ref a_m_page, .int (iI m_lines), .int (iI m_pages), .int (iI m_measure), .int (iI m_mostLeft), .int (iI m_mostRight), .int (iI m_spot), .long m_h])), (a_m_s, eI X 975 m_s), (a_m_past, eI X 3900 m_past), (a_m_aside, eI X 975 m_aside), (a_m_text, eI X 200 m_text), (a_m_line, eI X 600 m_line), (a_m_page, eI X 180 m_page)] (S := Unit) (fun _ => [(a_m, .inr (6, [.ref a_m_s, .ref a_m_past, .ref a_m_aside, .int (iI m_pasts), .ref a_m_text, .int (iI m_typed), .int (iI m_thrown), .ref a_m_line, .ref a_m_page, .int (iI m_lines), .int (iI m_pages), .int (iI m_measure), .int (iI m_mostLeft), .int (iI m_mostRight), .int (iI m_spot), .long m_h])), (a_m_s, eI X 975 m_s), (a_m_past, eI X 3900 m_past), (a_m_aside, eI X 975 m_aside), (a_m_text, eI X 200 m_text), (a_m_line, eI X 600 m_line), (a_m_page, eI X 180 m_page)]) (fun z _ => post z) 0 0 := by
  refine MCz.of (cc := cX6_isWord) (maxL := 2) (by decide +kernel) rfl rfl ?_
  intro p e s m args below meth c A ls Q hE0 hP hD hS hl hend
  obtain ⟨hx, hb, hr, hml, hlocks, hown, hts, hK, hE, hA, hnm⟩ := hE0
  have hl : lv_has ls 2 [(0, .ref a_m), (1, .int (iI p1))] := hl
  have hi_X6 : ∀ w ∈ wsX60, w ∈ wsX6_isWord := by decide +kernel
  have hf_7 := hts (.fieldLink RX6 7 "LentMarginsModel" "s" "[I") (by decide +kernel)
  refine lv_iload_n hx hb dX6_isWord_0 rfl (lv_at hl 1 rfl) ?_
  refine i_if_lt (tgt := 19) hx hb h.1 dX6_isWord_1 (by decide) (fun c1 => ?_) (fun c1 => ?_)
  · have h := h.2.1 c1
    refine lv_iconst (v := iI 0) hx hb dX6_isWord_19 rfl ?_
    exact hend _ _ _ _ _ _ 0 () hP hD hS (Or.inl rfl) h (Nat.le_of_ble_eq_true rfl) (Nat.le_of_ble_eq_true rfl) dX6_isWord_20
  · have h := h.2.2 c1
    refine lv_iload_n hx hb dX6_isWord_4 rfl (lv_at hl 1 rfl) ?_
    refine lv_aload_n hx hb dX6_isWord_5 rfl (lv_at hl 0 rfl) ?_
    refine va_get (D := X.1) (ci := 6) (C := RX6) (T := TX6) (N := 16) hx hb hts hi_X6 hown hK hP 0 rfl rfl 0 (by decide) hf_7 (fun _ h9 => h9) rfl dX6_isWord_6 ?_
    refine lv_bipush (v := iI 14) hx hb dX6_isWord_9 (by decide +kernel) ?_
    refine i_ald hx hb hK hP 1 0 rfl rfl (by decide) (by decide) rfl (Nat.le_of_ble_eq_true rfl) dX6_isWord_11 ?_
    refine i_cmp_ge (tgt := 19) hx hb h.1 h.2.1 dX6_isWord_12 (by decide) (fun c2 => ?_) (fun c2 => ?_)
    · have h := h.2.2.1 c2
      refine lv_iconst (v := iI 0) hx hb dX6_isWord_19 rfl ?_
      exact hend _ _ _ _ _ _ 0 () hP hD hS (Or.inl rfl) h (Nat.le_of_ble_eq_true rfl) (Nat.le_of_ble_eq_true rfl) dX6_isWord_20
    · have h := h.2.2.2 c2
      refine lv_iconst (v := iI 1) hx hb dX6_isWord_15 rfl ?_
      refine lv_goto (tgt := 20) hx hb dX6_isWord_16 (by decide) ?_
      exact hend _ _ _ _ _ _ 1 () hP hD hS (Or.inr rfl) h (Nat.le_of_ble_eq_true rfl) (Nat.le_of_ble_eq_true rfl) dX6_isWord_20
abbrev rmX6_widthOfSign : Room := { frames := 0, cells := 0, slots := 0, locals := 0 }
set_option maxHeartbeats 4000000 in
set_option maxRecDepth 100000 in
theorem kX6_widthOfSign (l : Launch) (X : XD) (p0 : Int) (post : Int → Prop) (h : wpX6_widthOfSign p0 post) : MCi l yX6_widthOfSign wsX6_widthOfSign rmX6_widthOfSign X [.int (iI p0)] [] (S := Unit) (fun _ => []) (fun z _ => post z) 0 0 := by
  refine MCi.of (cc := cX6_widthOfSign) (maxL := 1) (by decide +kernel) rfl rfl ?_
  intro p e s m args below meth c A ls Q hE0 hP hD hS hl hend
  obtain ⟨hx, hb, hr, hml, hlocks, hown, hts, hK, hE, hA, hnm⟩ := hE0
  have hl : lv_has ls 1 [(0, .int (iI p0))] := hl
  refine lv_iload_n hx hb dX6_widthOfSign_0 rfl (lv_at hl 0 rfl) ?_
  refine lv_iconst (v := iI (-1)) hx hb dX6_widthOfSign_1 rfl ?_
  refine i_cmp_ne (tgt := 9) hx hb h.1 (inR_lit rfl) dX6_widthOfSign_2 (by decide) (fun c1 => ?_) (fun c1 => ?_)
  · have h := h.2.1 c1
    refine lv_iload_n hx hb dX6_widthOfSign_9 rfl (lv_at hl 0 rfl) ?_
    refine i_if_eq (tgt := 18) hx hb h.1 dX6_widthOfSign_10 (by decide) (fun c2 => ?_) (fun c2 => ?_)
    · have h := h.2.1 c2
      refine lv_iconst (v := iI 3) hx hb dX6_widthOfSign_18 rfl ?_
      refine lv_goto (tgt := 23) hx hb dX6_widthOfSign_19 (by decide) ?_
      exact hend _ _ _ _ _ _ 3 () hP hD hS h (Nat.le_of_ble_eq_true rfl) (Nat.le_of_ble_eq_true rfl) dX6_widthOfSign_23
    · have h := h.2.2 c2
      refine lv_iload_n hx hb dX6_widthOfSign_13 rfl (lv_at hl 0 rfl) ?_
      refine lv_iconst (v := iI 5) hx hb dX6_widthOfSign_14 rfl ?_
      refine i_cmp_ne (tgt := 22) hx hb h.1 (inR_lit rfl) dX6_widthOfSign_15 (by decide) (fun c3 => ?_) (fun c3 => ?_)
      · have h := h.2.1 c3
        refine lv_iconst (v := iI 2) hx hb dX6_widthOfSign_22 rfl ?_
        exact hend _ _ _ _ _ _ 2 () hP hD hS h (Nat.le_of_ble_eq_true rfl) (Nat.le_of_ble_eq_true rfl) dX6_widthOfSign_23
      · have h := h.2.2 c3
        refine lv_iconst (v := iI 3) hx hb dX6_widthOfSign_18 rfl ?_
        refine lv_goto (tgt := 23) hx hb dX6_widthOfSign_19 (by decide) ?_
        exact hend _ _ _ _ _ _ 3 () hP hD hS h (Nat.le_of_ble_eq_true rfl) (Nat.le_of_ble_eq_true rfl) dX6_widthOfSign_23
  · have h := h.2.2 c1
    refine lv_iconst (v := iI 0) hx hb dX6_widthOfSign_5 rfl ?_
    refine lv_goto (tgt := 23) hx hb dX6_widthOfSign_6 (by decide) ?_
    exact hend _ _ _ _ _ _ 0 () hP hD hS h (Nat.le_of_ble_eq_true rfl) (Nat.le_of_ble_eq_true rfl) dX6_widthOfSign_23
abbrev rmX6_widthOfLetter : Room := { frames := 0, cells := 0, slots := 0, locals := 0 }
set_option maxHeartbeats 4000000 in
set_option maxRecDepth 100000 in
theorem kX6_widthOfLetter (l : Launch) (X : XD) (p0 : Int) (post : Int → Prop) (h : wpX6_widthOfLetter p0 post) : MCi l yX6_widthOfLetter wsX6_widthOfLetter rmX6_widthOfLetter X [.int (iI p0)] [] (S := Unit) (fun _ => []) (fun z _ => post z) 0 0 := by
  refine MCi.of (cc := cX6_widthOfLetter) (maxL := 3) (by decide +kernel) rfl rfl ?_
  intro p e s m args below meth c A ls Q hE0 hP hD hS hl hend
  obtain ⟨hx, hb, hr, hml, hlocks, hown, hts, hK, hE, hA, hnm⟩ := hE0
  have hl : lv_has ls 3 [(0, .int (iI p0))] := hl
  have B40 : ∀ (v1 : Int) (w0 : Int), wpX6_widthOfLetter_40 post v1 w0 → ∀ (H : Heap) (locs : List Loc) (ls : Array Slot), va_P X.1 vwCl [] H → va_D A [] → va_S A s.heap H locs → lv_has ls 3 [(1, .int (iI v1))] → W p l e rmX6_widthOfLetter s m args below meth c H locs 0 0 Q (F0 m 40 ls [.int (iI w0)]) := by
    intro  v1 w0 h H locs ls hP hD hS hl
    refine lv_istore_n (lv' := [(2, .int (iI w0)), (1, .int (iI v1))]) hx hb dX6_widthOfLetter_40 rfl hl (by decide) rfl (fun ls hl => ?_)
    refine lv_iload_n hx hb dX6_widthOfLetter_41 rfl (lv_at hl 0 rfl) ?_
    refine i_if_eq (tgt := 49) hx hb h.1 dX6_widthOfLetter_42 (by decide) (fun c1 => ?_) (fun c1 => ?_)
    · have h := h.2.1 c1
      refine lv_iload_n hx hb dX6_widthOfLetter_49 rfl (lv_at hl 1 rfl) ?_
      refine lv_bipush (v := iI 109) hx hb dX6_widthOfLetter_50 (by decide +kernel) ?_
      refine i_cmp_eq (tgt := 61) hx hb h.1 (inR_lit rfl) dX6_widthOfLetter_52 (by decide) (fun c2 => ?_) (fun c2 => ?_)
      · have h := h.2.1 c2
        refine lv_bipush (v := iI 6) hx hb dX6_widthOfLetter_61 (by decide +kernel) ?_
        refine lv_goto (tgt := 67) hx hb dX6_widthOfLetter_63 (by decide) ?_
        exact hend _ _ _ _ _ _ 6 () hP hD hS h (Nat.le_of_ble_eq_true rfl) (Nat.le_of_ble_eq_true rfl) dX6_widthOfLetter_67
      · have h := h.2.2 c2
        refine lv_iload_n hx hb dX6_widthOfLetter_55 rfl (lv_at hl 1 rfl) ?_
        refine lv_bipush (v := iI 119) hx hb dX6_widthOfLetter_56 (by decide +kernel) ?_
        refine i_cmp_ne (tgt := 66) hx hb h.1 (inR_lit rfl) dX6_widthOfLetter_58 (by decide) (fun c3 => ?_) (fun c3 => ?_)
        · have h := h.2.1 c3
          refine lv_iconst (v := iI 4) hx hb dX6_widthOfLetter_66 rfl ?_
          exact hend _ _ _ _ _ _ 4 () hP hD hS h (Nat.le_of_ble_eq_true rfl) (Nat.le_of_ble_eq_true rfl) dX6_widthOfLetter_67
        · have h := h.2.2 c3
          refine lv_bipush (v := iI 6) hx hb dX6_widthOfLetter_61 (by decide +kernel) ?_
          refine lv_goto (tgt := 67) hx hb dX6_widthOfLetter_63 (by decide) ?_
          exact hend _ _ _ _ _ _ 6 () hP hD hS h (Nat.le_of_ble_eq_true rfl) (Nat.le_of_ble_eq_true rfl) dX6_widthOfLetter_67
    · have h := h.2.2 c1
      refine lv_iconst (v := iI 2) hx hb dX6_widthOfLetter_45 rfl ?_
      refine lv_goto (tgt := 67) hx hb dX6_widthOfLetter_46 (by decide) ?_
      exact hend _ _ _ _ _ _ 2 () hP hD hS h (Nat.le_of_ble_eq_true rfl) (Nat.le_of_ble_eq_true rfl) dX6_widthOfLetter_67
  have B35 : ∀ (v1 : Int), wpX6_widthOfLetter_35 post v1 → ∀ (H : Heap) (locs : List Loc) (ls : Array Slot), va_P X.1 vwCl [] H → va_D A [] → va_S A s.heap H locs → lv_has ls 3 [(1, .int (iI v1))] → W p l e rmX6_widthOfLetter s m args below meth c H locs 0 0 Q (F0 m 35 ls []) := by
    intro  v1 h H locs ls hP hD hS hl
    refine lv_iconst (v := iI 1) hx hb dX6_widthOfLetter_35 rfl ?_
    refine lv_goto (tgt := 40) hx hb dX6_widthOfLetter_36 (by decide) ?_
    exact B40  v1 1 h _ _ _ hP hD hS (lv_sub hl [0] rfl)
  refine lv_iload_n hx hb dX6_widthOfLetter_0 rfl (lv_at hl 0 rfl) ?_
  refine lv_bipush (v := iI 97) hx hb dX6_widthOfLetter_1 (by decide +kernel) ?_
  refine i_add hx hb dX6_widthOfLetter_3 ?_
  refine lv_istore_n (lv' := [(1, .int (iI (p0 + 97))), (0, .int (iI p0))]) hx hb dX6_widthOfLetter_4 rfl hl (by decide) rfl (fun ls hl => ?_)
  refine lv_iload_n hx hb dX6_widthOfLetter_5 rfl (lv_at hl 0 rfl) ?_
  refine lv_bipush (v := iI 102) hx hb dX6_widthOfLetter_6 (by decide +kernel) ?_
  refine i_cmp_eq (tgt := 35) hx hb h.1 (inR_lit rfl) dX6_widthOfLetter_8 (by decide) (fun c1 => ?_) (fun c1 => ?_)
  · have h := h.2.1 c1
    exact B35  (p0 + 97) h _ _ _ hP hD hS (lv_sub hl [0] rfl)
  · have h := h.2.2 c1
    refine lv_iload_n hx hb dX6_widthOfLetter_11 rfl (lv_at hl 0 rfl) ?_
    refine lv_bipush (v := iI 105) hx hb dX6_widthOfLetter_12 (by decide +kernel) ?_
    refine i_cmp_eq (tgt := 35) hx hb h.1 (inR_lit rfl) dX6_widthOfLetter_14 (by decide) (fun c2 => ?_) (fun c2 => ?_)
    · have h := h.2.1 c2
      exact B35  (p0 + 97) h _ _ _ hP hD hS (lv_sub hl [0] rfl)
    · have h := h.2.2 c2
      refine lv_iload_n hx hb dX6_widthOfLetter_17 rfl (lv_at hl 0 rfl) ?_
      refine lv_bipush (v := iI 106) hx hb dX6_widthOfLetter_18 (by decide +kernel) ?_
      refine i_cmp_eq (tgt := 35) hx hb h.1 (inR_lit rfl) dX6_widthOfLetter_20 (by decide) (fun c3 => ?_) (fun c3 => ?_)
      · have h := h.2.1 c3
        exact B35  (p0 + 97) h _ _ _ hP hD hS (lv_sub hl [0] rfl)
      · have h := h.2.2 c3
        refine lv_iload_n hx hb dX6_widthOfLetter_23 rfl (lv_at hl 0 rfl) ?_
        refine lv_bipush (v := iI 108) hx hb dX6_widthOfLetter_24 (by decide +kernel) ?_
        refine i_cmp_eq (tgt := 35) hx hb h.1 (inR_lit rfl) dX6_widthOfLetter_26 (by decide) (fun c4 => ?_) (fun c4 => ?_)
        · have h := h.2.1 c4
          exact B35  (p0 + 97) h _ _ _ hP hD hS (lv_sub hl [0] rfl)
        · have h := h.2.2 c4
          refine lv_iload_n hx hb dX6_widthOfLetter_29 rfl (lv_at hl 0 rfl) ?_
          refine lv_bipush (v := iI 116) hx hb dX6_widthOfLetter_30 (by decide +kernel) ?_
          refine i_cmp_ne (tgt := 39) hx hb h.1 (inR_lit rfl) dX6_widthOfLetter_32 (by decide) (fun c5 => ?_) (fun c5 => ?_)
          · have h := h.2.1 c5
            refine lv_iconst (v := iI 0) hx hb dX6_widthOfLetter_39 rfl ?_
            exact B40  (p0 + 97) 0 h _ _ _ hP hD hS (lv_sub hl [0] rfl)
          · have h := h.2.2 c5
            exact B35  (p0 + 97) h _ _ _ hP hD hS (lv_sub hl [0] rfl)
abbrev rmX6_widthOf : Room := { frames := 1, cells := 0, slots := 0, locals := 22 }
set_option maxHeartbeats 4000000 in
set_option maxRecDepth 100000 in
theorem kX6_widthOf (l : Launch) (X : XD) (a_m a_m_s a_m_past a_m_aside a_m_text a_m_line a_m_page : Nat) (m_pasts : Int) (m_typed : Int) (m_thrown : Int) (m_lines : Int) (m_pages : Int) (m_measure : Int) (m_mostLeft : Int) (m_mostRight : Int) (m_spot : Int) (m_h : Int64) (m_s : Nat → Int) (m_past : Nat → Int) (m_aside : Nat → Int) (m_text : Nat → Int) (m_line : Nat → Int) (m_page : Nat → Int) (p1 : Int) (post : Int → Prop) (h : wpX6_widthOf m_s p1 post) : MCi l yX6_widthOf wsX6_widthOf rmX6_widthOf X [.ref a_m, .int (iI p1)] [(a_m, .inr (6, [.ref a_m_s, .ref a_m_past, .ref a_m_aside, .int (iI m_pasts), .ref a_m_text, .int (iI m_typed), .int (iI m_thrown), .ref a_m_line, .ref a_m_page, .int (iI m_lines), .int (iI m_pages), .int (iI m_measure), .int (iI m_mostLeft), .int (iI m_mostRight), .int (iI m_spot), .long m_h])), (a_m_s, eI X 975 m_s), (a_m_past, eI X 3900 m_past), (a_m_aside, eI X 975 m_aside), (a_m_text, eI X 200 m_text), (a_m_line, eI X 600 m_line), (a_m_page, eI X 180 m_page)] (S := Unit) (fun _ => [(a_m, .inr (6, [.ref a_m_s, .ref a_m_past, .ref a_m_aside, .int (iI m_pasts), .ref a_m_text, .int (iI m_typed), .int (iI m_thrown), .ref a_m_line, .ref a_m_page, .int (iI m_lines), .int (iI m_pages), .int (iI m_measure), .int (iI m_mostLeft), .int (iI m_mostRight), .int (iI m_spot), .long m_h])), (a_m_s, eI X 975 m_s), (a_m_past, eI X 3900 m_past), (a_m_aside, eI X 975 m_aside), (a_m_text, eI X 200 m_text), (a_m_line, eI X 600 m_line), (a_m_page, eI X 180 m_page)]) (fun z _ => post z) 0 0 := by
  refine MCi.of (cc := cX6_widthOf) (maxL := 4) (by decide +kernel) rfl rfl ?_
  intro p e s m args below meth c A ls Q hE0 hP hD hS hl hend
  obtain ⟨hx, hb, hr, hml, hlocks, hown, hts, hK, hE, hA, hnm⟩ := hE0
  have hl : lv_has ls 4 [(0, .ref a_m), (1, .int (iI p1))] := hl
  have B24 : ∀ (n : Nat) (v1 : Int) (v2 : Int) (v3 : Int), wpX6_widthOf_24 m_s post n v1 v2 v3 → ∀ (H : Heap) (locs : List Loc) (ls : Array Slot), va_P X.1 vwCl [(a_m, .inr (6, [.ref a_m_s, .ref a_m_past, .ref a_m_aside, .int (iI m_pasts), .ref a_m_text, .int (iI m_typed), .int (iI m_thrown), .ref a_m_line, .ref a_m_page, .int (iI m_lines), .int (iI m_pages), .int (iI m_measure), .int (iI m_mostLeft), .int (iI m_mostRight), .int (iI m_spot), .long m_h])), (a_m_s, eI X 975 m_s), (a_m_past, eI X 3900 m_past), (a_m_aside, eI X 975 m_aside), (a_m_text, eI X 200 m_text), (a_m_line, eI X 600 m_line), (a_m_page, eI X 180 m_page)] H → va_D A [(a_m, .inr (6, [.ref a_m_s, .ref a_m_past, .ref a_m_aside, .int (iI m_pasts), .ref a_m_text, .int (iI m_typed), .int (iI m_thrown), .ref a_m_line, .ref a_m_page, .int (iI m_lines), .int (iI m_pages), .int (iI m_measure), .int (iI m_mostLeft), .int (iI m_mostRight), .int (iI m_spot), .long m_h])), (a_m_s, eI X 975 m_s), (a_m_past, eI X 3900 m_past), (a_m_aside, eI X 975 m_aside), (a_m_text, eI X 200 m_text), (a_m_line, eI X 600 m_line), (a_m_page, eI X 180 m_page)] → va_S A s.heap H locs → lv_has ls 4 [(0, .ref a_m), (1, .int (iI v1)), (2, .int (iI v2)), (3, .int (iI v3))] → W p l e rmX6_widthOf s m args below meth c H locs 0 0 Q (F0 m 24 ls []) := by
    intro  n
    induction n with
    | zero => intro v1 v2 v3 h; exact h.elim
    | succ n ih =>
      intro v1 v2 v3 h H locs ls hP hD hS hl
      refine lv_iload_n hx hb dX6_widthOf_24 rfl (lv_at hl 3 rfl) ?_
      refine lv_aload_n hx hb dX6_widthOf_25 rfl (lv_at hl 0 rfl) ?_
      refine lv_iload_n hx hb dX6_widthOf_26 rfl (lv_at hl 1 rfl) ?_
      refine lv_bipush (v := iI 12) hx hb dX6_widthOf_27 (by decide +kernel) ?_
      refine e_i (isC := [0, 1, 2, 3, 4, 5, 6]) (isR := []) (wr := []) (va_runV (As := [.int (iI v1), .int (iI 12)]) (rest := [.int (iI v3)]) ⟨hx, hb, hml, hown, hts⟩ (kX6_of l X a_m a_m_s a_m_past a_m_aside a_m_text a_m_line a_m_page m_pasts m_typed m_thrown m_lines m_pages m_measure m_mostLeft m_mostRight m_spot m_h m_s m_past m_aside m_text m_line m_page v1 12 _ h _) (cwV 2 hts gX6_widthOf_X6_of rfl rfl rfl (by decide +kernel) ⟨(Nat.le_of_ble_eq_true rfl), (Nat.le_of_ble_eq_true rfl)⟩) ⟨pre_blind, va_recv hK hP (ci := 6) (q0 := 0) rfl rfl, pre_cut hE hK hA hP hD hS (isC := [0, 1, 2, 3, 4, 5, 6]) rfl (by decide +kernel)⟩ rfl rfl hl.1 rfl (lv_room (Nat.le_of_ble_eq_true rfl)) dX6_widthOf_29 ⟨(Nat.le_of_ble_eq_true rfl), (Nat.le_of_ble_eq_true rfl)⟩) hA hP hD hS rfl rfl (by decide +kernel) (by decide +kernel) (fun z1 u1 H locs h hP hD hS => ?_)
      have hP : va_P X.1 vwCl [(a_m, .inr (6, [.ref a_m_s, .ref a_m_past, .ref a_m_aside, .int (iI m_pasts), .ref a_m_text, .int (iI m_typed), .int (iI m_thrown), .ref a_m_line, .ref a_m_page, .int (iI m_lines), .int (iI m_pages), .int (iI m_measure), .int (iI m_mostLeft), .int (iI m_mostRight), .int (iI m_spot), .long m_h])), (a_m_s, eI X 975 m_s), (a_m_past, eI X 3900 m_past), (a_m_aside, eI X 975 m_aside), (a_m_text, eI X 200 m_text), (a_m_line, eI X 600 m_line), (a_m_page, eI X 180 m_page)] H := hP
      have hD : va_D A [(a_m, .inr (6, [.ref a_m_s, .ref a_m_past, .ref a_m_aside, .int (iI m_pasts), .ref a_m_text, .int (iI m_typed), .int (iI m_thrown), .ref a_m_line, .ref a_m_page, .int (iI m_lines), .int (iI m_pages), .int (iI m_measure), .int (iI m_mostLeft), .int (iI m_mostRight), .int (iI m_spot), .long m_h])), (a_m_s, eI X 975 m_s), (a_m_past, eI X 3900 m_past), (a_m_aside, eI X 975 m_aside), (a_m_text, eI X 200 m_text), (a_m_line, eI X 600 m_line), (a_m_page, eI X 180 m_page)] := hD
      refine i_cmp_ge (tgt := 53) hx hb h.1 h.2.1 dX6_widthOf_32 (by decide) (fun c2 => ?_) (fun c2 => ?_)
      · have h := h.2.2.1 c2
        refine lv_iload_n hx hb dX6_widthOf_53 rfl (lv_at hl 2 rfl) ?_
        exact hend _ _ _ _ _ _ v2 () hP hD hS h (Nat.le_of_ble_eq_true rfl) (Nat.le_of_ble_eq_true rfl) dX6_widthOf_54
      · have h := h.2.2.2 c2
        refine lv_iload_n hx hb dX6_widthOf_35 rfl (lv_at hl 2 rfl) ?_
        refine lv_aload_n hx hb dX6_widthOf_36 rfl (lv_at hl 0 rfl) ?_
        refine lv_iload_n hx hb dX6_widthOf_37 rfl (lv_at hl 1 rfl) ?_
        refine lv_iload_n hx hb dX6_widthOf_38 rfl (lv_at hl 3 rfl) ?_
        refine e_i (isC := [0, 1, 2, 3, 4, 5, 6]) (isR := []) (wr := []) (va_runV (As := [.int (iI v1), .int (iI v3)]) (rest := [.int (iI v2)]) ⟨hx, hb, hml, hown, hts⟩ (kX6_of l X a_m a_m_s a_m_past a_m_aside a_m_text a_m_line a_m_page m_pasts m_typed m_thrown m_lines m_pages m_measure m_mostLeft m_mostRight m_spot m_h m_s m_past m_aside m_text m_line m_page v1 v3 _ h _) (cwV 2 hts gX6_widthOf_X6_of rfl rfl rfl (by decide +kernel) ⟨(Nat.le_of_ble_eq_true rfl), (Nat.le_of_ble_eq_true rfl)⟩) ⟨pre_blind, va_recv hK hP (ci := 6) (q0 := 0) rfl rfl, pre_cut hE hK hA hP hD hS (isC := [0, 1, 2, 3, 4, 5, 6]) rfl (by decide +kernel)⟩ rfl rfl hl.1 rfl (lv_room (Nat.le_of_ble_eq_true rfl)) dX6_widthOf_39 ⟨(Nat.le_of_ble_eq_true rfl), (Nat.le_of_ble_eq_true rfl)⟩) hA hP hD hS rfl rfl (by decide +kernel) (by decide +kernel) (fun z3 u3 H locs h hP hD hS => ?_)
        have hP : va_P X.1 vwCl [(a_m, .inr (6, [.ref a_m_s, .ref a_m_past, .ref a_m_aside, .int (iI m_pasts), .ref a_m_text, .int (iI m_typed), .int (iI m_thrown), .ref a_m_line, .ref a_m_page, .int (iI m_lines), .int (iI m_pages), .int (iI m_measure), .int (iI m_mostLeft), .int (iI m_mostRight), .int (iI m_spot), .long m_h])), (a_m_s, eI X 975 m_s), (a_m_past, eI X 3900 m_past), (a_m_aside, eI X 975 m_aside), (a_m_text, eI X 200 m_text), (a_m_line, eI X 600 m_line), (a_m_page, eI X 180 m_page)] H := hP
        have hD : va_D A [(a_m, .inr (6, [.ref a_m_s, .ref a_m_past, .ref a_m_aside, .int (iI m_pasts), .ref a_m_text, .int (iI m_typed), .int (iI m_thrown), .ref a_m_line, .ref a_m_page, .int (iI m_lines), .int (iI m_pages), .int (iI m_measure), .int (iI m_mostLeft), .int (iI m_mostRight), .int (iI m_spot), .long m_h])), (a_m_s, eI X 975 m_s), (a_m_past, eI X 3900 m_past), (a_m_aside, eI X 975 m_aside), (a_m_text, eI X 200 m_text), (a_m_line, eI X 600 m_line), (a_m_page, eI X 180 m_page)] := hD
        refine e_i (isC := []) (isR := [0, 1, 2, 3, 4, 5, 6]) (wr := [(a_m, .inr (6, [.ref a_m_s, .ref a_m_past, .ref a_m_aside, .int (iI m_pasts), .ref a_m_text, .int (iI m_typed), .int (iI m_thrown), .ref a_m_line, .ref a_m_page, .int (iI m_lines), .int (iI m_pages), .int (iI m_measure), .int (iI m_mostLeft), .int (iI m_mostRight), .int (iI m_spot), .long m_h])), (a_m_s, eI X 975 m_s), (a_m_past, eI X 3900 m_past), (a_m_aside, eI X 975 m_aside), (a_m_text, eI X 200 m_text), (a_m_line, eI X 600 m_line), (a_m_page, eI X 180 m_page)]) (va_runS (As := [.int (iI z3)]) (rest := [.int (iI v2)]) ⟨hx, hb, hml, hown, hts⟩ (kX6_widthOfLetter l X z3 _ h _) (va_cwS 1 hts gX6_widthOf_X6_widthOfLetter rfl rfl rfl (by decide +kernel) ⟨(Nat.le_of_ble_eq_true rfl), (Nat.le_of_ble_eq_true rfl)⟩) ⟨pre_blind, pre_cut hE hK hA hP hD hS (isC := []) rfl (by decide +kernel)⟩ rfl rfl hl.1 rfl (lv_room (Nat.le_of_ble_eq_true rfl)) dX6_widthOf_42 ⟨(Nat.le_of_ble_eq_true rfl), (Nat.le_of_ble_eq_true rfl)⟩) hA hP hD hS rfl rfl (by decide +kernel) (by decide +kernel) (fun z4 u4 H locs h hP hD hS => ?_)
        have hP : va_P X.1 vwCl [(a_m, .inr (6, [.ref a_m_s, .ref a_m_past, .ref a_m_aside, .int (iI m_pasts), .ref a_m_text, .int (iI m_typed), .int (iI m_thrown), .ref a_m_line, .ref a_m_page, .int (iI m_lines), .int (iI m_pages), .int (iI m_measure), .int (iI m_mostLeft), .int (iI m_mostRight), .int (iI m_spot), .long m_h])), (a_m_s, eI X 975 m_s), (a_m_past, eI X 3900 m_past), (a_m_aside, eI X 975 m_aside), (a_m_text, eI X 200 m_text), (a_m_line, eI X 600 m_line), (a_m_page, eI X 180 m_page)] H := hP
        have hD : va_D A [(a_m, .inr (6, [.ref a_m_s, .ref a_m_past, .ref a_m_aside, .int (iI m_pasts), .ref a_m_text, .int (iI m_typed), .int (iI m_thrown), .ref a_m_line, .ref a_m_page, .int (iI m_lines), .int (iI m_pages), .int (iI m_measure), .int (iI m_mostLeft), .int (iI m_mostRight), .int (iI m_spot), .long m_h])), (a_m_s, eI X 975 m_s), (a_m_past, eI X 3900 m_past), (a_m_aside, eI X 975 m_aside), (a_m_text, eI X 200 m_text), (a_m_line, eI X 600 m_line), (a_m_page, eI X 180 m_page)] := hD
        refine i_add hx hb dX6_widthOf_45 ?_
        refine lv_istore_n (lv' := [(2, .int (iI (v2 + z4))), (0, .ref a_m), (1, .int (iI v1)), (3, .int (iI v3))]) hx hb dX6_widthOf_46 rfl hl (by decide) rfl (fun ls hl => ?_)
        refine lv_iinc (v := iI (v3 + 1)) (lv' := [(3, .int (iI (v3 + 1))), (2, .int (iI (v2 + z4))), (0, .ref a_m), (1, .int (iI v1))]) hx hb dX6_widthOf_47 hl (k := 3) rfl (iI_add _ _) (by decide) rfl (fun ls hl => ?_)
        refine lv_goto (tgt := 24) hx hb dX6_widthOf_50 (by decide) ?_
        exact ih v1 (v2 + z4) (v3 + 1) h _ _ _ hP hD hS (lv_sub hl [2, 3, 1, 0] rfl)
  refine lv_aload_n hx hb dX6_widthOf_0 rfl (lv_at hl 0 rfl) ?_
  refine lv_iload_n hx hb dX6_widthOf_1 rfl (lv_at hl 1 rfl) ?_
  refine lv_bipush (v := iI 13) hx hb dX6_widthOf_2 (by decide +kernel) ?_
  refine e_i (isC := [0, 1, 2, 3, 4, 5, 6]) (isR := []) (wr := []) (va_runV (As := [.int (iI p1), .int (iI 13)]) (rest := []) ⟨hx, hb, hml, hown, hts⟩ (kX6_of l X a_m a_m_s a_m_past a_m_aside a_m_text a_m_line a_m_page m_pasts m_typed m_thrown m_lines m_pages m_measure m_mostLeft m_mostRight m_spot m_h m_s m_past m_aside m_text m_line m_page p1 13 _ h _) (cwV 2 hts gX6_widthOf_X6_of rfl rfl rfl (by decide +kernel) ⟨(Nat.le_of_ble_eq_true rfl), (Nat.le_of_ble_eq_true rfl)⟩) ⟨pre_blind, va_recv hK hP (ci := 6) (q0 := 0) rfl rfl, pre_cut hE hK hA hP hD hS (isC := [0, 1, 2, 3, 4, 5, 6]) rfl (by decide +kernel)⟩ rfl rfl hl.1 rfl (lv_room (Nat.le_of_ble_eq_true rfl)) dX6_widthOf_4 ⟨(Nat.le_of_ble_eq_true rfl), (Nat.le_of_ble_eq_true rfl)⟩) hA hP hD hS rfl rfl (by decide +kernel) (by decide +kernel) (fun z1 u1 H locs h hP hD hS => ?_)
  have hP : va_P X.1 vwCl [(a_m, .inr (6, [.ref a_m_s, .ref a_m_past, .ref a_m_aside, .int (iI m_pasts), .ref a_m_text, .int (iI m_typed), .int (iI m_thrown), .ref a_m_line, .ref a_m_page, .int (iI m_lines), .int (iI m_pages), .int (iI m_measure), .int (iI m_mostLeft), .int (iI m_mostRight), .int (iI m_spot), .long m_h])), (a_m_s, eI X 975 m_s), (a_m_past, eI X 3900 m_past), (a_m_aside, eI X 975 m_aside), (a_m_text, eI X 200 m_text), (a_m_line, eI X 600 m_line), (a_m_page, eI X 180 m_page)] H := hP
  have hD : va_D A [(a_m, .inr (6, [.ref a_m_s, .ref a_m_past, .ref a_m_aside, .int (iI m_pasts), .ref a_m_text, .int (iI m_typed), .int (iI m_thrown), .ref a_m_line, .ref a_m_page, .int (iI m_lines), .int (iI m_pages), .int (iI m_measure), .int (iI m_mostLeft), .int (iI m_mostRight), .int (iI m_spot), .long m_h])), (a_m_s, eI X 975 m_s), (a_m_past, eI X 3900 m_past), (a_m_aside, eI X 975 m_aside), (a_m_text, eI X 200 m_text), (a_m_line, eI X 600 m_line), (a_m_page, eI X 180 m_page)] := hD
  refine e_i (isC := []) (isR := [0, 1, 2, 3, 4, 5, 6]) (wr := [(a_m, .inr (6, [.ref a_m_s, .ref a_m_past, .ref a_m_aside, .int (iI m_pasts), .ref a_m_text, .int (iI m_typed), .int (iI m_thrown), .ref a_m_line, .ref a_m_page, .int (iI m_lines), .int (iI m_pages), .int (iI m_measure), .int (iI m_mostLeft), .int (iI m_mostRight), .int (iI m_spot), .long m_h])), (a_m_s, eI X 975 m_s), (a_m_past, eI X 3900 m_past), (a_m_aside, eI X 975 m_aside), (a_m_text, eI X 200 m_text), (a_m_line, eI X 600 m_line), (a_m_page, eI X 180 m_page)]) (va_runS (As := [.int (iI z1)]) (rest := []) ⟨hx, hb, hml, hown, hts⟩ (kX6_widthOfSign l X z1 _ h _) (va_cwS 1 hts gX6_widthOf_X6_widthOfSign rfl rfl rfl (by decide +kernel) ⟨(Nat.le_of_ble_eq_true rfl), (Nat.le_of_ble_eq_true rfl)⟩) ⟨pre_blind, pre_cut hE hK hA hP hD hS (isC := []) rfl (by decide +kernel)⟩ rfl rfl hl.1 rfl (lv_room (Nat.le_of_ble_eq_true rfl)) dX6_widthOf_7 ⟨(Nat.le_of_ble_eq_true rfl), (Nat.le_of_ble_eq_true rfl)⟩) hA hP hD hS rfl rfl (by decide +kernel) (by decide +kernel) (fun z2 u2 H locs h hP hD hS => ?_)
  have hP : va_P X.1 vwCl [(a_m, .inr (6, [.ref a_m_s, .ref a_m_past, .ref a_m_aside, .int (iI m_pasts), .ref a_m_text, .int (iI m_typed), .int (iI m_thrown), .ref a_m_line, .ref a_m_page, .int (iI m_lines), .int (iI m_pages), .int (iI m_measure), .int (iI m_mostLeft), .int (iI m_mostRight), .int (iI m_spot), .long m_h])), (a_m_s, eI X 975 m_s), (a_m_past, eI X 3900 m_past), (a_m_aside, eI X 975 m_aside), (a_m_text, eI X 200 m_text), (a_m_line, eI X 600 m_line), (a_m_page, eI X 180 m_page)] H := hP
  have hD : va_D A [(a_m, .inr (6, [.ref a_m_s, .ref a_m_past, .ref a_m_aside, .int (iI m_pasts), .ref a_m_text, .int (iI m_typed), .int (iI m_thrown), .ref a_m_line, .ref a_m_page, .int (iI m_lines), .int (iI m_pages), .int (iI m_measure), .int (iI m_mostLeft), .int (iI m_mostRight), .int (iI m_spot), .long m_h])), (a_m_s, eI X 975 m_s), (a_m_past, eI X 3900 m_past), (a_m_aside, eI X 975 m_aside), (a_m_text, eI X 200 m_text), (a_m_line, eI X 600 m_line), (a_m_page, eI X 180 m_page)] := hD
  refine lv_aload_n hx hb dX6_widthOf_10 rfl (lv_at hl 0 rfl) ?_
  refine lv_iload_n hx hb dX6_widthOf_11 rfl (lv_at hl 1 rfl) ?_
  refine lv_bipush (v := iI 14) hx hb dX6_widthOf_12 (by decide +kernel) ?_
  refine e_i (isC := [0, 1, 2, 3, 4, 5, 6]) (isR := []) (wr := []) (va_runV (As := [.int (iI p1), .int (iI 14)]) (rest := [.int (iI z2)]) ⟨hx, hb, hml, hown, hts⟩ (kX6_of l X a_m a_m_s a_m_past a_m_aside a_m_text a_m_line a_m_page m_pasts m_typed m_thrown m_lines m_pages m_measure m_mostLeft m_mostRight m_spot m_h m_s m_past m_aside m_text m_line m_page p1 14 _ h _) (cwV 2 hts gX6_widthOf_X6_of rfl rfl rfl (by decide +kernel) ⟨(Nat.le_of_ble_eq_true rfl), (Nat.le_of_ble_eq_true rfl)⟩) ⟨pre_blind, va_recv hK hP (ci := 6) (q0 := 0) rfl rfl, pre_cut hE hK hA hP hD hS (isC := [0, 1, 2, 3, 4, 5, 6]) rfl (by decide +kernel)⟩ rfl rfl hl.1 rfl (lv_room (Nat.le_of_ble_eq_true rfl)) dX6_widthOf_14 ⟨(Nat.le_of_ble_eq_true rfl), (Nat.le_of_ble_eq_true rfl)⟩) hA hP hD hS rfl rfl (by decide +kernel) (by decide +kernel) (fun z3 u3 H locs h hP hD hS => ?_)
  have hP : va_P X.1 vwCl [(a_m, .inr (6, [.ref a_m_s, .ref a_m_past, .ref a_m_aside, .int (iI m_pasts), .ref a_m_text, .int (iI m_typed), .int (iI m_thrown), .ref a_m_line, .ref a_m_page, .int (iI m_lines), .int (iI m_pages), .int (iI m_measure), .int (iI m_mostLeft), .int (iI m_mostRight), .int (iI m_spot), .long m_h])), (a_m_s, eI X 975 m_s), (a_m_past, eI X 3900 m_past), (a_m_aside, eI X 975 m_aside), (a_m_text, eI X 200 m_text), (a_m_line, eI X 600 m_line), (a_m_page, eI X 180 m_page)] H := hP
  have hD : va_D A [(a_m, .inr (6, [.ref a_m_s, .ref a_m_past, .ref a_m_aside, .int (iI m_pasts), .ref a_m_text, .int (iI m_typed), .int (iI m_thrown), .ref a_m_line, .ref a_m_page, .int (iI m_lines), .int (iI m_pages), .int (iI m_measure), .int (iI m_mostLeft), .int (iI m_mostRight), .int (iI m_spot), .long m_h])), (a_m_s, eI X 975 m_s), (a_m_past, eI X 3900 m_past), (a_m_aside, eI X 975 m_aside), (a_m_text, eI X 200 m_text), (a_m_line, eI X 600 m_line), (a_m_page, eI X 180 m_page)] := hD
  refine e_i (isC := []) (isR := [0, 1, 2, 3, 4, 5, 6]) (wr := [(a_m, .inr (6, [.ref a_m_s, .ref a_m_past, .ref a_m_aside, .int (iI m_pasts), .ref a_m_text, .int (iI m_typed), .int (iI m_thrown), .ref a_m_line, .ref a_m_page, .int (iI m_lines), .int (iI m_pages), .int (iI m_measure), .int (iI m_mostLeft), .int (iI m_mostRight), .int (iI m_spot), .long m_h])), (a_m_s, eI X 975 m_s), (a_m_past, eI X 3900 m_past), (a_m_aside, eI X 975 m_aside), (a_m_text, eI X 200 m_text), (a_m_line, eI X 600 m_line), (a_m_page, eI X 180 m_page)]) (va_runS (As := [.int (iI z3)]) (rest := [.int (iI z2)]) ⟨hx, hb, hml, hown, hts⟩ (kX6_widthOfSign l X z3 _ h _) (va_cwS 1 hts gX6_widthOf_X6_widthOfSign rfl rfl rfl (by decide +kernel) ⟨(Nat.le_of_ble_eq_true rfl), (Nat.le_of_ble_eq_true rfl)⟩) ⟨pre_blind, pre_cut hE hK hA hP hD hS (isC := []) rfl (by decide +kernel)⟩ rfl rfl hl.1 rfl (lv_room (Nat.le_of_ble_eq_true rfl)) dX6_widthOf_17 ⟨(Nat.le_of_ble_eq_true rfl), (Nat.le_of_ble_eq_true rfl)⟩) hA hP hD hS rfl rfl (by decide +kernel) (by decide +kernel) (fun z4 u4 H locs h hP hD hS => ?_)
  have hP : va_P X.1 vwCl [(a_m, .inr (6, [.ref a_m_s, .ref a_m_past, .ref a_m_aside, .int (iI m_pasts), .ref a_m_text, .int (iI m_typed), .int (iI m_thrown), .ref a_m_line, .ref a_m_page, .int (iI m_lines), .int (iI m_pages), .int (iI m_measure), .int (iI m_mostLeft), .int (iI m_mostRight), .int (iI m_spot), .long m_h])), (a_m_s, eI X 975 m_s), (a_m_past, eI X 3900 m_past), (a_m_aside, eI X 975 m_aside), (a_m_text, eI X 200 m_text), (a_m_line, eI X 600 m_line), (a_m_page, eI X 180 m_page)] H := hP
  have hD : va_D A [(a_m, .inr (6, [.ref a_m_s, .ref a_m_past, .ref a_m_aside, .int (iI m_pasts), .ref a_m_text, .int (iI m_typed), .int (iI m_thrown), .ref a_m_line, .ref a_m_page, .int (iI m_lines), .int (iI m_pages), .int (iI m_measure), .int (iI m_mostLeft), .int (iI m_mostRight), .int (iI m_spot), .long m_h])), (a_m_s, eI X 975 m_s), (a_m_past, eI X 3900 m_past), (a_m_aside, eI X 975 m_aside), (a_m_text, eI X 200 m_text), (a_m_line, eI X 600 m_line), (a_m_page, eI X 180 m_page)] := hD
  refine i_add hx hb dX6_widthOf_20 ?_
  refine lv_istore_n (lv' := [(2, .int (iI (z2 + z4))), (0, .ref a_m), (1, .int (iI p1))]) hx hb dX6_widthOf_21 rfl hl (by decide) rfl (fun ls hl => ?_)
  refine lv_iconst (v := iI 0) hx hb dX6_widthOf_22 rfl ?_
  refine lv_istore_n (lv' := [(3, .int (iI 0)), (2, .int (iI (z2 + z4))), (0, .ref a_m), (1, .int (iI p1))]) hx hb dX6_widthOf_23 rfl hl (by decide) rfl (fun ls hl => ?_)
  obtain ⟨n5, h⟩ := h
  exact B24  n5 p1 (z2 + z4) 0 h _ _ _ hP hD hS (lv_sub hl [2, 3, 1, 0] rfl)
abbrev rmX6_overhang : Room := { frames := 1, cells := 0, slots := 0, locals := 20 }
set_option maxHeartbeats 4000000 in
set_option maxRecDepth 100000 in
theorem kX6_overhang (l : Launch) (X : XD) (a_m a_m_s a_m_past a_m_aside a_m_text a_m_line a_m_page : Nat) (m_pasts : Int) (m_typed : Int) (m_thrown : Int) (m_lines : Int) (m_pages : Int) (m_measure : Int) (m_mostLeft : Int) (m_mostRight : Int) (m_spot : Int) (m_h : Int64) (m_s : Nat → Int) (m_past : Nat → Int) (m_aside : Nat → Int) (m_text : Nat → Int) (m_line : Nat → Int) (m_page : Nat → Int) (p1 : Int) (p2 : Int) (post : Int → Prop) (h : wpX6_overhang m_s p1 p2 post) : MCi l yX6_overhang wsX6_overhang rmX6_overhang X [.ref a_m, .int (iI p1), .int (iI p2)] [(a_m, .inr (6, [.ref a_m_s, .ref a_m_past, .ref a_m_aside, .int (iI m_pasts), .ref a_m_text, .int (iI m_typed), .int (iI m_thrown), .ref a_m_line, .ref a_m_page, .int (iI m_lines), .int (iI m_pages), .int (iI m_measure), .int (iI m_mostLeft), .int (iI m_mostRight), .int (iI m_spot), .long m_h])), (a_m_s, eI X 975 m_s), (a_m_past, eI X 3900 m_past), (a_m_aside, eI X 975 m_aside), (a_m_text, eI X 200 m_text), (a_m_line, eI X 600 m_line), (a_m_page, eI X 180 m_page)] (S := Unit) (fun _ => [(a_m, .inr (6, [.ref a_m_s, .ref a_m_past, .ref a_m_aside, .int (iI m_pasts), .ref a_m_text, .int (iI m_typed), .int (iI m_thrown), .ref a_m_line, .ref a_m_page, .int (iI m_lines), .int (iI m_pages), .int (iI m_measure), .int (iI m_mostLeft), .int (iI m_mostRight), .int (iI m_spot), .long m_h])), (a_m_s, eI X 975 m_s), (a_m_past, eI X 3900 m_past), (a_m_aside, eI X 975 m_aside), (a_m_text, eI X 200 m_text), (a_m_line, eI X 600 m_line), (a_m_page, eI X 180 m_page)]) (fun z _ => post z) 0 0 := by
  refine MCi.of (cc := cX6_overhang) (maxL := 4) (by decide +kernel) rfl rfl ?_
  intro p e s m args below meth c A ls Q hE0 hP hD hS hl hend
  obtain ⟨hx, hb, hr, hml, hlocks, hown, hts, hK, hE, hA, hnm⟩ := hE0
  have hl : lv_has ls 4 [(0, .ref a_m), (1, .int (iI p1)), (2, .int (iI p2))] := hl
  have hi_X6 : ∀ w ∈ wsX60, w ∈ wsX6_overhang := by decide +kernel
  have hf_7 := hts (.fieldLink RX6 7 "LentMarginsModel" "s" "[I") (by decide +kernel)
  have B26 : ∀ (v2 : Int) (w0 : Int), wpX6_overhang_26 m_s post v2 w0 → ∀ (H : Heap) (locs : List Loc) (ls : Array Slot), va_P X.1 vwCl [(a_m, .inr (6, [.ref a_m_s, .ref a_m_past, .ref a_m_aside, .int (iI m_pasts), .ref a_m_text, .int (iI m_typed), .int (iI m_thrown), .ref a_m_line, .ref a_m_page, .int (iI m_lines), .int (iI m_pages), .int (iI m_measure), .int (iI m_mostLeft), .int (iI m_mostRight), .int (iI m_spot), .long m_h])), (a_m_s, eI X 975 m_s), (a_m_past, eI X 3900 m_past), (a_m_aside, eI X 975 m_aside), (a_m_text, eI X 200 m_text), (a_m_line, eI X 600 m_line), (a_m_page, eI X 180 m_page)] H → va_D A [(a_m, .inr (6, [.ref a_m_s, .ref a_m_past, .ref a_m_aside, .int (iI m_pasts), .ref a_m_text, .int (iI m_typed), .int (iI m_thrown), .ref a_m_line, .ref a_m_page, .int (iI m_lines), .int (iI m_pages), .int (iI m_measure), .int (iI m_mostLeft), .int (iI m_mostRight), .int (iI m_spot), .long m_h])), (a_m_s, eI X 975 m_s), (a_m_past, eI X 3900 m_past), (a_m_aside, eI X 975 m_aside), (a_m_text, eI X 200 m_text), (a_m_line, eI X 600 m_line), (a_m_page, eI X 180 m_page)] → va_S A s.heap H locs → lv_has ls 4 [(2, .int (iI v2))] → W p l e rmX6_overhang s m args below meth c H locs 0 0 Q (F0 m 26 ls [.int (iI w0)]) := by
    intro  v2 w0 h H locs ls hP hD hS hl
    refine lv_istore_n (lv' := [(3, .int (iI w0)), (2, .int (iI v2))]) hx hb dX6_overhang_26 rfl hl (by decide) rfl (fun ls hl => ?_)
    refine lv_iload_n hx hb dX6_overhang_27 rfl (lv_at hl 0 rfl) ?_
    refine lv_iload_n hx hb dX6_overhang_28 rfl (lv_at hl 1 rfl) ?_
    refine i_cmp_ge (tgt := 36) hx hb h.1 h.2.1 dX6_overhang_29 (by decide) (fun c1 => ?_) (fun c1 => ?_)
    · have h := h.2.2.1 c1
      refine lv_iload_n hx hb dX6_overhang_36 rfl (lv_at hl 1 rfl) ?_
      exact hend _ _ _ _ _ _ v2 () hP hD hS h (Nat.le_of_ble_eq_true rfl) (Nat.le_of_ble_eq_true rfl) dX6_overhang_37
    · have h := h.2.2.2 c1
      refine lv_iload_n hx hb dX6_overhang_32 rfl (lv_at hl 0 rfl) ?_
      refine lv_goto (tgt := 37) hx hb dX6_overhang_33 (by decide) ?_
      exact hend _ _ _ _ _ _ w0 () hP hD hS h (Nat.le_of_ble_eq_true rfl) (Nat.le_of_ble_eq_true rfl) dX6_overhang_37
  refine lv_iload_n hx hb dX6_overhang_0 rfl (lv_at hl 1 rfl) ?_
  refine lv_iconst (v := iI (-1)) hx hb dX6_overhang_1 rfl ?_
  refine i_cmp_ne (tgt := 9) hx hb h.1 (inR_lit rfl) dX6_overhang_2 (by decide) (fun c1 => ?_) (fun c1 => ?_)
  · have h := h.2.1 c1
    refine lv_iload_n hx hb dX6_overhang_9 rfl (lv_at hl 1 rfl) ?_
    refine e_i (isC := []) (isR := [0, 1, 2, 3, 4, 5, 6]) (wr := [(a_m, .inr (6, [.ref a_m_s, .ref a_m_past, .ref a_m_aside, .int (iI m_pasts), .ref a_m_text, .int (iI m_typed), .int (iI m_thrown), .ref a_m_line, .ref a_m_page, .int (iI m_lines), .int (iI m_pages), .int (iI m_measure), .int (iI m_mostLeft), .int (iI m_mostRight), .int (iI m_spot), .long m_h])), (a_m_s, eI X 975 m_s), (a_m_past, eI X 3900 m_past), (a_m_aside, eI X 975 m_aside), (a_m_text, eI X 200 m_text), (a_m_line, eI X 600 m_line), (a_m_page, eI X 180 m_page)]) (va_runS (As := [.int (iI p1)]) (rest := []) ⟨hx, hb, hml, hown, hts⟩ (kX6_widthOfSign l X p1 _ h _) (va_cwS 1 hts gX6_overhang_X6_widthOfSign rfl rfl rfl (by decide +kernel) ⟨(Nat.le_of_ble_eq_true rfl), (Nat.le_of_ble_eq_true rfl)⟩) ⟨pre_blind, pre_cut hE hK hA hP hD hS (isC := []) rfl (by decide +kernel)⟩ rfl rfl hl.1 rfl (lv_room (Nat.le_of_ble_eq_true rfl)) dX6_overhang_10 ⟨(Nat.le_of_ble_eq_true rfl), (Nat.le_of_ble_eq_true rfl)⟩) hA hP hD hS rfl rfl (by decide +kernel) (by decide +kernel) (fun z2 u2 H locs h hP hD hS => ?_)
    have hP : va_P X.1 vwCl [(a_m, .inr (6, [.ref a_m_s, .ref a_m_past, .ref a_m_aside, .int (iI m_pasts), .ref a_m_text, .int (iI m_typed), .int (iI m_thrown), .ref a_m_line, .ref a_m_page, .int (iI m_lines), .int (iI m_pages), .int (iI m_measure), .int (iI m_mostLeft), .int (iI m_mostRight), .int (iI m_spot), .long m_h])), (a_m_s, eI X 975 m_s), (a_m_past, eI X 3900 m_past), (a_m_aside, eI X 975 m_aside), (a_m_text, eI X 200 m_text), (a_m_line, eI X 600 m_line), (a_m_page, eI X 180 m_page)] H := hP
    have hD : va_D A [(a_m, .inr (6, [.ref a_m_s, .ref a_m_past, .ref a_m_aside, .int (iI m_pasts), .ref a_m_text, .int (iI m_typed), .int (iI m_thrown), .ref a_m_line, .ref a_m_page, .int (iI m_lines), .int (iI m_pages), .int (iI m_measure), .int (iI m_mostLeft), .int (iI m_mostRight), .int (iI m_spot), .long m_h])), (a_m_s, eI X 975 m_s), (a_m_past, eI X 3900 m_past), (a_m_aside, eI X 975 m_aside), (a_m_text, eI X 200 m_text), (a_m_line, eI X 600 m_line), (a_m_page, eI X 180 m_page)] := hD
    refine lv_aload_n hx hb dX6_overhang_13 rfl (lv_at hl 0 rfl) ?_
    refine va_get (D := X.1) (ci := 6) (C := RX6) (T := TX6) (N := 16) hx hb hts hi_X6 hown hK hP 0 rfl rfl 0 (by decide) hf_7 (fun _ h9 => h9) rfl dX6_overhang_14 ?_
    refine lv_bipush (v := iI 6) hx hb dX6_overhang_17 (by decide +kernel) ?_
    refine lv_iload_n hx hb dX6_overhang_19 rfl (lv_at hl 1 rfl) ?_
    refine i_add hx hb dX6_overhang_20 ?_
    refine i_ald hx hb hK hP 1 0 rfl rfl h.1 h.2.1 rfl (Nat.le_of_ble_eq_true rfl) dX6_overhang_21 ?_
    have h := h.2.2
    refine i_mul hx hb dX6_overhang_22 ?_
    refine lv_bipush (v := iI 100) hx hb dX6_overhang_23 (by decide +kernel) ?_
    refine i_div hx hb h.1 h.2.1 (by decide) (by decide) dX6_overhang_25 ?_
    have h := h.2.2
    exact B26  p2 ((z2 * m_s (6 + p1).toNat) / 100) h _ _ _ hP hD hS (lv_sub hl [2] rfl)
  · have h := h.2.2 c1
    refine lv_iconst (v := iI 0) hx hb dX6_overhang_5 rfl ?_
    refine lv_goto (tgt := 26) hx hb dX6_overhang_6 (by decide) ?_
    exact B26  p2 0 h _ _ _ hP hD hS (lv_sub hl [2] rfl)
abbrev rmX6_endsOne : Room := { frames := 1, cells := 0, slots := 0, locals := 22 }
set_option maxHeartbeats 4000000 in
set_option maxRecDepth 100000 in
theorem kX6_endsOne (l : Launch) (X : XD) (a_m a_m_s a_m_past a_m_aside a_m_text a_m_line a_m_page : Nat) (m_pasts : Int) (m_typed : Int) (m_thrown : Int) (m_lines : Int) (m_pages : Int) (m_measure : Int) (m_mostLeft : Int) (m_mostRight : Int) (m_spot : Int) (m_h : Int64) (m_s : Nat → Int) (m_past : Nat → Int) (m_aside : Nat → Int) (m_text : Nat → Int) (m_line : Nat → Int) (m_page : Nat → Int) (p1 : Int) (post : Int → Prop) (h : wpX6_endsOne m_s p1 post) : MCi l yX6_endsOne wsX6_endsOne rmX6_endsOne X [.ref a_m, .int (iI p1)] [(a_m, .inr (6, [.ref a_m_s, .ref a_m_past, .ref a_m_aside, .int (iI m_pasts), .ref a_m_text, .int (iI m_typed), .int (iI m_thrown), .ref a_m_line, .ref a_m_page, .int (iI m_lines), .int (iI m_pages), .int (iI m_measure), .int (iI m_mostLeft), .int (iI m_mostRight), .int (iI m_spot), .long m_h])), (a_m_s, eI X 975 m_s), (a_m_past, eI X 3900 m_past), (a_m_aside, eI X 975 m_aside), (a_m_text, eI X 200 m_text), (a_m_line, eI X 600 m_line), (a_m_page, eI X 180 m_page)] (S := Unit) (fun _ => [(a_m, .inr (6, [.ref a_m_s, .ref a_m_past, .ref a_m_aside, .int (iI m_pasts), .ref a_m_text, .int (iI m_typed), .int (iI m_thrown), .ref a_m_line, .ref a_m_page, .int (iI m_lines), .int (iI m_pages), .int (iI m_measure), .int (iI m_mostLeft), .int (iI m_mostRight), .int (iI m_spot), .long m_h])), (a_m_s, eI X 975 m_s), (a_m_past, eI X 3900 m_past), (a_m_aside, eI X 975 m_aside), (a_m_text, eI X 200 m_text), (a_m_line, eI X 600 m_line), (a_m_page, eI X 180 m_page)]) (fun z _ => post z) 0 0 := by
  refine MCz.of (cc := cX6_endsOne) (maxL := 2) (by decide +kernel) rfl rfl ?_
  intro p e s m args below meth c A ls Q hE0 hP hD hS hl hend
  obtain ⟨hx, hb, hr, hml, hlocks, hown, hts, hK, hE, hA, hnm⟩ := hE0
  have hl : lv_has ls 2 [(0, .ref a_m), (1, .int (iI p1))] := hl
  have hi_X6 : ∀ w ∈ wsX60, w ∈ wsX6_endsOne := by decide +kernel
  have hf_7 := hts (.fieldLink RX6 7 "LentMarginsModel" "s" "[I") (by decide +kernel)
  refine lv_aload_n hx hb dX6_endsOne_0 rfl (lv_at hl 0 rfl) ?_
  refine lv_iload_n hx hb dX6_endsOne_1 rfl (lv_at hl 1 rfl) ?_
  refine lv_bipush (v := iI 15) hx hb dX6_endsOne_2 (by decide +kernel) ?_
  refine e_i (isC := [0, 1, 2, 3, 4, 5, 6]) (isR := []) (wr := []) (va_runV (As := [.int (iI p1), .int (iI 15)]) (rest := []) ⟨hx, hb, hml, hown, hts⟩ (kX6_of l X a_m a_m_s a_m_past a_m_aside a_m_text a_m_line a_m_page m_pasts m_typed m_thrown m_lines m_pages m_measure m_mostLeft m_mostRight m_spot m_h m_s m_past m_aside m_text m_line m_page p1 15 _ h _) (cwV 2 hts gX6_endsOne_X6_of rfl rfl rfl (by decide +kernel) ⟨(Nat.le_of_ble_eq_true rfl), (Nat.le_of_ble_eq_true rfl)⟩) ⟨pre_blind, va_recv hK hP (ci := 6) (q0 := 0) rfl rfl, pre_cut hE hK hA hP hD hS (isC := [0, 1, 2, 3, 4, 5, 6]) rfl (by decide +kernel)⟩ rfl rfl hl.1 rfl (lv_room (Nat.le_of_ble_eq_true rfl)) dX6_endsOne_4 ⟨(Nat.le_of_ble_eq_true rfl), (Nat.le_of_ble_eq_true rfl)⟩) hA hP hD hS rfl rfl (by decide +kernel) (by decide +kernel) (fun z1 u1 H locs h hP hD hS => ?_)
  have hP : va_P X.1 vwCl [(a_m, .inr (6, [.ref a_m_s, .ref a_m_past, .ref a_m_aside, .int (iI m_pasts), .ref a_m_text, .int (iI m_typed), .int (iI m_thrown), .ref a_m_line, .ref a_m_page, .int (iI m_lines), .int (iI m_pages), .int (iI m_measure), .int (iI m_mostLeft), .int (iI m_mostRight), .int (iI m_spot), .long m_h])), (a_m_s, eI X 975 m_s), (a_m_past, eI X 3900 m_past), (a_m_aside, eI X 975 m_aside), (a_m_text, eI X 200 m_text), (a_m_line, eI X 600 m_line), (a_m_page, eI X 180 m_page)] H := hP
  have hD : va_D A [(a_m, .inr (6, [.ref a_m_s, .ref a_m_past, .ref a_m_aside, .int (iI m_pasts), .ref a_m_text, .int (iI m_typed), .int (iI m_thrown), .ref a_m_line, .ref a_m_page, .int (iI m_lines), .int (iI m_pages), .int (iI m_measure), .int (iI m_mostLeft), .int (iI m_mostRight), .int (iI m_spot), .long m_h])), (a_m_s, eI X 975 m_s), (a_m_past, eI X 3900 m_past), (a_m_aside, eI X 975 m_aside), (a_m_text, eI X 200 m_text), (a_m_line, eI X 600 m_line), (a_m_page, eI X 180 m_page)] := hD
  refine lv_iconst (v := iI 1) hx hb dX6_endsOne_7 rfl ?_
  refine i_cmp_eq (tgt := 24) hx hb h.1 (inR_lit rfl) dX6_endsOne_8 (by decide) (fun c2 => ?_) (fun c2 => ?_)
  · have h := h.2.1 c2
    refine lv_iconst (v := iI 1) hx hb dX6_endsOne_24 rfl ?_
    refine lv_goto (tgt := 29) hx hb dX6_endsOne_25 (by decide) ?_
    exact hend _ _ _ _ _ _ 1 () hP hD hS (Or.inr rfl) h (Nat.le_of_ble_eq_true rfl) (Nat.le_of_ble_eq_true rfl) dX6_endsOne_29
  · have h := h.2.2 c2
    refine lv_iload_n hx hb dX6_endsOne_11 rfl (lv_at hl 1 rfl) ?_
    refine lv_aload_n hx hb dX6_endsOne_12 rfl (lv_at hl 0 rfl) ?_
    refine va_get (D := X.1) (ci := 6) (C := RX6) (T := TX6) (N := 16) hx hb hts hi_X6 hown hK hP 0 rfl rfl 0 (by decide) hf_7 (fun _ h9 => h9) rfl dX6_endsOne_13 ?_
    refine lv_bipush (v := iI 14) hx hb dX6_endsOne_16 (by decide +kernel) ?_
    refine i_ald hx hb hK hP 1 0 rfl rfl (by decide) (by decide) rfl (Nat.le_of_ble_eq_true rfl) dX6_endsOne_18 ?_
    refine lv_iconst (v := iI 1) hx hb dX6_endsOne_19 rfl ?_
    refine i_sub hx hb dX6_endsOne_20 ?_
    refine i_cmp_ne (tgt := 28) hx hb h.1 h.2.1 dX6_endsOne_21 (by decide) (fun c3 => ?_) (fun c3 => ?_)
    · have h := h.2.2.1 c3
      refine lv_iconst (v := iI 0) hx hb dX6_endsOne_28 rfl ?_
      exact hend _ _ _ _ _ _ 0 () hP hD hS (Or.inl rfl) h (Nat.le_of_ble_eq_true rfl) (Nat.le_of_ble_eq_true rfl) dX6_endsOne_29
    · have h := h.2.2.2 c3
      refine lv_iconst (v := iI 1) hx hb dX6_endsOne_24 rfl ?_
      refine lv_goto (tgt := 29) hx hb dX6_endsOne_25 (by decide) ?_
      exact hend _ _ _ _ _ _ 1 () hP hD hS (Or.inr rfl) h (Nat.le_of_ble_eq_true rfl) (Nat.le_of_ble_eq_true rfl) dX6_endsOne_29
abbrev rmX6_row : Room := { frames := 2, cells := 0, slots := 0, locals := 45 }
set_option maxHeartbeats 4000000 in
set_option maxRecDepth 100000 in
theorem kX6_row (l : Launch) (X : XD) (a_m a_m_s a_m_past a_m_aside a_m_text a_m_line a_m_page : Nat) (m_pasts : Int) (m_typed : Int) (m_thrown : Int) (m_lines : Int) (m_pages : Int) (m_measure : Int) (m_mostLeft : Int) (m_mostRight : Int) (m_spot : Int) (m_h : Int64) (m_s : Nat → Int) (m_past : Nat → Int) (m_aside : Nat → Int) (m_text : Nat → Int) (m_line : Nat → Int) (m_page : Nat → Int) (p1 : Int) (p2 : Int) (p3 : Int) (post : Int → (Nat → Int) → Prop) (h : wpX6_row m_lines m_pages m_measure m_mostLeft m_mostRight m_s m_line p1 p2 p3 post) : MCi l yX6_row wsX6_row rmX6_row X [.ref a_m, .int (iI p1), .int (iI p2), .int (iI p3)] [(a_m, .inr (6, [.ref a_m_s, .ref a_m_past, .ref a_m_aside, .int (iI m_pasts), .ref a_m_text, .int (iI m_typed), .int (iI m_thrown), .ref a_m_line, .ref a_m_page, .int (iI m_lines), .int (iI m_pages), .int (iI m_measure), .int (iI m_mostLeft), .int (iI m_mostRight), .int (iI m_spot), .long m_h])), (a_m_s, eI X 975 m_s), (a_m_past, eI X 3900 m_past), (a_m_aside, eI X 975 m_aside), (a_m_text, eI X 200 m_text), (a_m_line, eI X 600 m_line), (a_m_page, eI X 180 m_page)] (S := Nat → Int) (fun u => [(a_m, .inr (6, [.ref a_m_s, .ref a_m_past, .ref a_m_aside, .int (iI m_pasts), .ref a_m_text, .int (iI m_typed), .int (iI m_thrown), .ref a_m_line, .ref a_m_page, .int (iI m_lines), .int (iI m_pages), .int (iI m_measure), .int (iI m_mostLeft), .int (iI m_mostRight), .int (iI m_spot), .long m_h])), (a_m_s, eI X 975 m_s), (a_m_past, eI X 3900 m_past), (a_m_aside, eI X 975 m_aside), (a_m_text, eI X 200 m_text), (a_m_line, eI X 600 u), (a_m_page, eI X 180 m_page)]) (fun z u => post z u) 0 0 := by
  refine MCi.of (cc := cX6_row) (maxL := 15) (by decide +kernel) rfl rfl ?_
  intro p e s m args below meth c A ls Q hE0 hP hD hS hl hend
  obtain ⟨hx, hb, hr, hml, hlocks, hown, hts, hK, hE, hA, hnm⟩ := hE0
  have hl : lv_has ls 15 [(0, .ref a_m), (1, .int (iI p1)), (2, .int (iI p2)), (3, .int (iI p3))] := hl
  have hi_X6 : ∀ w ∈ wsX60, w ∈ wsX6_row := by decide +kernel
  have hf_7 := hts (.fieldLink RX6 7 "LentMarginsModel" "s" "[I") (by decide +kernel)
  have hf_22 := hts (.fieldLink RX6 22 "LentMarginsModel" "line" "[I") (by decide +kernel)
  have hf_53 := hts (.fieldLink RX6 53 "LentMarginsModel" "lines" "I") (by decide +kernel)
  have hf_56 := hts (.fieldLink RX6 56 "LentMarginsModel" "measure" "I") (by decide +kernel)
  have hf_59 := hts (.fieldLink RX6 59 "LentMarginsModel" "mostLeft" "I") (by decide +kernel)
  have hf_68 := hts (.fieldLink RX6 68 "LentMarginsModel" "mostRight" "I") (by decide +kernel)
  have hf_71 := hts (.fieldLink RX6 71 "LentMarginsModel" "pages" "I") (by decide +kernel)
  have B323 : ∀ (m_line : Nat → Int) (v1 : Int) (v2 : Int) (v4 : Int) (v5 : Int) (v6 : Int) (v9 : Int), wpX6_row_323 m_lines m_pages m_measure m_mostLeft m_mostRight m_s post m_line v1 v2 v4 v5 v6 v9 → ∀ (H : Heap) (locs : List Loc) (ls : Array Slot), va_P X.1 vwCl [(a_m, .inr (6, [.ref a_m_s, .ref a_m_past, .ref a_m_aside, .int (iI m_pasts), .ref a_m_text, .int (iI m_typed), .int (iI m_thrown), .ref a_m_line, .ref a_m_page, .int (iI m_lines), .int (iI m_pages), .int (iI m_measure), .int (iI m_mostLeft), .int (iI m_mostRight), .int (iI m_spot), .long m_h])), (a_m_s, eI X 975 m_s), (a_m_past, eI X 3900 m_past), (a_m_aside, eI X 975 m_aside), (a_m_text, eI X 200 m_text), (a_m_line, eI X 600 m_line), (a_m_page, eI X 180 m_page)] H → va_D A [(a_m, .inr (6, [.ref a_m_s, .ref a_m_past, .ref a_m_aside, .int (iI m_pasts), .ref a_m_text, .int (iI m_typed), .int (iI m_thrown), .ref a_m_line, .ref a_m_page, .int (iI m_lines), .int (iI m_pages), .int (iI m_measure), .int (iI m_mostLeft), .int (iI m_mostRight), .int (iI m_spot), .long m_h])), (a_m_s, eI X 975 m_s), (a_m_past, eI X 3900 m_past), (a_m_aside, eI X 975 m_aside), (a_m_text, eI X 200 m_text), (a_m_line, eI X 600 m_line), (a_m_page, eI X 180 m_page)] → va_S A s.heap H locs → lv_has ls 15 [(0, .ref a_m), (1, .int (iI v1)), (2, .int (iI v2)), (4, .int (iI v4)), (5, .int (iI v5)), (6, .int (iI v6)), (9, .int (iI v9))] → W p l e rmX6_row s m args below meth c H locs 0 0 Q (F0 m 323 ls []) := by
    intro  m_line v1 v2 v4 v5 v6 v9 h H locs ls hP hD hS hl
    refine lv_aload_n hx hb dX6_row_323 rfl (lv_at hl 0 rfl) ?_
    refine va_get (D := X.1) (ci := 6) (C := RX6) (T := TX6) (N := 16) hx hb hts hi_X6 hown hK hP 0 rfl rfl 7 (by decide) hf_22 (fun _ h9 => h9) rfl dX6_row_324 ?_
    refine lv_iload hx hb dX6_row_327 (lv_at hl 3 rfl) ?_
    refine lv_aload_n hx hb dX6_row_329 rfl (lv_at hl 0 rfl) ?_
    refine va_get (D := X.1) (ci := 6) (C := RX6) (T := TX6) (N := 16) hx hb hts hi_X6 hown hK hP 0 rfl rfl 10 (by decide) hf_71 (fun _ h9 => h9) rfl dX6_row_330 ?_
    refine i_ast hx hb hK hP hD hS 5 0 rfl rfl h.1 h.2.1 rfl (Nat.le_of_ble_eq_true rfl) dX6_row_333 (fun H locs hP hD hS => ?_)
    have hP : va_P X.1 vwCl [(a_m, .inr (6, [.ref a_m_s, .ref a_m_past, .ref a_m_aside, .int (iI m_pasts), .ref a_m_text, .int (iI m_typed), .int (iI m_thrown), .ref a_m_line, .ref a_m_page, .int (iI m_lines), .int (iI m_pages), .int (iI m_measure), .int (iI m_mostLeft), .int (iI m_mostRight), .int (iI m_spot), .long m_h])), (a_m_s, eI X 975 m_s), (a_m_past, eI X 3900 m_past), (a_m_aside, eI X 975 m_aside), (a_m_text, eI X 200 m_text), (a_m_line, eI X 600 (updI m_line (v4).toNat m_pages)), (a_m_page, eI X 180 m_page)] H := hP
    have hD : va_D A [(a_m, .inr (6, [.ref a_m_s, .ref a_m_past, .ref a_m_aside, .int (iI m_pasts), .ref a_m_text, .int (iI m_typed), .int (iI m_thrown), .ref a_m_line, .ref a_m_page, .int (iI m_lines), .int (iI m_pages), .int (iI m_measure), .int (iI m_mostLeft), .int (iI m_mostRight), .int (iI m_spot), .long m_h])), (a_m_s, eI X 975 m_s), (a_m_past, eI X 3900 m_past), (a_m_aside, eI X 975 m_aside), (a_m_text, eI X 200 m_text), (a_m_line, eI X 600 (updI m_line (v4).toNat m_pages)), (a_m_page, eI X 180 m_page)] := hD
    have h := h.2.2
    refine lv_aload_n hx hb dX6_row_334 rfl (lv_at hl 0 rfl) ?_
    refine va_get (D := X.1) (ci := 6) (C := RX6) (T := TX6) (N := 16) hx hb hts hi_X6 hown hK hP 0 rfl rfl 7 (by decide) hf_22 (fun _ h9 => h9) rfl dX6_row_335 ?_
    refine lv_iload hx hb dX6_row_338 (lv_at hl 3 rfl) ?_
    refine lv_iconst (v := iI 1) hx hb dX6_row_340 rfl ?_
    refine i_add hx hb dX6_row_341 ?_
    refine lv_iload_n hx hb dX6_row_342 rfl (lv_at hl 1 rfl) ?_
    refine i_ast hx hb hK hP hD hS 5 0 rfl rfl h.1 h.2.1 rfl (Nat.le_of_ble_eq_true rfl) dX6_row_343 (fun H locs hP hD hS => ?_)
    have hP : va_P X.1 vwCl [(a_m, .inr (6, [.ref a_m_s, .ref a_m_past, .ref a_m_aside, .int (iI m_pasts), .ref a_m_text, .int (iI m_typed), .int (iI m_thrown), .ref a_m_line, .ref a_m_page, .int (iI m_lines), .int (iI m_pages), .int (iI m_measure), .int (iI m_mostLeft), .int (iI m_mostRight), .int (iI m_spot), .long m_h])), (a_m_s, eI X 975 m_s), (a_m_past, eI X 3900 m_past), (a_m_aside, eI X 975 m_aside), (a_m_text, eI X 200 m_text), (a_m_line, eI X 600 (updI (updI m_line (v4).toNat m_pages) (v4 + 1).toNat v1)), (a_m_page, eI X 180 m_page)] H := hP
    have hD : va_D A [(a_m, .inr (6, [.ref a_m_s, .ref a_m_past, .ref a_m_aside, .int (iI m_pasts), .ref a_m_text, .int (iI m_typed), .int (iI m_thrown), .ref a_m_line, .ref a_m_page, .int (iI m_lines), .int (iI m_pages), .int (iI m_measure), .int (iI m_mostLeft), .int (iI m_mostRight), .int (iI m_spot), .long m_h])), (a_m_s, eI X 975 m_s), (a_m_past, eI X 3900 m_past), (a_m_aside, eI X 975 m_aside), (a_m_text, eI X 200 m_text), (a_m_line, eI X 600 (updI (updI m_line (v4).toNat m_pages) (v4 + 1).toNat v1)), (a_m_page, eI X 180 m_page)] := hD
    have h := h.2.2
    refine lv_aload_n hx hb dX6_row_344 rfl (lv_at hl 0 rfl) ?_
    refine va_get (D := X.1) (ci := 6) (C := RX6) (T := TX6) (N := 16) hx hb hts hi_X6 hown hK hP 0 rfl rfl 7 (by decide) hf_22 (fun _ h9 => h9) rfl dX6_row_345 ?_
    refine lv_iload hx hb dX6_row_348 (lv_at hl 3 rfl) ?_
    refine lv_iconst (v := iI 2) hx hb dX6_row_350 rfl ?_
    refine i_add hx hb dX6_row_351 ?_
    refine lv_iload hx hb dX6_row_352 (lv_at hl 6 rfl) ?_
    refine i_ast hx hb hK hP hD hS 5 0 rfl rfl h.1 h.2.1 rfl (Nat.le_of_ble_eq_true rfl) dX6_row_354 (fun H locs hP hD hS => ?_)
    have hP : va_P X.1 vwCl [(a_m, .inr (6, [.ref a_m_s, .ref a_m_past, .ref a_m_aside, .int (iI m_pasts), .ref a_m_text, .int (iI m_typed), .int (iI m_thrown), .ref a_m_line, .ref a_m_page, .int (iI m_lines), .int (iI m_pages), .int (iI m_measure), .int (iI m_mostLeft), .int (iI m_mostRight), .int (iI m_spot), .long m_h])), (a_m_s, eI X 975 m_s), (a_m_past, eI X 3900 m_past), (a_m_aside, eI X 975 m_aside), (a_m_text, eI X 200 m_text), (a_m_line, eI X 600 (updI (updI (updI m_line (v4).toNat m_pages) (v4 + 1).toNat v1) (v4 + 2).toNat v9)), (a_m_page, eI X 180 m_page)] H := hP
    have hD : va_D A [(a_m, .inr (6, [.ref a_m_s, .ref a_m_past, .ref a_m_aside, .int (iI m_pasts), .ref a_m_text, .int (iI m_typed), .int (iI m_thrown), .ref a_m_line, .ref a_m_page, .int (iI m_lines), .int (iI m_pages), .int (iI m_measure), .int (iI m_mostLeft), .int (iI m_mostRight), .int (iI m_spot), .long m_h])), (a_m_s, eI X 975 m_s), (a_m_past, eI X 3900 m_past), (a_m_aside, eI X 975 m_aside), (a_m_text, eI X 200 m_text), (a_m_line, eI X 600 (updI (updI (updI m_line (v4).toNat m_pages) (v4 + 1).toNat v1) (v4 + 2).toNat v9)), (a_m_page, eI X 180 m_page)] := hD
    have h := h.2.2
    refine lv_aload_n hx hb dX6_row_355 rfl (lv_at hl 0 rfl) ?_
    refine va_get (D := X.1) (ci := 6) (C := RX6) (T := TX6) (N := 16) hx hb hts hi_X6 hown hK hP 0 rfl rfl 7 (by decide) hf_22 (fun _ h9 => h9) rfl dX6_row_356 ?_
    refine lv_iload hx hb dX6_row_359 (lv_at hl 3 rfl) ?_
    refine lv_iconst (v := iI 4) hx hb dX6_row_361 rfl ?_
    refine i_add hx hb dX6_row_362 ?_
    refine lv_iload hx hb dX6_row_363 (lv_at hl 5 rfl) ?_
    refine i_ast hx hb hK hP hD hS 5 0 rfl rfl h.1 h.2.1 rfl (Nat.le_of_ble_eq_true rfl) dX6_row_365 (fun H locs hP hD hS => ?_)
    have hP : va_P X.1 vwCl [(a_m, .inr (6, [.ref a_m_s, .ref a_m_past, .ref a_m_aside, .int (iI m_pasts), .ref a_m_text, .int (iI m_typed), .int (iI m_thrown), .ref a_m_line, .ref a_m_page, .int (iI m_lines), .int (iI m_pages), .int (iI m_measure), .int (iI m_mostLeft), .int (iI m_mostRight), .int (iI m_spot), .long m_h])), (a_m_s, eI X 975 m_s), (a_m_past, eI X 3900 m_past), (a_m_aside, eI X 975 m_aside), (a_m_text, eI X 200 m_text), (a_m_line, eI X 600 (updI (updI (updI (updI m_line (v4).toNat m_pages) (v4 + 1).toNat v1) (v4 + 2).toNat v9) (v4 + 4).toNat v6)), (a_m_page, eI X 180 m_page)] H := hP
    have hD : va_D A [(a_m, .inr (6, [.ref a_m_s, .ref a_m_past, .ref a_m_aside, .int (iI m_pasts), .ref a_m_text, .int (iI m_typed), .int (iI m_thrown), .ref a_m_line, .ref a_m_page, .int (iI m_lines), .int (iI m_pages), .int (iI m_measure), .int (iI m_mostLeft), .int (iI m_mostRight), .int (iI m_spot), .long m_h])), (a_m_s, eI X 975 m_s), (a_m_past, eI X 3900 m_past), (a_m_aside, eI X 975 m_aside), (a_m_text, eI X 200 m_text), (a_m_line, eI X 600 (updI (updI (updI (updI m_line (v4).toNat m_pages) (v4 + 1).toNat v1) (v4 + 2).toNat v9) (v4 + 4).toNat v6)), (a_m_page, eI X 180 m_page)] := hD
    have h := h.2.2
    refine lv_aload_n hx hb dX6_row_366 rfl (lv_at hl 0 rfl) ?_
    refine va_get (D := X.1) (ci := 6) (C := RX6) (T := TX6) (N := 16) hx hb hts hi_X6 hown hK hP 0 rfl rfl 7 (by decide) hf_22 (fun _ h9 => h9) rfl dX6_row_367 ?_
    refine lv_iload hx hb dX6_row_370 (lv_at hl 3 rfl) ?_
    refine lv_bipush (v := iI 7) hx hb dX6_row_372 (by decide +kernel) ?_
    refine i_add hx hb dX6_row_374 ?_
    refine lv_iload hx hb dX6_row_375 (lv_at hl 4 rfl) ?_
    refine i_ast hx hb hK hP hD hS 5 0 rfl rfl h.1 h.2.1 rfl (Nat.le_of_ble_eq_true rfl) dX6_row_377 (fun H locs hP hD hS => ?_)
    have hP : va_P X.1 vwCl [(a_m, .inr (6, [.ref a_m_s, .ref a_m_past, .ref a_m_aside, .int (iI m_pasts), .ref a_m_text, .int (iI m_typed), .int (iI m_thrown), .ref a_m_line, .ref a_m_page, .int (iI m_lines), .int (iI m_pages), .int (iI m_measure), .int (iI m_mostLeft), .int (iI m_mostRight), .int (iI m_spot), .long m_h])), (a_m_s, eI X 975 m_s), (a_m_past, eI X 3900 m_past), (a_m_aside, eI X 975 m_aside), (a_m_text, eI X 200 m_text), (a_m_line, eI X 600 (updI (updI (updI (updI (updI m_line (v4).toNat m_pages) (v4 + 1).toNat v1) (v4 + 2).toNat v9) (v4 + 4).toNat v6) (v4 + 7).toNat v5)), (a_m_page, eI X 180 m_page)] H := hP
    have hD : va_D A [(a_m, .inr (6, [.ref a_m_s, .ref a_m_past, .ref a_m_aside, .int (iI m_pasts), .ref a_m_text, .int (iI m_typed), .int (iI m_thrown), .ref a_m_line, .ref a_m_page, .int (iI m_lines), .int (iI m_pages), .int (iI m_measure), .int (iI m_mostLeft), .int (iI m_mostRight), .int (iI m_spot), .long m_h])), (a_m_s, eI X 975 m_s), (a_m_past, eI X 3900 m_past), (a_m_aside, eI X 975 m_aside), (a_m_text, eI X 200 m_text), (a_m_line, eI X 600 (updI (updI (updI (updI (updI m_line (v4).toNat m_pages) (v4 + 1).toNat v1) (v4 + 2).toNat v9) (v4 + 4).toNat v6) (v4 + 7).toNat v5)), (a_m_page, eI X 180 m_page)] := hD
    have h := h.2.2
    refine lv_aload_n hx hb dX6_row_378 rfl (lv_at hl 0 rfl) ?_
    refine va_get (D := X.1) (ci := 6) (C := RX6) (T := TX6) (N := 16) hx hb hts hi_X6 hown hK hP 0 rfl rfl 7 (by decide) hf_22 (fun _ h9 => h9) rfl dX6_row_379 ?_
    refine lv_iload hx hb dX6_row_382 (lv_at hl 3 rfl) ?_
    refine lv_bipush (v := iI 8) hx hb dX6_row_384 (by decide +kernel) ?_
    refine i_add hx hb dX6_row_386 ?_
    refine lv_iload_n hx hb dX6_row_387 rfl (lv_at hl 2 rfl) ?_
    refine lv_iload hx hb dX6_row_388 (lv_at hl 4 rfl) ?_
    refine i_sub hx hb dX6_row_390 ?_
    refine lv_aload_n hx hb dX6_row_391 rfl (lv_at hl 0 rfl) ?_
    refine va_get (D := X.1) (ci := 6) (C := RX6) (T := TX6) (N := 16) hx hb hts hi_X6 hown hK hP 0 rfl rfl 7 (by decide) hf_22 (fun _ h9 => h9) rfl dX6_row_392 ?_
    refine lv_iload hx hb dX6_row_395 (lv_at hl 3 rfl) ?_
    refine lv_iconst (v := iI 5) hx hb dX6_row_397 rfl ?_
    refine i_add hx hb dX6_row_398 ?_
    refine i_ald hx hb hK hP 5 0 rfl rfl h.1 h.2.1 rfl (Nat.le_of_ble_eq_true rfl) dX6_row_399 ?_
    have h := h.2.2
    refine i_add hx hb dX6_row_400 ?_
    refine lv_aload_n hx hb dX6_row_401 rfl (lv_at hl 0 rfl) ?_
    refine va_get (D := X.1) (ci := 6) (C := RX6) (T := TX6) (N := 16) hx hb hts hi_X6 hown hK hP 0 rfl rfl 7 (by decide) hf_22 (fun _ h9 => h9) rfl dX6_row_402 ?_
    refine lv_iload hx hb dX6_row_405 (lv_at hl 3 rfl) ?_
    refine lv_bipush (v := iI 6) hx hb dX6_row_407 (by decide +kernel) ?_
    refine i_add hx hb dX6_row_409 ?_
    refine i_ald hx hb hK hP 5 0 rfl rfl h.1 h.2.1 rfl (Nat.le_of_ble_eq_true rfl) dX6_row_410 ?_
    have h := h.2.2
    refine i_add hx hb dX6_row_411 ?_
    refine i_ast hx hb hK hP hD hS 5 0 rfl rfl h.1 h.2.1 rfl (Nat.le_of_ble_eq_true rfl) dX6_row_412 (fun H locs hP hD hS => ?_)
    have hP : va_P X.1 vwCl [(a_m, .inr (6, [.ref a_m_s, .ref a_m_past, .ref a_m_aside, .int (iI m_pasts), .ref a_m_text, .int (iI m_typed), .int (iI m_thrown), .ref a_m_line, .ref a_m_page, .int (iI m_lines), .int (iI m_pages), .int (iI m_measure), .int (iI m_mostLeft), .int (iI m_mostRight), .int (iI m_spot), .long m_h])), (a_m_s, eI X 975 m_s), (a_m_past, eI X 3900 m_past), (a_m_aside, eI X 975 m_aside), (a_m_text, eI X 200 m_text), (a_m_line, eI X 600 (updI (updI (updI (updI (updI (updI m_line (v4).toNat m_pages) (v4 + 1).toNat v1) (v4 + 2).toNat v9) (v4 + 4).toNat v6) (v4 + 7).toNat v5) (v4 + 8).toNat (((v2 - v5) + (updI (updI (updI (updI (updI m_line (v4).toNat m_pages) (v4 + 1).toNat v1) (v4 + 2).toNat v9) (v4 + 4).toNat v6) (v4 + 7).toNat v5) (v4 + 5).toNat) + (updI (updI (updI (updI (updI m_line (v4).toNat m_pages) (v4 + 1).toNat v1) (v4 + 2).toNat v9) (v4 + 4).toNat v6) (v4 + 7).toNat v5) (v4 + 6).toNat))), (a_m_page, eI X 180 m_page)] H := hP
    have hD : va_D A [(a_m, .inr (6, [.ref a_m_s, .ref a_m_past, .ref a_m_aside, .int (iI m_pasts), .ref a_m_text, .int (iI m_typed), .int (iI m_thrown), .ref a_m_line, .ref a_m_page, .int (iI m_lines), .int (iI m_pages), .int (iI m_measure), .int (iI m_mostLeft), .int (iI m_mostRight), .int (iI m_spot), .long m_h])), (a_m_s, eI X 975 m_s), (a_m_past, eI X 3900 m_past), (a_m_aside, eI X 975 m_aside), (a_m_text, eI X 200 m_text), (a_m_line, eI X 600 (updI (updI (updI (updI (updI (updI m_line (v4).toNat m_pages) (v4 + 1).toNat v1) (v4 + 2).toNat v9) (v4 + 4).toNat v6) (v4 + 7).toNat v5) (v4 + 8).toNat (((v2 - v5) + (updI (updI (updI (updI (updI m_line (v4).toNat m_pages) (v4 + 1).toNat v1) (v4 + 2).toNat v9) (v4 + 4).toNat v6) (v4 + 7).toNat v5) (v4 + 5).toNat) + (updI (updI (updI (updI (updI m_line (v4).toNat m_pages) (v4 + 1).toNat v1) (v4 + 2).toNat v9) (v4 + 4).toNat v6) (v4 + 7).toNat v5) (v4 + 6).toNat))), (a_m_page, eI X 180 m_page)] := hD
    have h := h.2.2
    refine lv_iload hx hb dX6_row_413 (lv_at hl 6 rfl) ?_
    exact hend _ _ _ _ _ _ v9 (updI (updI (updI (updI (updI (updI m_line (v4).toNat m_pages) (v4 + 1).toNat v1) (v4 + 2).toNat v9) (v4 + 4).toNat v6) (v4 + 7).toNat v5) (v4 + 8).toNat (((v2 - v5) + (updI (updI (updI (updI (updI m_line (v4).toNat m_pages) (v4 + 1).toNat v1) (v4 + 2).toNat v9) (v4 + 4).toNat v6) (v4 + 7).toNat v5) (v4 + 5).toNat) + (updI (updI (updI (updI (updI m_line (v4).toNat m_pages) (v4 + 1).toNat v1) (v4 + 2).toNat v9) (v4 + 4).toNat v6) (v4 + 7).toNat v5) (v4 + 6).toNat)) hP hD hS h (Nat.le_of_ble_eq_true rfl) (Nat.le_of_ble_eq_true rfl) dX6_row_415
  have B315 : ∀ (k69 : (Nat → Int) → Int → Int → Int → Int → Int → Int → Int → Int → Int → Int → Int → Prop) (hk69 : ∀ (m_line : Nat → Int) (v1 : Int) (v2 : Int) (v3 : Int) (v4 : Int) (v5 : Int) (v6 : Int) (v7 : Int) (v8 : Int) (v9 : Int) (v10 : Int) (v11 : Int), k69 m_line v1 v2 v3 v4 v5 v6 v7 v8 v9 v10 v11 → ∀ (H : Heap) (locs : List Loc) (ls : Array Slot), va_P X.1 vwCl [(a_m, .inr (6, [.ref a_m_s, .ref a_m_past, .ref a_m_aside, .int (iI m_pasts), .ref a_m_text, .int (iI m_typed), .int (iI m_thrown), .ref a_m_line, .ref a_m_page, .int (iI m_lines), .int (iI m_pages), .int (iI m_measure), .int (iI m_mostLeft), .int (iI m_mostRight), .int (iI m_spot), .long m_h])), (a_m_s, eI X 975 m_s), (a_m_past, eI X 3900 m_past), (a_m_aside, eI X 975 m_aside), (a_m_text, eI X 200 m_text), (a_m_line, eI X 600 m_line), (a_m_page, eI X 180 m_page)] H → va_D A [(a_m, .inr (6, [.ref a_m_s, .ref a_m_past, .ref a_m_aside, .int (iI m_pasts), .ref a_m_text, .int (iI m_typed), .int (iI m_thrown), .ref a_m_line, .ref a_m_page, .int (iI m_lines), .int (iI m_pages), .int (iI m_measure), .int (iI m_mostLeft), .int (iI m_mostRight), .int (iI m_spot), .long m_h])), (a_m_s, eI X 975 m_s), (a_m_past, eI X 3900 m_past), (a_m_aside, eI X 975 m_aside), (a_m_text, eI X 200 m_text), (a_m_line, eI X 600 m_line), (a_m_page, eI X 180 m_page)] → va_S A s.heap H locs → lv_has ls 15 [(0, .ref a_m), (1, .int (iI v1)), (2, .int (iI v2)), (3, .int (iI v3)), (4, .int (iI v4)), (5, .int (iI v5)), (6, .int (iI v6)), (7, .int (iI v7)), (8, .int (iI v8)), (9, .int (iI v9)), (10, .int (iI v10)), (11, .int (iI v11))] → W p l e rmX6_row s m args below meth c H locs 0 0 Q (F0 m 69 ls [])) (m_line : Nat → Int) (v1 : Int) (v2 : Int) (v3 : Int) (v4 : Int) (v5 : Int) (v6 : Int) (v7 : Int) (v8 : Int) (v9 : Int) (v11 : Int) (w0 : Int), wpX6_row_315 m_lines m_pages m_measure m_mostLeft m_mostRight m_s post k69 m_line v1 v2 v3 v4 v5 v6 v7 v8 v9 v11 w0 → ∀ (H : Heap) (locs : List Loc) (ls : Array Slot), va_P X.1 vwCl [(a_m, .inr (6, [.ref a_m_s, .ref a_m_past, .ref a_m_aside, .int (iI m_pasts), .ref a_m_text, .int (iI m_typed), .int (iI m_thrown), .ref a_m_line, .ref a_m_page, .int (iI m_lines), .int (iI m_pages), .int (iI m_measure), .int (iI m_mostLeft), .int (iI m_mostRight), .int (iI m_spot), .long m_h])), (a_m_s, eI X 975 m_s), (a_m_past, eI X 3900 m_past), (a_m_aside, eI X 975 m_aside), (a_m_text, eI X 200 m_text), (a_m_line, eI X 600 m_line), (a_m_page, eI X 180 m_page)] H → va_D A [(a_m, .inr (6, [.ref a_m_s, .ref a_m_past, .ref a_m_aside, .int (iI m_pasts), .ref a_m_text, .int (iI m_typed), .int (iI m_thrown), .ref a_m_line, .ref a_m_page, .int (iI m_lines), .int (iI m_pages), .int (iI m_measure), .int (iI m_mostLeft), .int (iI m_mostRight), .int (iI m_spot), .long m_h])), (a_m_s, eI X 975 m_s), (a_m_past, eI X 3900 m_past), (a_m_aside, eI X 975 m_aside), (a_m_text, eI X 200 m_text), (a_m_line, eI X 600 m_line), (a_m_page, eI X 180 m_page)] → va_S A s.heap H locs → lv_has ls 15 [(0, .ref a_m), (1, .int (iI v1)), (2, .int (iI v2)), (3, .int (iI v3)), (4, .int (iI v4)), (5, .int (iI v5)), (6, .int (iI v6)), (7, .int (iI v7)), (8, .int (iI v8)), (9, .int (iI v9)), (11, .int (iI v11))] → W p l e rmX6_row s m args below meth c H locs 0 0 Q (F0 m 315 ls [.int (iI w0)]) := by
    intro k69 hk69 m_line v1 v2 v3 v4 v5 v6 v7 v8 v9 v11 w0 h H locs ls hP hD hS hl
    refine lv_istore (lv' := [(10, .int (iI w0)), (0, .ref a_m), (1, .int (iI v1)), (2, .int (iI v2)), (3, .int (iI v3)), (4, .int (iI v4)), (5, .int (iI v5)), (6, .int (iI v6)), (7, .int (iI v7)), (8, .int (iI v8)), (9, .int (iI v9)), (11, .int (iI v11))]) hx hb dX6_row_315 hl (by decide) rfl (fun ls hl => ?_)
    refine lv_iinc (v := iI (v11 + 1)) (lv' := [(11, .int (iI (v11 + 1))), (10, .int (iI w0)), (0, .ref a_m), (1, .int (iI v1)), (2, .int (iI v2)), (3, .int (iI v3)), (4, .int (iI v4)), (5, .int (iI v5)), (6, .int (iI v6)), (7, .int (iI v7)), (8, .int (iI v8)), (9, .int (iI v9))]) hx hb dX6_row_317 hl (k := 11) rfl (iI_add _ _) (by decide) rfl (fun ls hl => ?_)
    refine lv_goto (tgt := 69) hx hb dX6_row_320 (by decide) ?_
    exact hk69 m_line v1 v2 v3 v4 v5 v6 v7 v8 v9 w0 (v11 + 1) h _ _ _ hP hD hS (lv_sub hl [2, 3, 4, 5, 6, 7, 8, 9, 10, 11, 1, 0] rfl)
  have B299 : ∀ (k69 : (Nat → Int) → Int → Int → Int → Int → Int → Int → Int → Int → Int → Int → Int → Prop) (hk69 : ∀ (m_line : Nat → Int) (v1 : Int) (v2 : Int) (v3 : Int) (v4 : Int) (v5 : Int) (v6 : Int) (v7 : Int) (v8 : Int) (v9 : Int) (v10 : Int) (v11 : Int), k69 m_line v1 v2 v3 v4 v5 v6 v7 v8 v9 v10 v11 → ∀ (H : Heap) (locs : List Loc) (ls : Array Slot), va_P X.1 vwCl [(a_m, .inr (6, [.ref a_m_s, .ref a_m_past, .ref a_m_aside, .int (iI m_pasts), .ref a_m_text, .int (iI m_typed), .int (iI m_thrown), .ref a_m_line, .ref a_m_page, .int (iI m_lines), .int (iI m_pages), .int (iI m_measure), .int (iI m_mostLeft), .int (iI m_mostRight), .int (iI m_spot), .long m_h])), (a_m_s, eI X 975 m_s), (a_m_past, eI X 3900 m_past), (a_m_aside, eI X 975 m_aside), (a_m_text, eI X 200 m_text), (a_m_line, eI X 600 m_line), (a_m_page, eI X 180 m_page)] H → va_D A [(a_m, .inr (6, [.ref a_m_s, .ref a_m_past, .ref a_m_aside, .int (iI m_pasts), .ref a_m_text, .int (iI m_typed), .int (iI m_thrown), .ref a_m_line, .ref a_m_page, .int (iI m_lines), .int (iI m_pages), .int (iI m_measure), .int (iI m_mostLeft), .int (iI m_mostRight), .int (iI m_spot), .long m_h])), (a_m_s, eI X 975 m_s), (a_m_past, eI X 3900 m_past), (a_m_aside, eI X 975 m_aside), (a_m_text, eI X 200 m_text), (a_m_line, eI X 600 m_line), (a_m_page, eI X 180 m_page)] → va_S A s.heap H locs → lv_has ls 15 [(0, .ref a_m), (1, .int (iI v1)), (2, .int (iI v2)), (3, .int (iI v3)), (4, .int (iI v4)), (5, .int (iI v5)), (6, .int (iI v6)), (7, .int (iI v7)), (8, .int (iI v8)), (9, .int (iI v9)), (10, .int (iI v10)), (11, .int (iI v11))] → W p l e rmX6_row s m args below meth c H locs 0 0 Q (F0 m 69 ls [])) (m_line : Nat → Int) (v1 : Int) (v2 : Int) (v3 : Int) (v4 : Int) (v5 : Int) (v6 : Int) (v7 : Int) (v8 : Int) (v9 : Int) (v11 : Int), wpX6_row_299 m_lines m_pages m_measure m_mostLeft m_mostRight m_s post k69 m_line v1 v2 v3 v4 v5 v6 v7 v8 v9 v11 → ∀ (H : Heap) (locs : List Loc) (ls : Array Slot), va_P X.1 vwCl [(a_m, .inr (6, [.ref a_m_s, .ref a_m_past, .ref a_m_aside, .int (iI m_pasts), .ref a_m_text, .int (iI m_typed), .int (iI m_thrown), .ref a_m_line, .ref a_m_page, .int (iI m_lines), .int (iI m_pages), .int (iI m_measure), .int (iI m_mostLeft), .int (iI m_mostRight), .int (iI m_spot), .long m_h])), (a_m_s, eI X 975 m_s), (a_m_past, eI X 3900 m_past), (a_m_aside, eI X 975 m_aside), (a_m_text, eI X 200 m_text), (a_m_line, eI X 600 m_line), (a_m_page, eI X 180 m_page)] H → va_D A [(a_m, .inr (6, [.ref a_m_s, .ref a_m_past, .ref a_m_aside, .int (iI m_pasts), .ref a_m_text, .int (iI m_typed), .int (iI m_thrown), .ref a_m_line, .ref a_m_page, .int (iI m_lines), .int (iI m_pages), .int (iI m_measure), .int (iI m_mostLeft), .int (iI m_mostRight), .int (iI m_spot), .long m_h])), (a_m_s, eI X 975 m_s), (a_m_past, eI X 3900 m_past), (a_m_aside, eI X 975 m_aside), (a_m_text, eI X 200 m_text), (a_m_line, eI X 600 m_line), (a_m_page, eI X 180 m_page)] → va_S A s.heap H locs → lv_has ls 15 [(0, .ref a_m), (1, .int (iI v1)), (2, .int (iI v2)), (3, .int (iI v3)), (4, .int (iI v4)), (5, .int (iI v5)), (6, .int (iI v6)), (7, .int (iI v7)), (8, .int (iI v8)), (9, .int (iI v9)), (11, .int (iI v11))] → W p l e rmX6_row s m args below meth c H locs 0 0 Q (F0 m 299 ls []) := by
    intro k69 hk69 m_line v1 v2 v3 v4 v5 v6 v7 v8 v9 v11 h H locs ls hP hD hS hl
    refine lv_aload_n hx hb dX6_row_299 rfl (lv_at hl 0 rfl) ?_
    refine lv_iload hx hb dX6_row_300 (lv_at hl 10 rfl) ?_
    refine lv_bipush (v := iI 15) hx hb dX6_row_302 (by decide +kernel) ?_
    refine e_i (isC := [0, 1, 2, 3, 4, 5, 6]) (isR := []) (wr := []) (va_runV (As := [.int (iI v11), .int (iI 15)]) (rest := []) ⟨hx, hb, hml, hown, hts⟩ (kX6_of l X a_m a_m_s a_m_past a_m_aside a_m_text a_m_line a_m_page m_pasts m_typed m_thrown m_lines m_pages m_measure m_mostLeft m_mostRight m_spot m_h m_s m_past m_aside m_text m_line m_page v11 15 _ h _) (cwV 2 hts gX6_row_X6_of rfl rfl rfl (by decide +kernel) ⟨(Nat.le_of_ble_eq_true rfl), (Nat.le_of_ble_eq_true rfl)⟩) ⟨pre_blind, va_recv hK hP (ci := 6) (q0 := 0) rfl rfl, pre_cut hE hK hA hP hD hS (isC := [0, 1, 2, 3, 4, 5, 6]) rfl (by decide +kernel)⟩ rfl rfl hl.1 rfl (lv_room (Nat.le_of_ble_eq_true rfl)) dX6_row_304 ⟨(Nat.le_of_ble_eq_true rfl), (Nat.le_of_ble_eq_true rfl)⟩) hA hP hD hS rfl rfl (by decide +kernel) (by decide +kernel) (fun z1 u1 H locs h hP hD hS => ?_)
    have hP : va_P X.1 vwCl [(a_m, .inr (6, [.ref a_m_s, .ref a_m_past, .ref a_m_aside, .int (iI m_pasts), .ref a_m_text, .int (iI m_typed), .int (iI m_thrown), .ref a_m_line, .ref a_m_page, .int (iI m_lines), .int (iI m_pages), .int (iI m_measure), .int (iI m_mostLeft), .int (iI m_mostRight), .int (iI m_spot), .long m_h])), (a_m_s, eI X 975 m_s), (a_m_past, eI X 3900 m_past), (a_m_aside, eI X 975 m_aside), (a_m_text, eI X 200 m_text), (a_m_line, eI X 600 m_line), (a_m_page, eI X 180 m_page)] H := hP
    have hD : va_D A [(a_m, .inr (6, [.ref a_m_s, .ref a_m_past, .ref a_m_aside, .int (iI m_pasts), .ref a_m_text, .int (iI m_typed), .int (iI m_thrown), .ref a_m_line, .ref a_m_page, .int (iI m_lines), .int (iI m_pages), .int (iI m_measure), .int (iI m_mostLeft), .int (iI m_mostRight), .int (iI m_spot), .long m_h])), (a_m_s, eI X 975 m_s), (a_m_past, eI X 3900 m_past), (a_m_aside, eI X 975 m_aside), (a_m_text, eI X 200 m_text), (a_m_line, eI X 600 m_line), (a_m_page, eI X 180 m_page)] := hD
    refine i_if_ne (tgt := 314) hx hb h.1 dX6_row_307 (by decide) (fun c2 => ?_) (fun c2 => ?_)
    · have h := h.2.1 c2
      refine lv_iconst (v := iI 0) hx hb dX6_row_314 rfl ?_
      exact B315 k69 hk69 m_line v1 v2 v3 v4 v5 v6 v7 v8 v9 v11 0 h _ _ _ hP hD hS (lv_sub hl [0, 1, 2, 3, 4, 5, 6, 7, 8, 9, 10] rfl)
    · have h := h.2.2 c2
      refine lv_iconst (v := iI 1) hx hb dX6_row_310 rfl ?_
      refine lv_goto (tgt := 315) hx hb dX6_row_311 (by decide) ?_
      exact B315 k69 hk69 m_line v1 v2 v3 v4 v5 v6 v7 v8 v9 v11 1 h _ _ _ hP hD hS (lv_sub hl [0, 1, 2, 3, 4, 5, 6, 7, 8, 9, 10] rfl)
  have B298 : ∀ (k69 : (Nat → Int) → Int → Int → Int → Int → Int → Int → Int → Int → Int → Int → Int → Prop) (hk69 : ∀ (m_line : Nat → Int) (v1 : Int) (v2 : Int) (v3 : Int) (v4 : Int) (v5 : Int) (v6 : Int) (v7 : Int) (v8 : Int) (v9 : Int) (v10 : Int) (v11 : Int), k69 m_line v1 v2 v3 v4 v5 v6 v7 v8 v9 v10 v11 → ∀ (H : Heap) (locs : List Loc) (ls : Array Slot), va_P X.1 vwCl [(a_m, .inr (6, [.ref a_m_s, .ref a_m_past, .ref a_m_aside, .int (iI m_pasts), .ref a_m_text, .int (iI m_typed), .int (iI m_thrown), .ref a_m_line, .ref a_m_page, .int (iI m_lines), .int (iI m_pages), .int (iI m_measure), .int (iI m_mostLeft), .int (iI m_mostRight), .int (iI m_spot), .long m_h])), (a_m_s, eI X 975 m_s), (a_m_past, eI X 3900 m_past), (a_m_aside, eI X 975 m_aside), (a_m_text, eI X 200 m_text), (a_m_line, eI X 600 m_line), (a_m_page, eI X 180 m_page)] H → va_D A [(a_m, .inr (6, [.ref a_m_s, .ref a_m_past, .ref a_m_aside, .int (iI m_pasts), .ref a_m_text, .int (iI m_typed), .int (iI m_thrown), .ref a_m_line, .ref a_m_page, .int (iI m_lines), .int (iI m_pages), .int (iI m_measure), .int (iI m_mostLeft), .int (iI m_mostRight), .int (iI m_spot), .long m_h])), (a_m_s, eI X 975 m_s), (a_m_past, eI X 3900 m_past), (a_m_aside, eI X 975 m_aside), (a_m_text, eI X 200 m_text), (a_m_line, eI X 600 m_line), (a_m_page, eI X 180 m_page)] → va_S A s.heap H locs → lv_has ls 15 [(0, .ref a_m), (1, .int (iI v1)), (2, .int (iI v2)), (3, .int (iI v3)), (4, .int (iI v4)), (5, .int (iI v5)), (6, .int (iI v6)), (7, .int (iI v7)), (8, .int (iI v8)), (9, .int (iI v9)), (10, .int (iI v10)), (11, .int (iI v11))] → W p l e rmX6_row s m args below meth c H locs 0 0 Q (F0 m 69 ls [])) (m_line : Nat → Int) (v1 : Int) (v2 : Int) (v3 : Int) (v4 : Int) (v5 : Int) (v6 : Int) (v7 : Int) (v8 : Int) (v9 : Int) (v11 : Int) (w0 : Int) (w1 : Int), wpX6_row_298 m_lines m_pages m_measure m_mostLeft m_mostRight m_s post k69 m_line v1 v2 v3 v4 v5 v6 v7 v8 v9 v11 w0 w1 → ∀ (H : Heap) (locs : List Loc) (ls : Array Slot), va_P X.1 vwCl [(a_m, .inr (6, [.ref a_m_s, .ref a_m_past, .ref a_m_aside, .int (iI m_pasts), .ref a_m_text, .int (iI m_typed), .int (iI m_thrown), .ref a_m_line, .ref a_m_page, .int (iI m_lines), .int (iI m_pages), .int (iI m_measure), .int (iI m_mostLeft), .int (iI m_mostRight), .int (iI m_spot), .long m_h])), (a_m_s, eI X 975 m_s), (a_m_past, eI X 3900 m_past), (a_m_aside, eI X 975 m_aside), (a_m_text, eI X 200 m_text), (a_m_line, eI X 600 m_line), (a_m_page, eI X 180 m_page)] H → va_D A [(a_m, .inr (6, [.ref a_m_s, .ref a_m_past, .ref a_m_aside, .int (iI m_pasts), .ref a_m_text, .int (iI m_typed), .int (iI m_thrown), .ref a_m_line, .ref a_m_page, .int (iI m_lines), .int (iI m_pages), .int (iI m_measure), .int (iI m_mostLeft), .int (iI m_mostRight), .int (iI m_spot), .long m_h])), (a_m_s, eI X 975 m_s), (a_m_past, eI X 3900 m_past), (a_m_aside, eI X 975 m_aside), (a_m_text, eI X 200 m_text), (a_m_line, eI X 600 m_line), (a_m_page, eI X 180 m_page)] → va_S A s.heap H locs → lv_has ls 15 [(0, .ref a_m), (1, .int (iI v1)), (2, .int (iI v2)), (3, .int (iI v3)), (4, .int (iI v4)), (5, .int (iI v5)), (6, .int (iI v6)), (7, .int (iI v7)), (8, .int (iI v8)), (9, .int (iI v9)), (11, .int (iI v11))] → W p l e rmX6_row s m args below meth c H locs 0 0 Q (F0 m 298 ls [.int (iI w0), .int (iI w1), .ref a_m_line]) := by
    intro k69 hk69 m_line v1 v2 v3 v4 v5 v6 v7 v8 v9 v11 w0 w1 h H locs ls hP hD hS hl
    refine i_ast hx hb hK hP hD hS 5 0 rfl rfl h.1 h.2.1 rfl (Nat.le_of_ble_eq_true rfl) dX6_row_298 (fun H locs hP hD hS => ?_)
    have hP : va_P X.1 vwCl [(a_m, .inr (6, [.ref a_m_s, .ref a_m_past, .ref a_m_aside, .int (iI m_pasts), .ref a_m_text, .int (iI m_typed), .int (iI m_thrown), .ref a_m_line, .ref a_m_page, .int (iI m_lines), .int (iI m_pages), .int (iI m_measure), .int (iI m_mostLeft), .int (iI m_mostRight), .int (iI m_spot), .long m_h])), (a_m_s, eI X 975 m_s), (a_m_past, eI X 3900 m_past), (a_m_aside, eI X 975 m_aside), (a_m_text, eI X 200 m_text), (a_m_line, eI X 600 (updI m_line (w1).toNat w0)), (a_m_page, eI X 180 m_page)] H := hP
    have hD : va_D A [(a_m, .inr (6, [.ref a_m_s, .ref a_m_past, .ref a_m_aside, .int (iI m_pasts), .ref a_m_text, .int (iI m_typed), .int (iI m_thrown), .ref a_m_line, .ref a_m_page, .int (iI m_lines), .int (iI m_pages), .int (iI m_measure), .int (iI m_mostLeft), .int (iI m_mostRight), .int (iI m_spot), .long m_h])), (a_m_s, eI X 975 m_s), (a_m_past, eI X 3900 m_past), (a_m_aside, eI X 975 m_aside), (a_m_text, eI X 200 m_text), (a_m_line, eI X 600 (updI m_line (w1).toNat w0)), (a_m_page, eI X 180 m_page)] := hD
    have h := h.2.2
    exact B299 k69 hk69 (updI m_line (w1).toNat w0) v1 v2 v3 v4 v5 v6 v7 v8 v9 v11 h _ _ _ hP hD hS (lv_sub hl [0, 1, 2, 3, 4, 5, 6, 7, 8, 9, 10] rfl)
  have B278 : ∀ (k69 : (Nat → Int) → Int → Int → Int → Int → Int → Int → Int → Int → Int → Int → Int → Prop) (hk69 : ∀ (m_line : Nat → Int) (v1 : Int) (v2 : Int) (v3 : Int) (v4 : Int) (v5 : Int) (v6 : Int) (v7 : Int) (v8 : Int) (v9 : Int) (v10 : Int) (v11 : Int), k69 m_line v1 v2 v3 v4 v5 v6 v7 v8 v9 v10 v11 → ∀ (H : Heap) (locs : List Loc) (ls : Array Slot), va_P X.1 vwCl [(a_m, .inr (6, [.ref a_m_s, .ref a_m_past, .ref a_m_aside, .int (iI m_pasts), .ref a_m_text, .int (iI m_typed), .int (iI m_thrown), .ref a_m_line, .ref a_m_page, .int (iI m_lines), .int (iI m_pages), .int (iI m_measure), .int (iI m_mostLeft), .int (iI m_mostRight), .int (iI m_spot), .long m_h])), (a_m_s, eI X 975 m_s), (a_m_past, eI X 3900 m_past), (a_m_aside, eI X 975 m_aside), (a_m_text, eI X 200 m_text), (a_m_line, eI X 600 m_line), (a_m_page, eI X 180 m_page)] H → va_D A [(a_m, .inr (6, [.ref a_m_s, .ref a_m_past, .ref a_m_aside, .int (iI m_pasts), .ref a_m_text, .int (iI m_typed), .int (iI m_thrown), .ref a_m_line, .ref a_m_page, .int (iI m_lines), .int (iI m_pages), .int (iI m_measure), .int (iI m_mostLeft), .int (iI m_mostRight), .int (iI m_spot), .long m_h])), (a_m_s, eI X 975 m_s), (a_m_past, eI X 3900 m_past), (a_m_aside, eI X 975 m_aside), (a_m_text, eI X 200 m_text), (a_m_line, eI X 600 m_line), (a_m_page, eI X 180 m_page)] → va_S A s.heap H locs → lv_has ls 15 [(0, .ref a_m), (1, .int (iI v1)), (2, .int (iI v2)), (3, .int (iI v3)), (4, .int (iI v4)), (5, .int (iI v5)), (6, .int (iI v6)), (7, .int (iI v7)), (8, .int (iI v8)), (9, .int (iI v9)), (10, .int (iI v10)), (11, .int (iI v11))] → W p l e rmX6_row s m args below meth c H locs 0 0 Q (F0 m 69 ls [])) (m_line : Nat → Int) (v1 : Int) (v2 : Int) (v3 : Int) (v4 : Int) (v5 : Int) (v6 : Int) (v7 : Int) (v8 : Int) (v9 : Int) (v11 : Int) (v14 : Int) (w0 : Int) (w1 : Int), wpX6_row_278 m_lines m_pages m_measure m_mostLeft m_mostRight m_s post k69 m_line v1 v2 v3 v4 v5 v6 v7 v8 v9 v11 v14 w0 w1 → ∀ (H : Heap) (locs : List Loc) (ls : Array Slot), va_P X.1 vwCl [(a_m, .inr (6, [.ref a_m_s, .ref a_m_past, .ref a_m_aside, .int (iI m_pasts), .ref a_m_text, .int (iI m_typed), .int (iI m_thrown), .ref a_m_line, .ref a_m_page, .int (iI m_lines), .int (iI m_pages), .int (iI m_measure), .int (iI m_mostLeft), .int (iI m_mostRight), .int (iI m_spot), .long m_h])), (a_m_s, eI X 975 m_s), (a_m_past, eI X 3900 m_past), (a_m_aside, eI X 975 m_aside), (a_m_text, eI X 200 m_text), (a_m_line, eI X 600 m_line), (a_m_page, eI X 180 m_page)] H → va_D A [(a_m, .inr (6, [.ref a_m_s, .ref a_m_past, .ref a_m_aside, .int (iI m_pasts), .ref a_m_text, .int (iI m_typed), .int (iI m_thrown), .ref a_m_line, .ref a_m_page, .int (iI m_lines), .int (iI m_pages), .int (iI m_measure), .int (iI m_mostLeft), .int (iI m_mostRight), .int (iI m_spot), .long m_h])), (a_m_s, eI X 975 m_s), (a_m_past, eI X 3900 m_past), (a_m_aside, eI X 975 m_aside), (a_m_text, eI X 200 m_text), (a_m_line, eI X 600 m_line), (a_m_page, eI X 180 m_page)] → va_S A s.heap H locs → lv_has ls 15 [(0, .ref a_m), (1, .int (iI v1)), (2, .int (iI v2)), (3, .int (iI v3)), (4, .int (iI v4)), (5, .int (iI v5)), (6, .int (iI v6)), (7, .int (iI v7)), (8, .int (iI v8)), (9, .int (iI v9)), (11, .int (iI v11)), (14, .int (iI v14))] → W p l e rmX6_row s m args below meth c H locs 0 0 Q (F0 m 278 ls [.int (iI w0), .int (iI w1), .ref a_m_line]) := by
    intro k69 hk69 m_line v1 v2 v3 v4 v5 v6 v7 v8 v9 v11 v14 w0 w1 h H locs ls hP hD hS hl
    refine i_ast hx hb hK hP hD hS 5 0 rfl rfl h.1 h.2.1 rfl (Nat.le_of_ble_eq_true rfl) dX6_row_278 (fun H locs hP hD hS => ?_)
    have hP : va_P X.1 vwCl [(a_m, .inr (6, [.ref a_m_s, .ref a_m_past, .ref a_m_aside, .int (iI m_pasts), .ref a_m_text, .int (iI m_typed), .int (iI m_thrown), .ref a_m_line, .ref a_m_page, .int (iI m_lines), .int (iI m_pages), .int (iI m_measure), .int (iI m_mostLeft), .int (iI m_mostRight), .int (iI m_spot), .long m_h])), (a_m_s, eI X 975 m_s), (a_m_past, eI X 3900 m_past), (a_m_aside, eI X 975 m_aside), (a_m_text, eI X 200 m_text), (a_m_line, eI X 600 (updI m_line (w1).toNat w0)), (a_m_page, eI X 180 m_page)] H := hP
    have hD : va_D A [(a_m, .inr (6, [.ref a_m_s, .ref a_m_past, .ref a_m_aside, .int (iI m_pasts), .ref a_m_text, .int (iI m_typed), .int (iI m_thrown), .ref a_m_line, .ref a_m_page, .int (iI m_lines), .int (iI m_pages), .int (iI m_measure), .int (iI m_mostLeft), .int (iI m_mostRight), .int (iI m_spot), .long m_h])), (a_m_s, eI X 975 m_s), (a_m_past, eI X 3900 m_past), (a_m_aside, eI X 975 m_aside), (a_m_text, eI X 200 m_text), (a_m_line, eI X 600 (updI m_line (w1).toNat w0)), (a_m_page, eI X 180 m_page)] := hD
    have h := h.2.2
    refine lv_aload_n hx hb dX6_row_279 rfl (lv_at hl 0 rfl) ?_
    refine va_get (D := X.1) (ci := 6) (C := RX6) (T := TX6) (N := 16) hx hb hts hi_X6 hown hK hP 0 rfl rfl 7 (by decide) hf_22 (fun _ h9 => h9) rfl dX6_row_280 ?_
    refine lv_iload hx hb dX6_row_283 (lv_at hl 4 rfl) ?_
    refine lv_bipush (v := iI 9) hx hb dX6_row_285 (by decide +kernel) ?_
    refine i_add hx hb dX6_row_287 ?_
    refine lv_iload hx hb dX6_row_288 (lv_at hl 11 rfl) ?_
    refine i_if_eq (tgt := 297) hx hb h.1 dX6_row_290 (by decide) (fun c1 => ?_) (fun c1 => ?_)
    · have h := h.2.1 c1
      refine lv_iconst (v := iI 1) hx hb dX6_row_297 rfl ?_
      exact B298 k69 hk69 (updI m_line (w1).toNat w0) v1 v2 v3 v4 v5 v6 v7 v8 v9 v11 1 (v4 + 9) h _ _ _ hP hD hS (lv_sub hl [0, 1, 2, 3, 4, 5, 6, 7, 8, 9, 10] rfl)
    · have h := h.2.2 c1
      refine lv_iconst (v := iI 0) hx hb dX6_row_293 rfl ?_
      refine lv_goto (tgt := 298) hx hb dX6_row_294 (by decide) ?_
      exact B298 k69 hk69 (updI m_line (w1).toNat w0) v1 v2 v3 v4 v5 v6 v7 v8 v9 v11 0 (v4 + 9) h _ _ _ hP hD hS (lv_sub hl [0, 1, 2, 3, 4, 5, 6, 7, 8, 9, 10] rfl)
  have B247 : ∀ (k69 : (Nat → Int) → Int → Int → Int → Int → Int → Int → Int → Int → Int → Int → Int → Prop) (hk69 : ∀ (m_line : Nat → Int) (v1 : Int) (v2 : Int) (v3 : Int) (v4 : Int) (v5 : Int) (v6 : Int) (v7 : Int) (v8 : Int) (v9 : Int) (v10 : Int) (v11 : Int), k69 m_line v1 v2 v3 v4 v5 v6 v7 v8 v9 v10 v11 → ∀ (H : Heap) (locs : List Loc) (ls : Array Slot), va_P X.1 vwCl [(a_m, .inr (6, [.ref a_m_s, .ref a_m_past, .ref a_m_aside, .int (iI m_pasts), .ref a_m_text, .int (iI m_typed), .int (iI m_thrown), .ref a_m_line, .ref a_m_page, .int (iI m_lines), .int (iI m_pages), .int (iI m_measure), .int (iI m_mostLeft), .int (iI m_mostRight), .int (iI m_spot), .long m_h])), (a_m_s, eI X 975 m_s), (a_m_past, eI X 3900 m_past), (a_m_aside, eI X 975 m_aside), (a_m_text, eI X 200 m_text), (a_m_line, eI X 600 m_line), (a_m_page, eI X 180 m_page)] H → va_D A [(a_m, .inr (6, [.ref a_m_s, .ref a_m_past, .ref a_m_aside, .int (iI m_pasts), .ref a_m_text, .int (iI m_typed), .int (iI m_thrown), .ref a_m_line, .ref a_m_page, .int (iI m_lines), .int (iI m_pages), .int (iI m_measure), .int (iI m_mostLeft), .int (iI m_mostRight), .int (iI m_spot), .long m_h])), (a_m_s, eI X 975 m_s), (a_m_past, eI X 3900 m_past), (a_m_aside, eI X 975 m_aside), (a_m_text, eI X 200 m_text), (a_m_line, eI X 600 m_line), (a_m_page, eI X 180 m_page)] → va_S A s.heap H locs → lv_has ls 15 [(0, .ref a_m), (1, .int (iI v1)), (2, .int (iI v2)), (3, .int (iI v3)), (4, .int (iI v4)), (5, .int (iI v5)), (6, .int (iI v6)), (7, .int (iI v7)), (8, .int (iI v8)), (9, .int (iI v9)), (10, .int (iI v10)), (11, .int (iI v11))] → W p l e rmX6_row s m args below meth c H locs 0 0 Q (F0 m 69 ls [])) (m_line : Nat → Int) (v1 : Int) (v2 : Int) (v3 : Int) (v4 : Int) (v5 : Int) (v6 : Int) (v7 : Int) (v8 : Int) (v9 : Int) (v11 : Int) (v13 : Int) (v14 : Int) (w0 : Int) (w1 : Int), wpX6_row_247 m_lines m_pages m_measure m_mostLeft m_mostRight m_s post k69 m_line v1 v2 v3 v4 v5 v6 v7 v8 v9 v11 v13 v14 w0 w1 → ∀ (H : Heap) (locs : List Loc) (ls : Array Slot), va_P X.1 vwCl [(a_m, .inr (6, [.ref a_m_s, .ref a_m_past, .ref a_m_aside, .int (iI m_pasts), .ref a_m_text, .int (iI m_typed), .int (iI m_thrown), .ref a_m_line, .ref a_m_page, .int (iI m_lines), .int (iI m_pages), .int (iI m_measure), .int (iI m_mostLeft), .int (iI m_mostRight), .int (iI m_spot), .long m_h])), (a_m_s, eI X 975 m_s), (a_m_past, eI X 3900 m_past), (a_m_aside, eI X 975 m_aside), (a_m_text, eI X 200 m_text), (a_m_line, eI X 600 m_line), (a_m_page, eI X 180 m_page)] H → va_D A [(a_m, .inr (6, [.ref a_m_s, .ref a_m_past, .ref a_m_aside, .int (iI m_pasts), .ref a_m_text, .int (iI m_typed), .int (iI m_thrown), .ref a_m_line, .ref a_m_page, .int (iI m_lines), .int (iI m_pages), .int (iI m_measure), .int (iI m_mostLeft), .int (iI m_mostRight), .int (iI m_spot), .long m_h])), (a_m_s, eI X 975 m_s), (a_m_past, eI X 3900 m_past), (a_m_aside, eI X 975 m_aside), (a_m_text, eI X 200 m_text), (a_m_line, eI X 600 m_line), (a_m_page, eI X 180 m_page)] → va_S A s.heap H locs → lv_has ls 15 [(0, .ref a_m), (1, .int (iI v1)), (2, .int (iI v2)), (3, .int (iI v3)), (4, .int (iI v4)), (5, .int (iI v5)), (6, .int (iI v6)), (7, .int (iI v7)), (8, .int (iI v8)), (9, .int (iI v9)), (11, .int (iI v11)), (13, .int (iI v13)), (14, .int (iI v14))] → W p l e rmX6_row s m args below meth c H locs 0 0 Q (F0 m 247 ls [.int (iI w0), .int (iI w1), .ref a_m_line]) := by
    intro k69 hk69 m_line v1 v2 v3 v4 v5 v6 v7 v8 v9 v11 v13 v14 w0 w1 h H locs ls hP hD hS hl
    refine i_ast hx hb hK hP hD hS 5 0 rfl rfl h.1 h.2.1 rfl (Nat.le_of_ble_eq_true rfl) dX6_row_247 (fun H locs hP hD hS => ?_)
    have hP : va_P X.1 vwCl [(a_m, .inr (6, [.ref a_m_s, .ref a_m_past, .ref a_m_aside, .int (iI m_pasts), .ref a_m_text, .int (iI m_typed), .int (iI m_thrown), .ref a_m_line, .ref a_m_page, .int (iI m_lines), .int (iI m_pages), .int (iI m_measure), .int (iI m_mostLeft), .int (iI m_mostRight), .int (iI m_spot), .long m_h])), (a_m_s, eI X 975 m_s), (a_m_past, eI X 3900 m_past), (a_m_aside, eI X 975 m_aside), (a_m_text, eI X 200 m_text), (a_m_line, eI X 600 (updI m_line (w1).toNat w0)), (a_m_page, eI X 180 m_page)] H := hP
    have hD : va_D A [(a_m, .inr (6, [.ref a_m_s, .ref a_m_past, .ref a_m_aside, .int (iI m_pasts), .ref a_m_text, .int (iI m_typed), .int (iI m_thrown), .ref a_m_line, .ref a_m_page, .int (iI m_lines), .int (iI m_pages), .int (iI m_measure), .int (iI m_mostLeft), .int (iI m_mostRight), .int (iI m_spot), .long m_h])), (a_m_s, eI X 975 m_s), (a_m_past, eI X 3900 m_past), (a_m_aside, eI X 975 m_aside), (a_m_text, eI X 200 m_text), (a_m_line, eI X 600 (updI m_line (w1).toNat w0)), (a_m_page, eI X 180 m_page)] := hD
    have h := h.2.2
    refine lv_aload_n hx hb dX6_row_248 rfl (lv_at hl 0 rfl) ?_
    refine va_get (D := X.1) (ci := 6) (C := RX6) (T := TX6) (N := 16) hx hb hts hi_X6 hown hK hP 0 rfl rfl 7 (by decide) hf_22 (fun _ h9 => h9) rfl dX6_row_249 ?_
    refine lv_iload hx hb dX6_row_252 (lv_at hl 4 rfl) ?_
    refine lv_iconst (v := iI 5) hx hb dX6_row_254 rfl ?_
    refine i_add hx hb dX6_row_255 ?_
    refine lv_iload hx hb dX6_row_256 (lv_at hl 12 rfl) ?_
    refine i_if_eq (tgt := 277) hx hb h.1 dX6_row_258 (by decide) (fun c1 => ?_) (fun c1 => ?_)
    · have h := h.2.1 c1
      refine lv_iconst (v := iI 0) hx hb dX6_row_277 rfl ?_
      exact B278 k69 hk69 (updI m_line (w1).toNat w0) v1 v2 v3 v4 v5 v6 v7 v8 v9 v11 v14 0 (v4 + 5) h _ _ _ hP hD hS (lv_sub hl [0, 1, 2, 3, 4, 5, 6, 7, 8, 9, 10, 12] rfl)
    · have h := h.2.2 c1
      refine lv_iload hx hb dX6_row_261 (lv_at hl 11 rfl) ?_
      refine lv_aload_n hx hb dX6_row_263 rfl (lv_at hl 0 rfl) ?_
      refine va_get (D := X.1) (ci := 6) (C := RX6) (T := TX6) (N := 16) hx hb hts hi_X6 hown hK hP 0 rfl rfl 7 (by decide) hf_22 (fun _ h9 => h9) rfl dX6_row_264 ?_
      refine lv_iload hx hb dX6_row_267 (lv_at hl 4 rfl) ?_
      refine lv_bipush (v := iI 6) hx hb dX6_row_269 (by decide +kernel) ?_
      refine i_add hx hb dX6_row_271 ?_
      refine i_ald hx hb hK hP 5 0 rfl rfl h.1 h.2.1 rfl (Nat.le_of_ble_eq_true rfl) dX6_row_272 ?_
      have h := h.2.2
      refine i_sub hx hb dX6_row_273 ?_
      refine lv_goto (tgt := 278) hx hb dX6_row_274 (by decide) ?_
      exact B278 k69 hk69 (updI m_line (w1).toNat w0) v1 v2 v3 v4 v5 v6 v7 v8 v9 v11 v14 (v13 - (updI m_line (w1).toNat w0) (v4 + 6).toNat) (v4 + 5) h _ _ _ hP hD hS (lv_sub hl [0, 1, 2, 3, 4, 5, 6, 7, 8, 9, 10, 12] rfl)
  have B196 : ∀ (k69 : (Nat → Int) → Int → Int → Int → Int → Int → Int → Int → Int → Int → Int → Int → Prop) (hk69 : ∀ (m_line : Nat → Int) (v1 : Int) (v2 : Int) (v3 : Int) (v4 : Int) (v5 : Int) (v6 : Int) (v7 : Int) (v8 : Int) (v9 : Int) (v10 : Int) (v11 : Int), k69 m_line v1 v2 v3 v4 v5 v6 v7 v8 v9 v10 v11 → ∀ (H : Heap) (locs : List Loc) (ls : Array Slot), va_P X.1 vwCl [(a_m, .inr (6, [.ref a_m_s, .ref a_m_past, .ref a_m_aside, .int (iI m_pasts), .ref a_m_text, .int (iI m_typed), .int (iI m_thrown), .ref a_m_line, .ref a_m_page, .int (iI m_lines), .int (iI m_pages), .int (iI m_measure), .int (iI m_mostLeft), .int (iI m_mostRight), .int (iI m_spot), .long m_h])), (a_m_s, eI X 975 m_s), (a_m_past, eI X 3900 m_past), (a_m_aside, eI X 975 m_aside), (a_m_text, eI X 200 m_text), (a_m_line, eI X 600 m_line), (a_m_page, eI X 180 m_page)] H → va_D A [(a_m, .inr (6, [.ref a_m_s, .ref a_m_past, .ref a_m_aside, .int (iI m_pasts), .ref a_m_text, .int (iI m_typed), .int (iI m_thrown), .ref a_m_line, .ref a_m_page, .int (iI m_lines), .int (iI m_pages), .int (iI m_measure), .int (iI m_mostLeft), .int (iI m_mostRight), .int (iI m_spot), .long m_h])), (a_m_s, eI X 975 m_s), (a_m_past, eI X 3900 m_past), (a_m_aside, eI X 975 m_aside), (a_m_text, eI X 200 m_text), (a_m_line, eI X 600 m_line), (a_m_page, eI X 180 m_page)] → va_S A s.heap H locs → lv_has ls 15 [(0, .ref a_m), (1, .int (iI v1)), (2, .int (iI v2)), (3, .int (iI v3)), (4, .int (iI v4)), (5, .int (iI v5)), (6, .int (iI v6)), (7, .int (iI v7)), (8, .int (iI v8)), (9, .int (iI v9)), (10, .int (iI v10)), (11, .int (iI v11))] → W p l e rmX6_row s m args below meth c H locs 0 0 Q (F0 m 69 ls [])) (m_line : Nat → Int) (v1 : Int) (v2 : Int) (v3 : Int) (v4 : Int) (v5 : Int) (v6 : Int) (v7 : Int) (v8 : Int) (v11 : Int) (v12 : Int) (v13 : Int) (v14 : Int), wpX6_row_196 m_lines m_pages m_measure m_mostLeft m_mostRight m_s post k69 m_line v1 v2 v3 v4 v5 v6 v7 v8 v11 v12 v13 v14 → ∀ (H : Heap) (locs : List Loc) (ls : Array Slot), va_P X.1 vwCl [(a_m, .inr (6, [.ref a_m_s, .ref a_m_past, .ref a_m_aside, .int (iI m_pasts), .ref a_m_text, .int (iI m_typed), .int (iI m_thrown), .ref a_m_line, .ref a_m_page, .int (iI m_lines), .int (iI m_pages), .int (iI m_measure), .int (iI m_mostLeft), .int (iI m_mostRight), .int (iI m_spot), .long m_h])), (a_m_s, eI X 975 m_s), (a_m_past, eI X 3900 m_past), (a_m_aside, eI X 975 m_aside), (a_m_text, eI X 200 m_text), (a_m_line, eI X 600 m_line), (a_m_page, eI X 180 m_page)] H → va_D A [(a_m, .inr (6, [.ref a_m_s, .ref a_m_past, .ref a_m_aside, .int (iI m_pasts), .ref a_m_text, .int (iI m_typed), .int (iI m_thrown), .ref a_m_line, .ref a_m_page, .int (iI m_lines), .int (iI m_pages), .int (iI m_measure), .int (iI m_mostLeft), .int (iI m_mostRight), .int (iI m_spot), .long m_h])), (a_m_s, eI X 975 m_s), (a_m_past, eI X 3900 m_past), (a_m_aside, eI X 975 m_aside), (a_m_text, eI X 200 m_text), (a_m_line, eI X 600 m_line), (a_m_page, eI X 180 m_page)] → va_S A s.heap H locs → lv_has ls 15 [(0, .ref a_m), (1, .int (iI v1)), (2, .int (iI v2)), (3, .int (iI v3)), (4, .int (iI v4)), (5, .int (iI v5)), (6, .int (iI v6)), (7, .int (iI v7)), (8, .int (iI v8)), (11, .int (iI v11)), (12, .int (iI v12)), (13, .int (iI v13)), (14, .int (iI v14))] → W p l e rmX6_row s m args below meth c H locs 0 0 Q (F0 m 196 ls []) := by
    intro k69 hk69 m_line v1 v2 v3 v4 v5 v6 v7 v8 v11 v12 v13 v14 h H locs ls hP hD hS hl
    refine lv_iload hx hb dX6_row_196 (lv_at hl 9 rfl) ?_
    refine lv_iload_n hx hb dX6_row_198 rfl (lv_at hl 1 rfl) ?_
    refine i_sub hx hb dX6_row_199 ?_
    refine lv_iconst (v := iI 1) hx hb dX6_row_200 rfl ?_
    refine i_add hx hb dX6_row_201 ?_
    refine lv_istore (lv' := [(9, .int (iI ((v11 - v1) + 1))), (0, .ref a_m), (1, .int (iI v1)), (2, .int (iI v2)), (3, .int (iI v3)), (4, .int (iI v4)), (5, .int (iI v5)), (6, .int (iI v6)), (7, .int (iI v7)), (8, .int (iI v8)), (11, .int (iI v11)), (12, .int (iI v12)), (13, .int (iI v13)), (14, .int (iI v14))]) hx hb dX6_row_202 hl (by decide) rfl (fun ls hl => ?_)
    refine lv_aload_n hx hb dX6_row_204 rfl (lv_at hl 1 rfl) ?_
    refine va_get (D := X.1) (ci := 6) (C := RX6) (T := TX6) (N := 16) hx hb hts hi_X6 hown hK hP 0 rfl rfl 7 (by decide) hf_22 (fun _ h9 => h9) rfl dX6_row_205 ?_
    refine lv_iload hx hb dX6_row_208 (lv_at hl 5 rfl) ?_
    refine lv_iconst (v := iI 3) hx hb dX6_row_210 rfl ?_
    refine i_add hx hb dX6_row_211 ?_
    refine lv_iload hx hb dX6_row_212 (lv_at hl 9 rfl) ?_
    refine i_ast hx hb hK hP hD hS 5 0 rfl rfl h.1 h.2.1 rfl (Nat.le_of_ble_eq_true rfl) dX6_row_214 (fun H locs hP hD hS => ?_)
    have hP : va_P X.1 vwCl [(a_m, .inr (6, [.ref a_m_s, .ref a_m_past, .ref a_m_aside, .int (iI m_pasts), .ref a_m_text, .int (iI m_typed), .int (iI m_thrown), .ref a_m_line, .ref a_m_page, .int (iI m_lines), .int (iI m_pages), .int (iI m_measure), .int (iI m_mostLeft), .int (iI m_mostRight), .int (iI m_spot), .long m_h])), (a_m_s, eI X 975 m_s), (a_m_past, eI X 3900 m_past), (a_m_aside, eI X 975 m_aside), (a_m_text, eI X 200 m_text), (a_m_line, eI X 600 (updI m_line (v4 + 3).toNat v8)), (a_m_page, eI X 180 m_page)] H := hP
    have hD : va_D A [(a_m, .inr (6, [.ref a_m_s, .ref a_m_past, .ref a_m_aside, .int (iI m_pasts), .ref a_m_text, .int (iI m_typed), .int (iI m_thrown), .ref a_m_line, .ref a_m_page, .int (iI m_lines), .int (iI m_pages), .int (iI m_measure), .int (iI m_mostLeft), .int (iI m_mostRight), .int (iI m_spot), .long m_h])), (a_m_s, eI X 975 m_s), (a_m_past, eI X 3900 m_past), (a_m_aside, eI X 975 m_aside), (a_m_text, eI X 200 m_text), (a_m_line, eI X 600 (updI m_line (v4 + 3).toNat v8)), (a_m_page, eI X 180 m_page)] := hD
    have h := h.2.2
    refine lv_aload_n hx hb dX6_row_215 rfl (lv_at hl 1 rfl) ?_
    refine va_get (D := X.1) (ci := 6) (C := RX6) (T := TX6) (N := 16) hx hb hts hi_X6 hown hK hP 0 rfl rfl 7 (by decide) hf_22 (fun _ h9 => h9) rfl dX6_row_216 ?_
    refine lv_iload hx hb dX6_row_219 (lv_at hl 5 rfl) ?_
    refine lv_bipush (v := iI 6) hx hb dX6_row_221 (by decide +kernel) ?_
    refine i_add hx hb dX6_row_223 ?_
    refine lv_iload hx hb dX6_row_224 (lv_at hl 13 rfl) ?_
    refine i_if_ne (tgt := 233) hx hb h.1 dX6_row_226 (by decide) (fun c1 => ?_) (fun c1 => ?_)
    · have h := h.2.1 c1
      refine lv_iload hx hb dX6_row_233 (lv_at hl 12 rfl) ?_
      refine lv_iload hx hb dX6_row_235 (lv_at hl 11 rfl) ?_
      refine i_cmp_ge (tgt := 245) hx hb h.1 h.2.1 dX6_row_237 (by decide) (fun c2 => ?_) (fun c2 => ?_)
      · have h := h.2.2.1 c2
        refine lv_iload hx hb dX6_row_245 (lv_at hl 11 rfl) ?_
        exact B247 k69 hk69 (updI m_line (v4 + 3).toNat v8) v1 v2 v3 v4 v5 v6 v7 v8 ((v11 - v1) + 1) v11 v13 v14 v12 (v4 + 6) h _ _ _ hP hD hS (lv_sub hl [1, 2, 3, 4, 5, 6, 7, 8, 9, 0, 10, 12, 13] rfl)
      · have h := h.2.2.2 c2
        refine lv_iload hx hb dX6_row_240 (lv_at hl 12 rfl) ?_
        refine lv_goto (tgt := 247) hx hb dX6_row_242 (by decide) ?_
        exact B247 k69 hk69 (updI m_line (v4 + 3).toNat v8) v1 v2 v3 v4 v5 v6 v7 v8 ((v11 - v1) + 1) v11 v13 v14 v13 (v4 + 6) h _ _ _ hP hD hS (lv_sub hl [1, 2, 3, 4, 5, 6, 7, 8, 9, 0, 10, 12, 13] rfl)
    · have h := h.2.2 c1
      refine lv_iconst (v := iI 0) hx hb dX6_row_229 rfl ?_
      refine lv_goto (tgt := 247) hx hb dX6_row_230 (by decide) ?_
      exact B247 k69 hk69 (updI m_line (v4 + 3).toNat v8) v1 v2 v3 v4 v5 v6 v7 v8 ((v11 - v1) + 1) v11 v13 v14 0 (v4 + 6) h _ _ _ hP hD hS (lv_sub hl [1, 2, 3, 4, 5, 6, 7, 8, 9, 0, 10, 12, 13] rfl)
  have B183 : ∀ (k69 : (Nat → Int) → Int → Int → Int → Int → Int → Int → Int → Int → Int → Int → Int → Prop) (hk69 : ∀ (m_line : Nat → Int) (v1 : Int) (v2 : Int) (v3 : Int) (v4 : Int) (v5 : Int) (v6 : Int) (v7 : Int) (v8 : Int) (v9 : Int) (v10 : Int) (v11 : Int), k69 m_line v1 v2 v3 v4 v5 v6 v7 v8 v9 v10 v11 → ∀ (H : Heap) (locs : List Loc) (ls : Array Slot), va_P X.1 vwCl [(a_m, .inr (6, [.ref a_m_s, .ref a_m_past, .ref a_m_aside, .int (iI m_pasts), .ref a_m_text, .int (iI m_typed), .int (iI m_thrown), .ref a_m_line, .ref a_m_page, .int (iI m_lines), .int (iI m_pages), .int (iI m_measure), .int (iI m_mostLeft), .int (iI m_mostRight), .int (iI m_spot), .long m_h])), (a_m_s, eI X 975 m_s), (a_m_past, eI X 3900 m_past), (a_m_aside, eI X 975 m_aside), (a_m_text, eI X 200 m_text), (a_m_line, eI X 600 m_line), (a_m_page, eI X 180 m_page)] H → va_D A [(a_m, .inr (6, [.ref a_m_s, .ref a_m_past, .ref a_m_aside, .int (iI m_pasts), .ref a_m_text, .int (iI m_typed), .int (iI m_thrown), .ref a_m_line, .ref a_m_page, .int (iI m_lines), .int (iI m_pages), .int (iI m_measure), .int (iI m_mostLeft), .int (iI m_mostRight), .int (iI m_spot), .long m_h])), (a_m_s, eI X 975 m_s), (a_m_past, eI X 3900 m_past), (a_m_aside, eI X 975 m_aside), (a_m_text, eI X 200 m_text), (a_m_line, eI X 600 m_line), (a_m_page, eI X 180 m_page)] → va_S A s.heap H locs → lv_has ls 15 [(0, .ref a_m), (1, .int (iI v1)), (2, .int (iI v2)), (3, .int (iI v3)), (4, .int (iI v4)), (5, .int (iI v5)), (6, .int (iI v6)), (7, .int (iI v7)), (8, .int (iI v8)), (9, .int (iI v9)), (10, .int (iI v10)), (11, .int (iI v11))] → W p l e rmX6_row s m args below meth c H locs 0 0 Q (F0 m 69 ls [])) (m_line : Nat → Int) (v1 : Int) (v2 : Int) (v3 : Int) (v4 : Int) (v5 : Int) (v6 : Int) (v7 : Int) (v8 : Int) (v9 : Int) (v11 : Int) (v12 : Int) (v13 : Int) (w0 : Int), wpX6_row_183 m_lines m_pages m_measure m_mostLeft m_mostRight m_s post k69 m_line v1 v2 v3 v4 v5 v6 v7 v8 v9 v11 v12 v13 w0 → ∀ (H : Heap) (locs : List Loc) (ls : Array Slot), va_P X.1 vwCl [(a_m, .inr (6, [.ref a_m_s, .ref a_m_past, .ref a_m_aside, .int (iI m_pasts), .ref a_m_text, .int (iI m_typed), .int (iI m_thrown), .ref a_m_line, .ref a_m_page, .int (iI m_lines), .int (iI m_pages), .int (iI m_measure), .int (iI m_mostLeft), .int (iI m_mostRight), .int (iI m_spot), .long m_h])), (a_m_s, eI X 975 m_s), (a_m_past, eI X 3900 m_past), (a_m_aside, eI X 975 m_aside), (a_m_text, eI X 200 m_text), (a_m_line, eI X 600 m_line), (a_m_page, eI X 180 m_page)] H → va_D A [(a_m, .inr (6, [.ref a_m_s, .ref a_m_past, .ref a_m_aside, .int (iI m_pasts), .ref a_m_text, .int (iI m_typed), .int (iI m_thrown), .ref a_m_line, .ref a_m_page, .int (iI m_lines), .int (iI m_pages), .int (iI m_measure), .int (iI m_mostLeft), .int (iI m_mostRight), .int (iI m_spot), .long m_h])), (a_m_s, eI X 975 m_s), (a_m_past, eI X 3900 m_past), (a_m_aside, eI X 975 m_aside), (a_m_text, eI X 200 m_text), (a_m_line, eI X 600 m_line), (a_m_page, eI X 180 m_page)] → va_S A s.heap H locs → lv_has ls 15 [(0, .ref a_m), (1, .int (iI v1)), (2, .int (iI v2)), (3, .int (iI v3)), (4, .int (iI v4)), (5, .int (iI v5)), (6, .int (iI v6)), (7, .int (iI v7)), (8, .int (iI v8)), (9, .int (iI v9)), (11, .int (iI v11)), (12, .int (iI v12)), (13, .int (iI v13))] → W p l e rmX6_row s m args below meth c H locs 0 0 Q (F0 m 183 ls [.int (iI w0)]) := by
    intro k69 hk69 m_line v1 v2 v3 v4 v5 v6 v7 v8 v9 v11 v12 v13 w0 h H locs ls hP hD hS hl
    refine lv_istore (lv' := [(14, .int (iI w0)), (0, .ref a_m), (1, .int (iI v1)), (2, .int (iI v2)), (3, .int (iI v3)), (4, .int (iI v4)), (5, .int (iI v5)), (6, .int (iI v6)), (7, .int (iI v7)), (8, .int (iI v8)), (9, .int (iI v9)), (11, .int (iI v11)), (12, .int (iI v12)), (13, .int (iI v13))]) hx hb dX6_row_183 hl (by decide) rfl (fun ls hl => ?_)
    refine lv_iload hx hb dX6_row_185 (lv_at hl 0 rfl) ?_
    refine i_if_ne (tgt := 196) hx hb h.1 dX6_row_187 (by decide) (fun c1 => ?_) (fun c1 => ?_)
    · have h := h.2.1 c1
      exact B196 k69 hk69 m_line v1 v2 v3 v4 v5 v6 v7 v8 v11 v12 v13 w0 h _ _ _ hP hD hS (lv_sub hl [1, 2, 3, 4, 5, 6, 7, 8, 9, 11, 12, 13, 0] rfl)
    · have h := h.2.2 c1
      refine lv_iload hx hb dX6_row_190 (lv_at hl 11 rfl) ?_
      refine lv_iload_n hx hb dX6_row_192 rfl (lv_at hl 2 rfl) ?_
      refine i_cmp_ne (tgt := 299) hx hb h.1 h.2.1 dX6_row_193 (by decide) (fun c2 => ?_) (fun c2 => ?_)
      · have h := h.2.2.1 c2
        exact B299 k69 hk69 m_line v1 v2 v3 v4 v5 v6 v7 v8 v9 v11 h _ _ _ hP hD hS (lv_sub hl [1, 2, 3, 4, 5, 6, 7, 8, 9, 10, 11] rfl)
      · have h := h.2.2.2 c2
        exact B196 k69 hk69 m_line v1 v2 v3 v4 v5 v6 v7 v8 v11 v12 v13 w0 h _ _ _ hP hD hS (lv_sub hl [1, 2, 3, 4, 5, 6, 7, 8, 9, 11, 12, 13, 0] rfl)
  have B178 : ∀ (k69 : (Nat → Int) → Int → Int → Int → Int → Int → Int → Int → Int → Int → Int → Int → Prop) (hk69 : ∀ (m_line : Nat → Int) (v1 : Int) (v2 : Int) (v3 : Int) (v4 : Int) (v5 : Int) (v6 : Int) (v7 : Int) (v8 : Int) (v9 : Int) (v10 : Int) (v11 : Int), k69 m_line v1 v2 v3 v4 v5 v6 v7 v8 v9 v10 v11 → ∀ (H : Heap) (locs : List Loc) (ls : Array Slot), va_P X.1 vwCl [(a_m, .inr (6, [.ref a_m_s, .ref a_m_past, .ref a_m_aside, .int (iI m_pasts), .ref a_m_text, .int (iI m_typed), .int (iI m_thrown), .ref a_m_line, .ref a_m_page, .int (iI m_lines), .int (iI m_pages), .int (iI m_measure), .int (iI m_mostLeft), .int (iI m_mostRight), .int (iI m_spot), .long m_h])), (a_m_s, eI X 975 m_s), (a_m_past, eI X 3900 m_past), (a_m_aside, eI X 975 m_aside), (a_m_text, eI X 200 m_text), (a_m_line, eI X 600 m_line), (a_m_page, eI X 180 m_page)] H → va_D A [(a_m, .inr (6, [.ref a_m_s, .ref a_m_past, .ref a_m_aside, .int (iI m_pasts), .ref a_m_text, .int (iI m_typed), .int (iI m_thrown), .ref a_m_line, .ref a_m_page, .int (iI m_lines), .int (iI m_pages), .int (iI m_measure), .int (iI m_mostLeft), .int (iI m_mostRight), .int (iI m_spot), .long m_h])), (a_m_s, eI X 975 m_s), (a_m_past, eI X 3900 m_past), (a_m_aside, eI X 975 m_aside), (a_m_text, eI X 200 m_text), (a_m_line, eI X 600 m_line), (a_m_page, eI X 180 m_page)] → va_S A s.heap H locs → lv_has ls 15 [(0, .ref a_m), (1, .int (iI v1)), (2, .int (iI v2)), (3, .int (iI v3)), (4, .int (iI v4)), (5, .int (iI v5)), (6, .int (iI v6)), (7, .int (iI v7)), (8, .int (iI v8)), (9, .int (iI v9)), (10, .int (iI v10)), (11, .int (iI v11))] → W p l e rmX6_row s m args below meth c H locs 0 0 Q (F0 m 69 ls [])) (m_line : Nat → Int) (v1 : Int) (v2 : Int) (v3 : Int) (v4 : Int) (v5 : Int) (v6 : Int) (v7 : Int) (v8 : Int) (v9 : Int) (v11 : Int) (v12 : Int) (v13 : Int), wpX6_row_178 m_lines m_pages m_measure m_mostLeft m_mostRight m_s post k69 m_line v1 v2 v3 v4 v5 v6 v7 v8 v9 v11 v12 v13 → ∀ (H : Heap) (locs : List Loc) (ls : Array Slot), va_P X.1 vwCl [(a_m, .inr (6, [.ref a_m_s, .ref a_m_past, .ref a_m_aside, .int (iI m_pasts), .ref a_m_text, .int (iI m_typed), .int (iI m_thrown), .ref a_m_line, .ref a_m_page, .int (iI m_lines), .int (iI m_pages), .int (iI m_measure), .int (iI m_mostLeft), .int (iI m_mostRight), .int (iI m_spot), .long m_h])), (a_m_s, eI X 975 m_s), (a_m_past, eI X 3900 m_past), (a_m_aside, eI X 975 m_aside), (a_m_text, eI X 200 m_text), (a_m_line, eI X 600 m_line), (a_m_page, eI X 180 m_page)] H → va_D A [(a_m, .inr (6, [.ref a_m_s, .ref a_m_past, .ref a_m_aside, .int (iI m_pasts), .ref a_m_text, .int (iI m_typed), .int (iI m_thrown), .ref a_m_line, .ref a_m_page, .int (iI m_lines), .int (iI m_pages), .int (iI m_measure), .int (iI m_mostLeft), .int (iI m_mostRight), .int (iI m_spot), .long m_h])), (a_m_s, eI X 975 m_s), (a_m_past, eI X 3900 m_past), (a_m_aside, eI X 975 m_aside), (a_m_text, eI X 200 m_text), (a_m_line, eI X 600 m_line), (a_m_page, eI X 180 m_page)] → va_S A s.heap H locs → lv_has ls 15 [(0, .ref a_m), (1, .int (iI v1)), (2, .int (iI v2)), (3, .int (iI v3)), (4, .int (iI v4)), (5, .int (iI v5)), (6, .int (iI v6)), (7, .int (iI v7)), (8, .int (iI v8)), (9, .int (iI v9)), (11, .int (iI v11)), (12, .int (iI v12)), (13, .int (iI v13))] → W p l e rmX6_row s m args below meth c H locs 0 0 Q (F0 m 178 ls []) := by
    intro k69 hk69 m_line v1 v2 v3 v4 v5 v6 v7 v8 v9 v11 v12 v13 h H locs ls hP hD hS hl
    refine lv_iconst (v := iI 1) hx hb dX6_row_178 rfl ?_
    refine lv_goto (tgt := 183) hx hb dX6_row_179 (by decide) ?_
    exact B183 k69 hk69 m_line v1 v2 v3 v4 v5 v6 v7 v8 v9 v11 v12 v13 1 h _ _ _ hP hD hS (lv_sub hl [0, 1, 2, 3, 4, 5, 6, 7, 8, 9, 10, 11, 12] rfl)
  have B182 : ∀ (k69 : (Nat → Int) → Int → Int → Int → Int → Int → Int → Int → Int → Int → Int → Int → Prop) (hk69 : ∀ (m_line : Nat → Int) (v1 : Int) (v2 : Int) (v3 : Int) (v4 : Int) (v5 : Int) (v6 : Int) (v7 : Int) (v8 : Int) (v9 : Int) (v10 : Int) (v11 : Int), k69 m_line v1 v2 v3 v4 v5 v6 v7 v8 v9 v10 v11 → ∀ (H : Heap) (locs : List Loc) (ls : Array Slot), va_P X.1 vwCl [(a_m, .inr (6, [.ref a_m_s, .ref a_m_past, .ref a_m_aside, .int (iI m_pasts), .ref a_m_text, .int (iI m_typed), .int (iI m_thrown), .ref a_m_line, .ref a_m_page, .int (iI m_lines), .int (iI m_pages), .int (iI m_measure), .int (iI m_mostLeft), .int (iI m_mostRight), .int (iI m_spot), .long m_h])), (a_m_s, eI X 975 m_s), (a_m_past, eI X 3900 m_past), (a_m_aside, eI X 975 m_aside), (a_m_text, eI X 200 m_text), (a_m_line, eI X 600 m_line), (a_m_page, eI X 180 m_page)] H → va_D A [(a_m, .inr (6, [.ref a_m_s, .ref a_m_past, .ref a_m_aside, .int (iI m_pasts), .ref a_m_text, .int (iI m_typed), .int (iI m_thrown), .ref a_m_line, .ref a_m_page, .int (iI m_lines), .int (iI m_pages), .int (iI m_measure), .int (iI m_mostLeft), .int (iI m_mostRight), .int (iI m_spot), .long m_h])), (a_m_s, eI X 975 m_s), (a_m_past, eI X 3900 m_past), (a_m_aside, eI X 975 m_aside), (a_m_text, eI X 200 m_text), (a_m_line, eI X 600 m_line), (a_m_page, eI X 180 m_page)] → va_S A s.heap H locs → lv_has ls 15 [(0, .ref a_m), (1, .int (iI v1)), (2, .int (iI v2)), (3, .int (iI v3)), (4, .int (iI v4)), (5, .int (iI v5)), (6, .int (iI v6)), (7, .int (iI v7)), (8, .int (iI v8)), (9, .int (iI v9)), (10, .int (iI v10)), (11, .int (iI v11))] → W p l e rmX6_row s m args below meth c H locs 0 0 Q (F0 m 69 ls [])) (m_line : Nat → Int) (v1 : Int) (v2 : Int) (v3 : Int) (v4 : Int) (v5 : Int) (v6 : Int) (v7 : Int) (v8 : Int) (v9 : Int) (v11 : Int) (v12 : Int) (v13 : Int), wpX6_row_182 m_lines m_pages m_measure m_mostLeft m_mostRight m_s post k69 m_line v1 v2 v3 v4 v5 v6 v7 v8 v9 v11 v12 v13 → ∀ (H : Heap) (locs : List Loc) (ls : Array Slot), va_P X.1 vwCl [(a_m, .inr (6, [.ref a_m_s, .ref a_m_past, .ref a_m_aside, .int (iI m_pasts), .ref a_m_text, .int (iI m_typed), .int (iI m_thrown), .ref a_m_line, .ref a_m_page, .int (iI m_lines), .int (iI m_pages), .int (iI m_measure), .int (iI m_mostLeft), .int (iI m_mostRight), .int (iI m_spot), .long m_h])), (a_m_s, eI X 975 m_s), (a_m_past, eI X 3900 m_past), (a_m_aside, eI X 975 m_aside), (a_m_text, eI X 200 m_text), (a_m_line, eI X 600 m_line), (a_m_page, eI X 180 m_page)] H → va_D A [(a_m, .inr (6, [.ref a_m_s, .ref a_m_past, .ref a_m_aside, .int (iI m_pasts), .ref a_m_text, .int (iI m_typed), .int (iI m_thrown), .ref a_m_line, .ref a_m_page, .int (iI m_lines), .int (iI m_pages), .int (iI m_measure), .int (iI m_mostLeft), .int (iI m_mostRight), .int (iI m_spot), .long m_h])), (a_m_s, eI X 975 m_s), (a_m_past, eI X 3900 m_past), (a_m_aside, eI X 975 m_aside), (a_m_text, eI X 200 m_text), (a_m_line, eI X 600 m_line), (a_m_page, eI X 180 m_page)] → va_S A s.heap H locs → lv_has ls 15 [(0, .ref a_m), (1, .int (iI v1)), (2, .int (iI v2)), (3, .int (iI v3)), (4, .int (iI v4)), (5, .int (iI v5)), (6, .int (iI v6)), (7, .int (iI v7)), (8, .int (iI v8)), (9, .int (iI v9)), (11, .int (iI v11)), (12, .int (iI v12)), (13, .int (iI v13))] → W p l e rmX6_row s m args below meth c H locs 0 0 Q (F0 m 182 ls []) := by
    intro k69 hk69 m_line v1 v2 v3 v4 v5 v6 v7 v8 v9 v11 v12 v13 h H locs ls hP hD hS hl
    refine lv_iconst (v := iI 0) hx hb dX6_row_182 rfl ?_
    exact B183 k69 hk69 m_line v1 v2 v3 v4 v5 v6 v7 v8 v9 v11 v12 v13 0 h _ _ _ hP hD hS (lv_sub hl [0, 1, 2, 3, 4, 5, 6, 7, 8, 9, 10, 11, 12] rfl)
  have B143 : ∀ (k69 : (Nat → Int) → Int → Int → Int → Int → Int → Int → Int → Int → Int → Int → Int → Prop) (hk69 : ∀ (m_line : Nat → Int) (v1 : Int) (v2 : Int) (v3 : Int) (v4 : Int) (v5 : Int) (v6 : Int) (v7 : Int) (v8 : Int) (v9 : Int) (v10 : Int) (v11 : Int), k69 m_line v1 v2 v3 v4 v5 v6 v7 v8 v9 v10 v11 → ∀ (H : Heap) (locs : List Loc) (ls : Array Slot), va_P X.1 vwCl [(a_m, .inr (6, [.ref a_m_s, .ref a_m_past, .ref a_m_aside, .int (iI m_pasts), .ref a_m_text, .int (iI m_typed), .int (iI m_thrown), .ref a_m_line, .ref a_m_page, .int (iI m_lines), .int (iI m_pages), .int (iI m_measure), .int (iI m_mostLeft), .int (iI m_mostRight), .int (iI m_spot), .long m_h])), (a_m_s, eI X 975 m_s), (a_m_past, eI X 3900 m_past), (a_m_aside, eI X 975 m_aside), (a_m_text, eI X 200 m_text), (a_m_line, eI X 600 m_line), (a_m_page, eI X 180 m_page)] H → va_D A [(a_m, .inr (6, [.ref a_m_s, .ref a_m_past, .ref a_m_aside, .int (iI m_pasts), .ref a_m_text, .int (iI m_typed), .int (iI m_thrown), .ref a_m_line, .ref a_m_page, .int (iI m_lines), .int (iI m_pages), .int (iI m_measure), .int (iI m_mostLeft), .int (iI m_mostRight), .int (iI m_spot), .long m_h])), (a_m_s, eI X 975 m_s), (a_m_past, eI X 3900 m_past), (a_m_aside, eI X 975 m_aside), (a_m_text, eI X 200 m_text), (a_m_line, eI X 600 m_line), (a_m_page, eI X 180 m_page)] → va_S A s.heap H locs → lv_has ls 15 [(0, .ref a_m), (1, .int (iI v1)), (2, .int (iI v2)), (3, .int (iI v3)), (4, .int (iI v4)), (5, .int (iI v5)), (6, .int (iI v6)), (7, .int (iI v7)), (8, .int (iI v8)), (9, .int (iI v9)), (10, .int (iI v10)), (11, .int (iI v11))] → W p l e rmX6_row s m args below meth c H locs 0 0 Q (F0 m 69 ls [])) (m_line : Nat → Int) (v1 : Int) (v2 : Int) (v3 : Int) (v4 : Int) (v5 : Int) (v6 : Int) (v7 : Int) (v8 : Int) (v9 : Int) (v11 : Int) (v12 : Int) (w0 : Int), wpX6_row_143 m_lines m_pages m_measure m_mostLeft m_mostRight m_s post k69 m_line v1 v2 v3 v4 v5 v6 v7 v8 v9 v11 v12 w0 → ∀ (H : Heap) (locs : List Loc) (ls : Array Slot), va_P X.1 vwCl [(a_m, .inr (6, [.ref a_m_s, .ref a_m_past, .ref a_m_aside, .int (iI m_pasts), .ref a_m_text, .int (iI m_typed), .int (iI m_thrown), .ref a_m_line, .ref a_m_page, .int (iI m_lines), .int (iI m_pages), .int (iI m_measure), .int (iI m_mostLeft), .int (iI m_mostRight), .int (iI m_spot), .long m_h])), (a_m_s, eI X 975 m_s), (a_m_past, eI X 3900 m_past), (a_m_aside, eI X 975 m_aside), (a_m_text, eI X 200 m_text), (a_m_line, eI X 600 m_line), (a_m_page, eI X 180 m_page)] H → va_D A [(a_m, .inr (6, [.ref a_m_s, .ref a_m_past, .ref a_m_aside, .int (iI m_pasts), .ref a_m_text, .int (iI m_typed), .int (iI m_thrown), .ref a_m_line, .ref a_m_page, .int (iI m_lines), .int (iI m_pages), .int (iI m_measure), .int (iI m_mostLeft), .int (iI m_mostRight), .int (iI m_spot), .long m_h])), (a_m_s, eI X 975 m_s), (a_m_past, eI X 3900 m_past), (a_m_aside, eI X 975 m_aside), (a_m_text, eI X 200 m_text), (a_m_line, eI X 600 m_line), (a_m_page, eI X 180 m_page)] → va_S A s.heap H locs → lv_has ls 15 [(0, .ref a_m), (1, .int (iI v1)), (2, .int (iI v2)), (3, .int (iI v3)), (4, .int (iI v4)), (5, .int (iI v5)), (6, .int (iI v6)), (7, .int (iI v7)), (8, .int (iI v8)), (9, .int (iI v9)), (11, .int (iI v11)), (12, .int (iI v12))] → W p l e rmX6_row s m args below meth c H locs 0 0 Q (F0 m 143 ls [.int (iI w0)]) := by
    intro k69 hk69 m_line v1 v2 v3 v4 v5 v6 v7 v8 v9 v11 v12 w0 h H locs ls hP hD hS hl
    refine lv_istore (lv' := [(13, .int (iI w0)), (0, .ref a_m), (1, .int (iI v1)), (2, .int (iI v2)), (3, .int (iI v3)), (4, .int (iI v4)), (5, .int (iI v5)), (6, .int (iI v6)), (7, .int (iI v7)), (8, .int (iI v8)), (9, .int (iI v9)), (11, .int (iI v11)), (12, .int (iI v12))]) hx hb dX6_row_143 hl (by decide) rfl (fun ls hl => ?_)
    refine lv_iload hx hb dX6_row_145 (lv_at hl 0 rfl) ?_
    refine i_if_eq (tgt := 178) hx hb h.1 dX6_row_147 (by decide) (fun c1 => ?_) (fun c1 => ?_)
    · have h := h.2.1 c1
      exact B178 k69 hk69 m_line v1 v2 v3 v4 v5 v6 v7 v8 v9 v11 v12 w0 h _ _ _ hP hD hS (lv_sub hl [1, 2, 3, 4, 5, 6, 7, 8, 9, 10, 11, 12, 0] rfl)
    · have h := h.2.2 c1
      refine lv_iload hx hb dX6_row_150 (lv_at hl 0 rfl) ?_
      refine lv_iload hx hb dX6_row_152 (lv_at hl 8 rfl) ?_
      refine lv_iload hx hb dX6_row_154 (lv_at hl 12 rfl) ?_
      refine i_add hx hb dX6_row_156 ?_
      refine i_cmp_gt (tgt := 182) hx hb h.1 h.2.1 dX6_row_157 (by decide) (fun c2 => ?_) (fun c2 => ?_)
      · have h := h.2.2.1 c2
        exact B182 k69 hk69 m_line v1 v2 v3 v4 v5 v6 v7 v8 v9 v11 v12 w0 h _ _ _ hP hD hS (lv_sub hl [1, 2, 3, 4, 5, 6, 7, 8, 9, 10, 11, 12, 0] rfl)
      · have h := h.2.2.2 c2
        refine lv_iload_n hx hb dX6_row_160 rfl (lv_at hl 3 rfl) ?_
        refine lv_iload hx hb dX6_row_161 (lv_at hl 6 rfl) ?_
        refine i_sub hx hb dX6_row_163 ?_
        refine lv_iload hx hb dX6_row_164 (lv_at hl 0 rfl) ?_
        refine i_add hx hb dX6_row_166 ?_
        refine lv_aload_n hx hb dX6_row_167 rfl (lv_at hl 1 rfl) ?_
        refine va_get (D := X.1) (ci := 6) (C := RX6) (T := TX6) (N := 16) hx hb hts hi_X6 hown hK hP 0 rfl rfl 0 (by decide) hf_7 (fun _ h9 => h9) rfl dX6_row_168 ?_
        refine lv_iconst (v := iI 4) hx hb dX6_row_171 rfl ?_
        refine i_ald hx hb hK hP 1 0 rfl rfl (by decide) (by decide) rfl (Nat.le_of_ble_eq_true rfl) dX6_row_172 ?_
        refine lv_iload_n hx hb dX6_row_173 rfl (lv_at hl 4 rfl) ?_
        refine i_mul hx hb dX6_row_174 ?_
        refine i_cmp_gt (tgt := 182) hx hb h.1 h.2.1 dX6_row_175 (by decide) (fun c3 => ?_) (fun c3 => ?_)
        · have h := h.2.2.1 c3
          exact B182 k69 hk69 m_line v1 v2 v3 v4 v5 v6 v7 v8 v9 v11 v12 w0 h _ _ _ hP hD hS (lv_sub hl [1, 2, 3, 4, 5, 6, 7, 8, 9, 10, 11, 12, 0] rfl)
        · have h := h.2.2.2 c3
          exact B178 k69 hk69 m_line v1 v2 v3 v4 v5 v6 v7 v8 v9 v11 v12 w0 h _ _ _ hP hD hS (lv_sub hl [1, 2, 3, 4, 5, 6, 7, 8, 9, 10, 11, 12, 0] rfl)
  have B105 : ∀ (k69 : (Nat → Int) → Int → Int → Int → Int → Int → Int → Int → Int → Int → Int → Int → Prop) (hk69 : ∀ (m_line : Nat → Int) (v1 : Int) (v2 : Int) (v3 : Int) (v4 : Int) (v5 : Int) (v6 : Int) (v7 : Int) (v8 : Int) (v9 : Int) (v10 : Int) (v11 : Int), k69 m_line v1 v2 v3 v4 v5 v6 v7 v8 v9 v10 v11 → ∀ (H : Heap) (locs : List Loc) (ls : Array Slot), va_P X.1 vwCl [(a_m, .inr (6, [.ref a_m_s, .ref a_m_past, .ref a_m_aside, .int (iI m_pasts), .ref a_m_text, .int (iI m_typed), .int (iI m_thrown), .ref a_m_line, .ref a_m_page, .int (iI m_lines), .int (iI m_pages), .int (iI m_measure), .int (iI m_mostLeft), .int (iI m_mostRight), .int (iI m_spot), .long m_h])), (a_m_s, eI X 975 m_s), (a_m_past, eI X 3900 m_past), (a_m_aside, eI X 975 m_aside), (a_m_text, eI X 200 m_text), (a_m_line, eI X 600 m_line), (a_m_page, eI X 180 m_page)] H → va_D A [(a_m, .inr (6, [.ref a_m_s, .ref a_m_past, .ref a_m_aside, .int (iI m_pasts), .ref a_m_text, .int (iI m_typed), .int (iI m_thrown), .ref a_m_line, .ref a_m_page, .int (iI m_lines), .int (iI m_pages), .int (iI m_measure), .int (iI m_mostLeft), .int (iI m_mostRight), .int (iI m_spot), .long m_h])), (a_m_s, eI X 975 m_s), (a_m_past, eI X 3900 m_past), (a_m_aside, eI X 975 m_aside), (a_m_text, eI X 200 m_text), (a_m_line, eI X 600 m_line), (a_m_page, eI X 180 m_page)] → va_S A s.heap H locs → lv_has ls 15 [(0, .ref a_m), (1, .int (iI v1)), (2, .int (iI v2)), (3, .int (iI v3)), (4, .int (iI v4)), (5, .int (iI v5)), (6, .int (iI v6)), (7, .int (iI v7)), (8, .int (iI v8)), (9, .int (iI v9)), (10, .int (iI v10)), (11, .int (iI v11))] → W p l e rmX6_row s m args below meth c H locs 0 0 Q (F0 m 69 ls [])) (m_line : Nat → Int) (v1 : Int) (v2 : Int) (v3 : Int) (v4 : Int) (v5 : Int) (v6 : Int) (v7 : Int) (v9 : Int) (v11 : Int) (w0 : Int) (w1 : Int) (w2 : Int), wpX6_row_105 m_lines m_pages m_measure m_mostLeft m_mostRight m_s post k69 m_line v1 v2 v3 v4 v5 v6 v7 v9 v11 w0 w1 w2 → ∀ (H : Heap) (locs : List Loc) (ls : Array Slot), va_P X.1 vwCl [(a_m, .inr (6, [.ref a_m_s, .ref a_m_past, .ref a_m_aside, .int (iI m_pasts), .ref a_m_text, .int (iI m_typed), .int (iI m_thrown), .ref a_m_line, .ref a_m_page, .int (iI m_lines), .int (iI m_pages), .int (iI m_measure), .int (iI m_mostLeft), .int (iI m_mostRight), .int (iI m_spot), .long m_h])), (a_m_s, eI X 975 m_s), (a_m_past, eI X 3900 m_past), (a_m_aside, eI X 975 m_aside), (a_m_text, eI X 200 m_text), (a_m_line, eI X 600 m_line), (a_m_page, eI X 180 m_page)] H → va_D A [(a_m, .inr (6, [.ref a_m_s, .ref a_m_past, .ref a_m_aside, .int (iI m_pasts), .ref a_m_text, .int (iI m_typed), .int (iI m_thrown), .ref a_m_line, .ref a_m_page, .int (iI m_lines), .int (iI m_pages), .int (iI m_measure), .int (iI m_mostLeft), .int (iI m_mostRight), .int (iI m_spot), .long m_h])), (a_m_s, eI X 975 m_s), (a_m_past, eI X 3900 m_past), (a_m_aside, eI X 975 m_aside), (a_m_text, eI X 200 m_text), (a_m_line, eI X 600 m_line), (a_m_page, eI X 180 m_page)] → va_S A s.heap H locs → lv_has ls 15 [(0, .ref a_m), (1, .int (iI v1)), (2, .int (iI v2)), (3, .int (iI v3)), (4, .int (iI v4)), (5, .int (iI v5)), (6, .int (iI v6)), (7, .int (iI v7)), (9, .int (iI v9)), (11, .int (iI v11))] → W p l e rmX6_row s m args below meth c H locs 0 0 Q (F0 m 105 ls [.int (iI w0), .int (iI w1), .int (iI w2)]) := by
    intro k69 hk69 m_line v1 v2 v3 v4 v5 v6 v7 v9 v11 w0 w1 w2 h H locs ls hP hD hS hl
    refine i_add hx hb dX6_row_105 ?_
    refine i_add hx hb dX6_row_106 ?_
    refine lv_istore (lv' := [(8, .int (iI (w2 + (w1 + w0)))), (0, .ref a_m), (1, .int (iI v1)), (2, .int (iI v2)), (3, .int (iI v3)), (4, .int (iI v4)), (5, .int (iI v5)), (6, .int (iI v6)), (7, .int (iI v7)), (9, .int (iI v9)), (11, .int (iI v11))]) hx hb dX6_row_107 hl (by decide) rfl (fun ls hl => ?_)
    refine lv_aload_n hx hb dX6_row_109 rfl (lv_at hl 1 rfl) ?_
    refine lv_aload_n hx hb dX6_row_110 rfl (lv_at hl 1 rfl) ?_
    refine lv_iload hx hb dX6_row_111 (lv_at hl 10 rfl) ?_
    refine lv_bipush (v := iI 14) hx hb dX6_row_113 (by decide +kernel) ?_
    refine e_i (isC := [0, 1, 2, 3, 4, 5, 6]) (isR := []) (wr := []) (va_runV (As := [.int (iI v11), .int (iI 14)]) (rest := [.ref a_m]) ⟨hx, hb, hml, hown, hts⟩ (kX6_of l X a_m a_m_s a_m_past a_m_aside a_m_text a_m_line a_m_page m_pasts m_typed m_thrown m_lines m_pages m_measure m_mostLeft m_mostRight m_spot m_h m_s m_past m_aside m_text m_line m_page v11 14 _ h _) (cwV 2 hts gX6_row_X6_of rfl rfl rfl (by decide +kernel) ⟨(Nat.le_of_ble_eq_true rfl), (Nat.le_of_ble_eq_true rfl)⟩) ⟨pre_blind, va_recv hK hP (ci := 6) (q0 := 0) rfl rfl, pre_cut hE hK hA hP hD hS (isC := [0, 1, 2, 3, 4, 5, 6]) rfl (by decide +kernel)⟩ rfl rfl hl.1 rfl (lv_room (Nat.le_of_ble_eq_true rfl)) dX6_row_115 ⟨(Nat.le_of_ble_eq_true rfl), (Nat.le_of_ble_eq_true rfl)⟩) hA hP hD hS rfl rfl (by decide +kernel) (by decide +kernel) (fun z1 u1 H locs h hP hD hS => ?_)
    have hP : va_P X.1 vwCl [(a_m, .inr (6, [.ref a_m_s, .ref a_m_past, .ref a_m_aside, .int (iI m_pasts), .ref a_m_text, .int (iI m_typed), .int (iI m_thrown), .ref a_m_line, .ref a_m_page, .int (iI m_lines), .int (iI m_pages), .int (iI m_measure), .int (iI m_mostLeft), .int (iI m_mostRight), .int (iI m_spot), .long m_h])), (a_m_s, eI X 975 m_s), (a_m_past, eI X 3900 m_past), (a_m_aside, eI X 975 m_aside), (a_m_text, eI X 200 m_text), (a_m_line, eI X 600 m_line), (a_m_page, eI X 180 m_page)] H := hP
    have hD : va_D A [(a_m, .inr (6, [.ref a_m_s, .ref a_m_past, .ref a_m_aside, .int (iI m_pasts), .ref a_m_text, .int (iI m_typed), .int (iI m_thrown), .ref a_m_line, .ref a_m_page, .int (iI m_lines), .int (iI m_pages), .int (iI m_measure), .int (iI m_mostLeft), .int (iI m_mostRight), .int (iI m_spot), .long m_h])), (a_m_s, eI X 975 m_s), (a_m_past, eI X 3900 m_past), (a_m_aside, eI X 975 m_aside), (a_m_text, eI X 200 m_text), (a_m_line, eI X 600 m_line), (a_m_page, eI X 180 m_page)] := hD
    refine lv_aload_n hx hb dX6_row_118 rfl (lv_at hl 1 rfl) ?_
    refine va_get (D := X.1) (ci := 6) (C := RX6) (T := TX6) (N := 16) hx hb hts hi_X6 hown hK hP 0 rfl rfl 13 (by decide) hf_68 (fun _ h9 => h9) rfl dX6_row_119 ?_
    refine e_i (isC := [0, 1, 2, 3, 4, 5, 6]) (isR := []) (wr := []) (va_runV (As := [.int (iI z1), .int (iI m_mostRight)]) (rest := []) ⟨hx, hb, hml, hown, hts⟩ (kX6_overhang l X a_m a_m_s a_m_past a_m_aside a_m_text a_m_line a_m_page m_pasts m_typed m_thrown m_lines m_pages m_measure m_mostLeft m_mostRight m_spot m_h m_s m_past m_aside m_text m_line m_page z1 m_mostRight _ h _) (cwV 2 hts gX6_row_X6_overhang rfl rfl rfl (by decide +kernel) ⟨(Nat.le_of_ble_eq_true rfl), (Nat.le_of_ble_eq_true rfl)⟩) ⟨pre_blind, va_recv hK hP (ci := 6) (q0 := 0) rfl rfl, pre_cut hE hK hA hP hD hS (isC := [0, 1, 2, 3, 4, 5, 6]) rfl (by decide +kernel)⟩ rfl rfl hl.1 rfl (lv_room (Nat.le_of_ble_eq_true rfl)) dX6_row_122 ⟨(Nat.le_of_ble_eq_true rfl), (Nat.le_of_ble_eq_true rfl)⟩) hA hP hD hS rfl rfl (by decide +kernel) (by decide +kernel) (fun z2 u2 H locs h hP hD hS => ?_)
    have hP : va_P X.1 vwCl [(a_m, .inr (6, [.ref a_m_s, .ref a_m_past, .ref a_m_aside, .int (iI m_pasts), .ref a_m_text, .int (iI m_typed), .int (iI m_thrown), .ref a_m_line, .ref a_m_page, .int (iI m_lines), .int (iI m_pages), .int (iI m_measure), .int (iI m_mostLeft), .int (iI m_mostRight), .int (iI m_spot), .long m_h])), (a_m_s, eI X 975 m_s), (a_m_past, eI X 3900 m_past), (a_m_aside, eI X 975 m_aside), (a_m_text, eI X 200 m_text), (a_m_line, eI X 600 m_line), (a_m_page, eI X 180 m_page)] H := hP
    have hD : va_D A [(a_m, .inr (6, [.ref a_m_s, .ref a_m_past, .ref a_m_aside, .int (iI m_pasts), .ref a_m_text, .int (iI m_typed), .int (iI m_thrown), .ref a_m_line, .ref a_m_page, .int (iI m_lines), .int (iI m_pages), .int (iI m_measure), .int (iI m_mostLeft), .int (iI m_mostRight), .int (iI m_spot), .long m_h])), (a_m_s, eI X 975 m_s), (a_m_past, eI X 3900 m_past), (a_m_aside, eI X 975 m_aside), (a_m_text, eI X 200 m_text), (a_m_line, eI X 600 m_line), (a_m_page, eI X 180 m_page)] := hD
    refine lv_istore (lv' := [(12, .int (iI z2)), (8, .int (iI (w2 + (w1 + w0)))), (0, .ref a_m), (1, .int (iI v1)), (2, .int (iI v2)), (3, .int (iI v3)), (4, .int (iI v4)), (5, .int (iI v5)), (6, .int (iI v6)), (7, .int (iI v7)), (9, .int (iI v9)), (11, .int (iI v11))]) hx hb dX6_row_125 hl (by decide) rfl (fun ls hl => ?_)
    refine lv_iload hx hb dX6_row_127 (lv_at hl 1 rfl) ?_
    refine lv_iload hx hb dX6_row_129 (lv_at hl 8 rfl) ?_
    refine i_cmp_le (tgt := 142) hx hb h.1 h.2.1 dX6_row_131 (by decide) (fun c3 => ?_) (fun c3 => ?_)
    · have h := h.2.2.1 c3
      refine lv_iconst (v := iI 0) hx hb dX6_row_142 rfl ?_
      exact B143 k69 hk69 m_line v1 v2 v3 v4 v5 v6 v7 (w2 + (w1 + w0)) v9 v11 z2 0 h _ _ _ hP hD hS (lv_sub hl [2, 3, 4, 5, 6, 7, 8, 9, 1, 10, 11, 0] rfl)
    · have h := h.2.2.2 c3
      refine lv_iload hx hb dX6_row_134 (lv_at hl 1 rfl) ?_
      refine lv_iload hx hb dX6_row_136 (lv_at hl 8 rfl) ?_
      refine i_sub hx hb dX6_row_138 ?_
      refine lv_goto (tgt := 143) hx hb dX6_row_139 (by decide) ?_
      exact B143 k69 hk69 m_line v1 v2 v3 v4 v5 v6 v7 (w2 + (w1 + w0)) v9 v11 z2 ((w2 + (w1 + w0)) - v6) h _ _ _ hP hD hS (lv_sub hl [2, 3, 4, 5, 6, 7, 8, 9, 1, 10, 11, 0] rfl)
  have B69 : ∀ (n : Nat) (m_line : Nat → Int) (v1 : Int) (v2 : Int) (v3 : Int) (v4 : Int) (v5 : Int) (v6 : Int) (v7 : Int) (v8 : Int) (v9 : Int) (v10 : Int) (v11 : Int), wpX6_row_69 m_lines m_pages m_measure m_mostLeft m_mostRight m_s post n m_line v1 v2 v3 v4 v5 v6 v7 v8 v9 v10 v11 → ∀ (H : Heap) (locs : List Loc) (ls : Array Slot), va_P X.1 vwCl [(a_m, .inr (6, [.ref a_m_s, .ref a_m_past, .ref a_m_aside, .int (iI m_pasts), .ref a_m_text, .int (iI m_typed), .int (iI m_thrown), .ref a_m_line, .ref a_m_page, .int (iI m_lines), .int (iI m_pages), .int (iI m_measure), .int (iI m_mostLeft), .int (iI m_mostRight), .int (iI m_spot), .long m_h])), (a_m_s, eI X 975 m_s), (a_m_past, eI X 3900 m_past), (a_m_aside, eI X 975 m_aside), (a_m_text, eI X 200 m_text), (a_m_line, eI X 600 m_line), (a_m_page, eI X 180 m_page)] H → va_D A [(a_m, .inr (6, [.ref a_m_s, .ref a_m_past, .ref a_m_aside, .int (iI m_pasts), .ref a_m_text, .int (iI m_typed), .int (iI m_thrown), .ref a_m_line, .ref a_m_page, .int (iI m_lines), .int (iI m_pages), .int (iI m_measure), .int (iI m_mostLeft), .int (iI m_mostRight), .int (iI m_spot), .long m_h])), (a_m_s, eI X 975 m_s), (a_m_past, eI X 3900 m_past), (a_m_aside, eI X 975 m_aside), (a_m_text, eI X 200 m_text), (a_m_line, eI X 600 m_line), (a_m_page, eI X 180 m_page)] → va_S A s.heap H locs → lv_has ls 15 [(0, .ref a_m), (1, .int (iI v1)), (2, .int (iI v2)), (3, .int (iI v3)), (4, .int (iI v4)), (5, .int (iI v5)), (6, .int (iI v6)), (7, .int (iI v7)), (8, .int (iI v8)), (9, .int (iI v9)), (10, .int (iI v10)), (11, .int (iI v11))] → W p l e rmX6_row s m args below meth c H locs 0 0 Q (F0 m 69 ls []) := by
    intro  n
    induction n with
    | zero => intro m_line v1 v2 v3 v4 v5 v6 v7 v8 v9 v10 v11 h; exact h.elim
    | succ n ih =>
      intro m_line v1 v2 v3 v4 v5 v6 v7 v8 v9 v10 v11 h H locs ls hP hD hS hl
      refine lv_iload hx hb dX6_row_69 (lv_at hl 10 rfl) ?_
      refine i_if_eq (tgt := 323) hx hb h.1 dX6_row_71 (by decide) (fun c1 => ?_) (fun c1 => ?_)
      · have h := h.2.1 c1
        exact B323  m_line v1 v2 v4 v5 v6 v9 h _ _ _ hP hD hS (lv_sub hl [0, 1, 2, 4, 5, 6, 9] rfl)
      · have h := h.2.2 c1
        refine lv_iload hx hb dX6_row_74 (lv_at hl 11 rfl) ?_
        refine lv_aload_n hx hb dX6_row_76 rfl (lv_at hl 0 rfl) ?_
        refine va_get (D := X.1) (ci := 6) (C := RX6) (T := TX6) (N := 16) hx hb hts hi_X6 hown hK hP 0 rfl rfl 0 (by decide) hf_7 (fun _ h9 => h9) rfl dX6_row_77 ?_
        refine lv_bipush (v := iI 14) hx hb dX6_row_80 (by decide +kernel) ?_
        refine i_ald hx hb hK hP 1 0 rfl rfl (by decide) (by decide) rfl (Nat.le_of_ble_eq_true rfl) dX6_row_82 ?_
        refine i_cmp_ge (tgt := 323) hx hb h.1 h.2.1 dX6_row_83 (by decide) (fun c2 => ?_) (fun c2 => ?_)
        · have h := h.2.2.1 c2
          exact B323  m_line v1 v2 v4 v5 v6 v9 h _ _ _ hP hD hS (lv_sub hl [0, 1, 2, 4, 5, 6, 9] rfl)
        · have h := h.2.2.2 c2
          refine lv_iload hx hb dX6_row_86 (lv_at hl 8 rfl) ?_
          refine lv_aload_n hx hb dX6_row_88 rfl (lv_at hl 0 rfl) ?_
          refine lv_iload hx hb dX6_row_89 (lv_at hl 11 rfl) ?_
          refine e_i (isC := [0, 1, 2, 3, 4, 5, 6]) (isR := []) (wr := []) (va_runV (As := [.int (iI v11)]) (rest := [.int (iI v8)]) ⟨hx, hb, hml, hown, hts⟩ (kX6_widthOf l X a_m a_m_s a_m_past a_m_aside a_m_text a_m_line a_m_page m_pasts m_typed m_thrown m_lines m_pages m_measure m_mostLeft m_mostRight m_spot m_h m_s m_past m_aside m_text m_line m_page v11 _ h _) (cwV 1 hts gX6_row_X6_widthOf rfl rfl rfl (by decide +kernel) ⟨(Nat.le_of_ble_eq_true rfl), (Nat.le_of_ble_eq_true rfl)⟩) ⟨pre_blind, va_recv hK hP (ci := 6) (q0 := 0) rfl rfl, pre_cut hE hK hA hP hD hS (isC := [0, 1, 2, 3, 4, 5, 6]) rfl (by decide +kernel)⟩ rfl rfl hl.1 rfl (lv_room (Nat.le_of_ble_eq_true rfl)) dX6_row_91 ⟨(Nat.le_of_ble_eq_true rfl), (Nat.le_of_ble_eq_true rfl)⟩) hA hP hD hS rfl rfl (by decide +kernel) (by decide +kernel) (fun z3 u3 H locs h hP hD hS => ?_)
          have hP : va_P X.1 vwCl [(a_m, .inr (6, [.ref a_m_s, .ref a_m_past, .ref a_m_aside, .int (iI m_pasts), .ref a_m_text, .int (iI m_typed), .int (iI m_thrown), .ref a_m_line, .ref a_m_page, .int (iI m_lines), .int (iI m_pages), .int (iI m_measure), .int (iI m_mostLeft), .int (iI m_mostRight), .int (iI m_spot), .long m_h])), (a_m_s, eI X 975 m_s), (a_m_past, eI X 3900 m_past), (a_m_aside, eI X 975 m_aside), (a_m_text, eI X 200 m_text), (a_m_line, eI X 600 m_line), (a_m_page, eI X 180 m_page)] H := hP
          have hD : va_D A [(a_m, .inr (6, [.ref a_m_s, .ref a_m_past, .ref a_m_aside, .int (iI m_pasts), .ref a_m_text, .int (iI m_typed), .int (iI m_thrown), .ref a_m_line, .ref a_m_page, .int (iI m_lines), .int (iI m_pages), .int (iI m_measure), .int (iI m_mostLeft), .int (iI m_mostRight), .int (iI m_spot), .long m_h])), (a_m_s, eI X 975 m_s), (a_m_past, eI X 3900 m_past), (a_m_aside, eI X 975 m_aside), (a_m_text, eI X 200 m_text), (a_m_line, eI X 600 m_line), (a_m_page, eI X 180 m_page)] := hD
          refine lv_iload hx hb dX6_row_94 (lv_at hl 11 rfl) ?_
          refine lv_iload_n hx hb dX6_row_96 rfl (lv_at hl 1 rfl) ?_
          refine i_cmp_le (tgt := 104) hx hb h.1 h.2.1 dX6_row_97 (by decide) (fun c4 => ?_) (fun c4 => ?_)
          · have h := h.2.2.1 c4
            refine lv_iconst (v := iI 0) hx hb dX6_row_104 rfl ?_
            exact B105 (wpX6_row_69 m_lines m_pages m_measure m_mostLeft m_mostRight m_s post n) ih m_line v1 v2 v3 v4 v5 v6 v7 v9 v11 0 z3 v8 h _ _ _ hP hD hS (lv_sub hl [0, 1, 2, 3, 4, 5, 6, 7, 9, 11] rfl)
          · have h := h.2.2.2 c4
            refine lv_iconst (v := iI 2) hx hb dX6_row_100 rfl ?_
            refine lv_goto (tgt := 105) hx hb dX6_row_101 (by decide) ?_
            exact B105 (wpX6_row_69 m_lines m_pages m_measure m_mostLeft m_mostRight m_s post n) ih m_line v1 v2 v3 v4 v5 v6 v7 v9 v11 2 z3 v8 h _ _ _ hP hD hS (lv_sub hl [0, 1, 2, 3, 4, 5, 6, 7, 9, 11] rfl)
  have B29 : ∀ (m_line : Nat → Int) (v1 : Int) (v2 : Int) (v3 : Int) (v4 : Int) (w0 : Int), wpX6_row_29 m_lines m_pages m_measure m_mostLeft m_mostRight m_s post m_line v1 v2 v3 v4 w0 → ∀ (H : Heap) (locs : List Loc) (ls : Array Slot), va_P X.1 vwCl [(a_m, .inr (6, [.ref a_m_s, .ref a_m_past, .ref a_m_aside, .int (iI m_pasts), .ref a_m_text, .int (iI m_typed), .int (iI m_thrown), .ref a_m_line, .ref a_m_page, .int (iI m_lines), .int (iI m_pages), .int (iI m_measure), .int (iI m_mostLeft), .int (iI m_mostRight), .int (iI m_spot), .long m_h])), (a_m_s, eI X 975 m_s), (a_m_past, eI X 3900 m_past), (a_m_aside, eI X 975 m_aside), (a_m_text, eI X 200 m_text), (a_m_line, eI X 600 m_line), (a_m_page, eI X 180 m_page)] H → va_D A [(a_m, .inr (6, [.ref a_m_s, .ref a_m_past, .ref a_m_aside, .int (iI m_pasts), .ref a_m_text, .int (iI m_typed), .int (iI m_thrown), .ref a_m_line, .ref a_m_page, .int (iI m_lines), .int (iI m_pages), .int (iI m_measure), .int (iI m_mostLeft), .int (iI m_mostRight), .int (iI m_spot), .long m_h])), (a_m_s, eI X 975 m_s), (a_m_past, eI X 3900 m_past), (a_m_aside, eI X 975 m_aside), (a_m_text, eI X 200 m_text), (a_m_line, eI X 600 m_line), (a_m_page, eI X 180 m_page)] → va_S A s.heap H locs → lv_has ls 15 [(0, .ref a_m), (1, .int (iI v1)), (2, .int (iI v2)), (3, .int (iI v3)), (4, .int (iI v4))] → W p l e rmX6_row s m args below meth c H locs 0 0 Q (F0 m 29 ls [.int (iI w0)]) := by
    intro  m_line v1 v2 v3 v4 w0 h H locs ls hP hD hS hl
    refine lv_istore (lv' := [(5, .int (iI w0)), (0, .ref a_m), (1, .int (iI v1)), (2, .int (iI v2)), (3, .int (iI v3)), (4, .int (iI v4))]) hx hb dX6_row_29 hl (by decide) rfl (fun ls hl => ?_)
    refine lv_aload_n hx hb dX6_row_31 rfl (lv_at hl 1 rfl) ?_
    refine va_get (D := X.1) (ci := 6) (C := RX6) (T := TX6) (N := 16) hx hb hts hi_X6 hown hK hP 0 rfl rfl 11 (by decide) hf_56 (fun _ h9 => h9) rfl dX6_row_32 ?_
    refine lv_iload hx hb dX6_row_35 (lv_at hl 0 rfl) ?_
    refine i_sub hx hb dX6_row_37 ?_
    refine lv_istore (lv' := [(6, .int (iI (m_measure - w0))), (5, .int (iI w0)), (0, .ref a_m), (1, .int (iI v1)), (2, .int (iI v2)), (3, .int (iI v3)), (4, .int (iI v4))]) hx hb dX6_row_38 hl (by decide) rfl (fun ls hl => ?_)
    refine lv_aload_n hx hb dX6_row_40 rfl (lv_at hl 2 rfl) ?_
    refine lv_aload_n hx hb dX6_row_41 rfl (lv_at hl 2 rfl) ?_
    refine lv_iload_n hx hb dX6_row_42 rfl (lv_at hl 3 rfl) ?_
    refine lv_bipush (v := iI 13) hx hb dX6_row_43 (by decide +kernel) ?_
    refine e_i (isC := [0, 1, 2, 3, 4, 5, 6]) (isR := []) (wr := []) (va_runV (As := [.int (iI v1), .int (iI 13)]) (rest := [.ref a_m]) ⟨hx, hb, hml, hown, hts⟩ (kX6_of l X a_m a_m_s a_m_past a_m_aside a_m_text a_m_line a_m_page m_pasts m_typed m_thrown m_lines m_pages m_measure m_mostLeft m_mostRight m_spot m_h m_s m_past m_aside m_text m_line m_page v1 13 _ h _) (cwV 2 hts gX6_row_X6_of rfl rfl rfl (by decide +kernel) ⟨(Nat.le_of_ble_eq_true rfl), (Nat.le_of_ble_eq_true rfl)⟩) ⟨pre_blind, va_recv hK hP (ci := 6) (q0 := 0) rfl rfl, pre_cut hE hK hA hP hD hS (isC := [0, 1, 2, 3, 4, 5, 6]) rfl (by decide +kernel)⟩ rfl rfl hl.1 rfl (lv_room (Nat.le_of_ble_eq_true rfl)) dX6_row_45 ⟨(Nat.le_of_ble_eq_true rfl), (Nat.le_of_ble_eq_true rfl)⟩) hA hP hD hS rfl rfl (by decide +kernel) (by decide +kernel) (fun z1 u1 H locs h hP hD hS => ?_)
    have hP : va_P X.1 vwCl [(a_m, .inr (6, [.ref a_m_s, .ref a_m_past, .ref a_m_aside, .int (iI m_pasts), .ref a_m_text, .int (iI m_typed), .int (iI m_thrown), .ref a_m_line, .ref a_m_page, .int (iI m_lines), .int (iI m_pages), .int (iI m_measure), .int (iI m_mostLeft), .int (iI m_mostRight), .int (iI m_spot), .long m_h])), (a_m_s, eI X 975 m_s), (a_m_past, eI X 3900 m_past), (a_m_aside, eI X 975 m_aside), (a_m_text, eI X 200 m_text), (a_m_line, eI X 600 m_line), (a_m_page, eI X 180 m_page)] H := hP
    have hD : va_D A [(a_m, .inr (6, [.ref a_m_s, .ref a_m_past, .ref a_m_aside, .int (iI m_pasts), .ref a_m_text, .int (iI m_typed), .int (iI m_thrown), .ref a_m_line, .ref a_m_page, .int (iI m_lines), .int (iI m_pages), .int (iI m_measure), .int (iI m_mostLeft), .int (iI m_mostRight), .int (iI m_spot), .long m_h])), (a_m_s, eI X 975 m_s), (a_m_past, eI X 3900 m_past), (a_m_aside, eI X 975 m_aside), (a_m_text, eI X 200 m_text), (a_m_line, eI X 600 m_line), (a_m_page, eI X 180 m_page)] := hD
    refine lv_aload_n hx hb dX6_row_48 rfl (lv_at hl 2 rfl) ?_
    refine va_get (D := X.1) (ci := 6) (C := RX6) (T := TX6) (N := 16) hx hb hts hi_X6 hown hK hP 0 rfl rfl 12 (by decide) hf_59 (fun _ h9 => h9) rfl dX6_row_49 ?_
    refine e_i (isC := [0, 1, 2, 3, 4, 5, 6]) (isR := []) (wr := []) (va_runV (As := [.int (iI z1), .int (iI m_mostLeft)]) (rest := []) ⟨hx, hb, hml, hown, hts⟩ (kX6_overhang l X a_m a_m_s a_m_past a_m_aside a_m_text a_m_line a_m_page m_pasts m_typed m_thrown m_lines m_pages m_measure m_mostLeft m_mostRight m_spot m_h m_s m_past m_aside m_text m_line m_page z1 m_mostLeft _ h _) (cwV 2 hts gX6_row_X6_overhang rfl rfl rfl (by decide +kernel) ⟨(Nat.le_of_ble_eq_true rfl), (Nat.le_of_ble_eq_true rfl)⟩) ⟨pre_blind, va_recv hK hP (ci := 6) (q0 := 0) rfl rfl, pre_cut hE hK hA hP hD hS (isC := [0, 1, 2, 3, 4, 5, 6]) rfl (by decide +kernel)⟩ rfl rfl hl.1 rfl (lv_room (Nat.le_of_ble_eq_true rfl)) dX6_row_52 ⟨(Nat.le_of_ble_eq_true rfl), (Nat.le_of_ble_eq_true rfl)⟩) hA hP hD hS rfl rfl (by decide +kernel) (by decide +kernel) (fun z2 u2 H locs h hP hD hS => ?_)
    have hP : va_P X.1 vwCl [(a_m, .inr (6, [.ref a_m_s, .ref a_m_past, .ref a_m_aside, .int (iI m_pasts), .ref a_m_text, .int (iI m_typed), .int (iI m_thrown), .ref a_m_line, .ref a_m_page, .int (iI m_lines), .int (iI m_pages), .int (iI m_measure), .int (iI m_mostLeft), .int (iI m_mostRight), .int (iI m_spot), .long m_h])), (a_m_s, eI X 975 m_s), (a_m_past, eI X 3900 m_past), (a_m_aside, eI X 975 m_aside), (a_m_text, eI X 200 m_text), (a_m_line, eI X 600 m_line), (a_m_page, eI X 180 m_page)] H := hP
    have hD : va_D A [(a_m, .inr (6, [.ref a_m_s, .ref a_m_past, .ref a_m_aside, .int (iI m_pasts), .ref a_m_text, .int (iI m_typed), .int (iI m_thrown), .ref a_m_line, .ref a_m_page, .int (iI m_lines), .int (iI m_pages), .int (iI m_measure), .int (iI m_mostLeft), .int (iI m_mostRight), .int (iI m_spot), .long m_h])), (a_m_s, eI X 975 m_s), (a_m_past, eI X 3900 m_past), (a_m_aside, eI X 975 m_aside), (a_m_text, eI X 200 m_text), (a_m_line, eI X 600 m_line), (a_m_page, eI X 180 m_page)] := hD
    refine lv_istore (lv' := [(7, .int (iI z2)), (6, .int (iI (m_measure - w0))), (5, .int (iI w0)), (0, .ref a_m), (1, .int (iI v1)), (2, .int (iI v2)), (3, .int (iI v3)), (4, .int (iI v4))]) hx hb dX6_row_55 hl (by decide) rfl (fun ls hl => ?_)
    refine lv_iconst (v := iI 0) hx hb dX6_row_57 rfl ?_
    refine lv_istore (lv' := [(8, .int (iI 0)), (7, .int (iI z2)), (6, .int (iI (m_measure - w0))), (5, .int (iI w0)), (0, .ref a_m), (1, .int (iI v1)), (2, .int (iI v2)), (3, .int (iI v3)), (4, .int (iI v4))]) hx hb dX6_row_58 hl (by decide) rfl (fun ls hl => ?_)
    refine lv_iconst (v := iI 0) hx hb dX6_row_60 rfl ?_
    refine lv_istore (lv' := [(9, .int (iI 0)), (8, .int (iI 0)), (7, .int (iI z2)), (6, .int (iI (m_measure - w0))), (5, .int (iI w0)), (0, .ref a_m), (1, .int (iI v1)), (2, .int (iI v2)), (3, .int (iI v3)), (4, .int (iI v4))]) hx hb dX6_row_61 hl (by decide) rfl (fun ls hl => ?_)
    refine lv_iconst (v := iI 1) hx hb dX6_row_63 rfl ?_
    refine lv_istore (lv' := [(10, .int (iI 1)), (9, .int (iI 0)), (8, .int (iI 0)), (7, .int (iI z2)), (6, .int (iI (m_measure - w0))), (5, .int (iI w0)), (0, .ref a_m), (1, .int (iI v1)), (2, .int (iI v2)), (3, .int (iI v3)), (4, .int (iI v4))]) hx hb dX6_row_64 hl (by decide) rfl (fun ls hl => ?_)
    refine lv_iload_n hx hb dX6_row_66 rfl (lv_at hl 7 rfl) ?_
    refine lv_istore (lv' := [(11, .int (iI v1)), (10, .int (iI 1)), (9, .int (iI 0)), (8, .int (iI 0)), (7, .int (iI z2)), (6, .int (iI (m_measure - w0))), (5, .int (iI w0)), (0, .ref a_m), (1, .int (iI v1)), (2, .int (iI v2)), (3, .int (iI v3)), (4, .int (iI v4))]) hx hb dX6_row_67 hl (by decide) rfl (fun ls hl => ?_)
    obtain ⟨n3, h⟩ := h
    exact B69  n3 m_line v1 v2 v3 v4 w0 (m_measure - w0) z2 0 0 1 v1 h _ _ _ hP hD hS (lv_sub hl [7, 8, 9, 10, 11, 6, 5, 4, 3, 2, 1, 0] rfl)
  refine lv_bipush (v := iI 10) hx hb dX6_row_0 (by decide +kernel) ?_
  refine lv_aload_n hx hb dX6_row_2 rfl (lv_at hl 0 rfl) ?_
  refine va_get (D := X.1) (ci := 6) (C := RX6) (T := TX6) (N := 16) hx hb hts hi_X6 hown hK hP 0 rfl rfl 9 (by decide) hf_53 (fun _ h9 => h9) rfl dX6_row_3 ?_
  refine i_mul hx hb dX6_row_6 ?_
  refine lv_istore (lv' := [(4, .int (iI (10 * m_lines))), (0, .ref a_m), (1, .int (iI p1)), (2, .int (iI p2)), (3, .int (iI p3))]) hx hb dX6_row_7 hl (by decide) rfl (fun ls hl => ?_)
  refine lv_iload_n hx hb dX6_row_9 rfl (lv_at hl 3 rfl) ?_
  refine lv_aload_n hx hb dX6_row_10 rfl (lv_at hl 1 rfl) ?_
  refine va_get (D := X.1) (ci := 6) (C := RX6) (T := TX6) (N := 16) hx hb hts hi_X6 hown hK hP 0 rfl rfl 0 (by decide) hf_7 (fun _ h9 => h9) rfl dX6_row_11 ?_
  refine lv_iconst (v := iI 4) hx hb dX6_row_14 rfl ?_
  refine i_ald hx hb hK hP 1 0 rfl rfl (by decide) (by decide) rfl (Nat.le_of_ble_eq_true rfl) dX6_row_15 ?_
  refine i_cmp_ge (tgt := 23) hx hb h.1 h.2.1 dX6_row_16 (by decide) (fun c1 => ?_) (fun c1 => ?_)
  · have h := h.2.2.1 c1
    refine lv_aload_n hx hb dX6_row_23 rfl (lv_at hl 1 rfl) ?_
    refine va_get (D := X.1) (ci := 6) (C := RX6) (T := TX6) (N := 16) hx hb hts hi_X6 hown hK hP 0 rfl rfl 0 (by decide) hf_7 (fun _ h9 => h9) rfl dX6_row_24 ?_
    refine lv_iconst (v := iI 4) hx hb dX6_row_27 rfl ?_
    refine i_ald hx hb hK hP 1 0 rfl rfl (by decide) (by decide) rfl (Nat.le_of_ble_eq_true rfl) dX6_row_28 ?_
    exact B29  m_line p1 p2 p3 (10 * m_lines) (m_s 4) h _ _ _ hP hD hS (lv_sub hl [1, 2, 3, 4, 0] rfl)
  · have h := h.2.2.2 c1
    refine lv_iload_n hx hb dX6_row_19 rfl (lv_at hl 3 rfl) ?_
    refine lv_goto (tgt := 29) hx hb dX6_row_20 (by decide) ?_
    exact B29  m_line p1 p2 p3 (10 * m_lines) p2 h _ _ _ hP hD hS (lv_sub hl [1, 2, 3, 4, 0] rfl)
abbrev rmX6_setPage : Room := { frames := 3, cells := 0, slots := 0, locals := 79 }
set_option maxHeartbeats 4000000 in
set_option maxRecDepth 100000 in
theorem kX6_setPage (l : Launch) (X : XD) (a_m a_m_s a_m_past a_m_aside a_m_text a_m_line a_m_page : Nat) (m_pasts : Int) (m_typed : Int) (m_thrown : Int) (m_lines : Int) (m_pages : Int) (m_measure : Int) (m_mostLeft : Int) (m_mostRight : Int) (m_spot : Int) (m_h : Int64) (m_s : Nat → Int) (m_past : Nat → Int) (m_aside : Nat → Int) (m_text : Nat → Int) (m_line : Nat → Int) (m_page : Nat → Int) (p1 : Int) (post : Int → Int → Int → (Nat → Int) → (Nat → Int) → Prop) (h : wpX6_setPage m_lines m_pages m_measure m_mostLeft m_mostRight m_s m_line m_page p1 post) : MCi l yX6_setPage wsX6_setPage rmX6_setPage X [.ref a_m, .int (iI p1)] [(a_m, .inr (6, [.ref a_m_s, .ref a_m_past, .ref a_m_aside, .int (iI m_pasts), .ref a_m_text, .int (iI m_typed), .int (iI m_thrown), .ref a_m_line, .ref a_m_page, .int (iI m_lines), .int (iI m_pages), .int (iI m_measure), .int (iI m_mostLeft), .int (iI m_mostRight), .int (iI m_spot), .long m_h])), (a_m_s, eI X 975 m_s), (a_m_past, eI X 3900 m_past), (a_m_aside, eI X 975 m_aside), (a_m_text, eI X 200 m_text), (a_m_line, eI X 600 m_line), (a_m_page, eI X 180 m_page)] (S := Int × Int × (Nat → Int) × (Nat → Int)) (fun u => [(a_m, .inr (6, [.ref a_m_s, .ref a_m_past, .ref a_m_aside, .int (iI m_pasts), .ref a_m_text, .int (iI m_typed), .int (iI m_thrown), .ref a_m_line, .ref a_m_page, .int (iI u.1), .int (iI u.2.1), .int (iI m_measure), .int (iI m_mostLeft), .int (iI m_mostRight), .int (iI m_spot), .long m_h])), (a_m_s, eI X 975 m_s), (a_m_past, eI X 3900 m_past), (a_m_aside, eI X 975 m_aside), (a_m_text, eI X 200 m_text), (a_m_line, eI X 600 u.2.2.1), (a_m_page, eI X 180 u.2.2.2)]) (fun z u => post z u.1 u.2.1 u.2.2.1 u.2.2.2) 0 0 := by
  refine MCi.of (cc := cX6_setPage) (maxL := 8) (by decide +kernel) rfl rfl ?_
  intro p e s m args below meth c A ls Q hE0 hP hD hS hl hend
  obtain ⟨hx, hb, hr, hml, hlocks, hown, hts, hK, hE, hA, hnm⟩ := hE0
  have hl : lv_has ls 8 [(0, .ref a_m), (1, .int (iI p1))] := hl
  have hi_X6 : ∀ w ∈ wsX60, w ∈ wsX6_setPage := by decide +kernel
  have hf_7 := hts (.fieldLink RX6 7 "LentMarginsModel" "s" "[I") (by decide +kernel)
  have hf_22 := hts (.fieldLink RX6 22 "LentMarginsModel" "line" "[I") (by decide +kernel)
  have hf_25 := hts (.fieldLink RX6 25 "LentMarginsModel" "page" "[I") (by decide +kernel)
  have hf_53 := hts (.fieldLink RX6 53 "LentMarginsModel" "lines" "I") (by decide +kernel)
  have hf_71 := hts (.fieldLink RX6 71 "LentMarginsModel" "pages" "I") (by decide +kernel)
  have B234 : ∀ (m_lines : Int) (m_pages : Int) (m_line : Nat → Int) (m_page : Nat → Int) (v2 : Int) (v6 : Int) (w0 : Int) (w1 : Int), wpX6_setPage_234 m_measure m_mostLeft m_mostRight m_s post m_lines m_pages m_line m_page v2 v6 w0 w1 → ∀ (H : Heap) (locs : List Loc) (ls : Array Slot), va_P X.1 vwCl [(a_m, .inr (6, [.ref a_m_s, .ref a_m_past, .ref a_m_aside, .int (iI m_pasts), .ref a_m_text, .int (iI m_typed), .int (iI m_thrown), .ref a_m_line, .ref a_m_page, .int (iI m_lines), .int (iI m_pages), .int (iI m_measure), .int (iI m_mostLeft), .int (iI m_mostRight), .int (iI m_spot), .long m_h])), (a_m_s, eI X 975 m_s), (a_m_past, eI X 3900 m_past), (a_m_aside, eI X 975 m_aside), (a_m_text, eI X 200 m_text), (a_m_line, eI X 600 m_line), (a_m_page, eI X 180 m_page)] H → va_D A [(a_m, .inr (6, [.ref a_m_s, .ref a_m_past, .ref a_m_aside, .int (iI m_pasts), .ref a_m_text, .int (iI m_typed), .int (iI m_thrown), .ref a_m_line, .ref a_m_page, .int (iI m_lines), .int (iI m_pages), .int (iI m_measure), .int (iI m_mostLeft), .int (iI m_mostRight), .int (iI m_spot), .long m_h])), (a_m_s, eI X 975 m_s), (a_m_past, eI X 3900 m_past), (a_m_aside, eI X 975 m_aside), (a_m_text, eI X 200 m_text), (a_m_line, eI X 600 m_line), (a_m_page, eI X 180 m_page)] → va_S A s.heap H locs → lv_has ls 8 [(0, .ref a_m), (2, .int (iI v2)), (6, .int (iI v6))] → W p l e rmX6_setPage s m args below meth c H locs 0 0 Q (F0 m 234 ls [.int (iI w0), .int (iI w1), .ref a_m_page]) := by
    intro  m_lines m_pages m_line m_page v2 v6 w0 w1 h H locs ls hP hD hS hl
    refine i_ast hx hb hK hP hD hS 6 0 rfl rfl h.1 h.2.1 rfl (Nat.le_of_ble_eq_true rfl) dX6_setPage_234 (fun H locs hP hD hS => ?_)
    have hP : va_P X.1 vwCl [(a_m, .inr (6, [.ref a_m_s, .ref a_m_past, .ref a_m_aside, .int (iI m_pasts), .ref a_m_text, .int (iI m_typed), .int (iI m_thrown), .ref a_m_line, .ref a_m_page, .int (iI m_lines), .int (iI m_pages), .int (iI m_measure), .int (iI m_mostLeft), .int (iI m_mostRight), .int (iI m_spot), .long m_h])), (a_m_s, eI X 975 m_s), (a_m_past, eI X 3900 m_past), (a_m_aside, eI X 975 m_aside), (a_m_text, eI X 200 m_text), (a_m_line, eI X 600 m_line), (a_m_page, eI X 180 (updI m_page (w1).toNat w0))] H := hP
    have hD : va_D A [(a_m, .inr (6, [.ref a_m_s, .ref a_m_past, .ref a_m_aside, .int (iI m_pasts), .ref a_m_text, .int (iI m_typed), .int (iI m_thrown), .ref a_m_line, .ref a_m_page, .int (iI m_lines), .int (iI m_pages), .int (iI m_measure), .int (iI m_mostLeft), .int (iI m_mostRight), .int (iI m_spot), .long m_h])), (a_m_s, eI X 975 m_s), (a_m_past, eI X 3900 m_past), (a_m_aside, eI X 975 m_aside), (a_m_text, eI X 200 m_text), (a_m_line, eI X 600 m_line), (a_m_page, eI X 180 (updI m_page (w1).toNat w0))] := hD
    have h := h.2.2
    refine lv_aload_n hx hb dX6_setPage_235 rfl (lv_at hl 0 rfl) ?_
    refine lv_dup hx hb dX6_setPage_236 rfl ?_
    refine va_get (D := X.1) (ci := 6) (C := RX6) (T := TX6) (N := 16) hx hb hts hi_X6 hown hK hP 0 rfl rfl 10 (by decide) hf_71 (fun _ h9 => h9) rfl dX6_setPage_237 ?_
    refine lv_iconst (v := iI 1) hx hb dX6_setPage_240 rfl ?_
    refine i_add hx hb dX6_setPage_241 ?_
    refine va_put (D := X.1) (ci := 6) (v := .int (iI (m_pages + 1))) (ty := .int) (C := RX6) (T := TX6) (N := 16) hx hb hts hi_X6 tyX6 tyX6_ok nmX6 hown hK hP hD hS 0 rfl rfl 10 (by decide) hf_71 (fun _ h9 => h9) rfl (by decide +kernel) rfl rfl (Nat.le_of_ble_eq_true rfl) dX6_setPage_242 (fun H locs hP hD hS => ?_)
    have hP : va_P X.1 vwCl [(a_m, .inr (6, [.ref a_m_s, .ref a_m_past, .ref a_m_aside, .int (iI m_pasts), .ref a_m_text, .int (iI m_typed), .int (iI m_thrown), .ref a_m_line, .ref a_m_page, .int (iI m_lines), .int (iI (m_pages + 1)), .int (iI m_measure), .int (iI m_mostLeft), .int (iI m_mostRight), .int (iI m_spot), .long m_h])), (a_m_s, eI X 975 m_s), (a_m_past, eI X 3900 m_past), (a_m_aside, eI X 975 m_aside), (a_m_text, eI X 200 m_text), (a_m_line, eI X 600 m_line), (a_m_page, eI X 180 (updI m_page (w1).toNat w0))] H := hP
    have hD : va_D A [(a_m, .inr (6, [.ref a_m_s, .ref a_m_past, .ref a_m_aside, .int (iI m_pasts), .ref a_m_text, .int (iI m_typed), .int (iI m_thrown), .ref a_m_line, .ref a_m_page, .int (iI m_lines), .int (iI (m_pages + 1)), .int (iI m_measure), .int (iI m_mostLeft), .int (iI m_mostRight), .int (iI m_spot), .long m_h])), (a_m_s, eI X 975 m_s), (a_m_past, eI X 3900 m_past), (a_m_aside, eI X 975 m_aside), (a_m_text, eI X 200 m_text), (a_m_line, eI X 600 m_line), (a_m_page, eI X 180 (updI m_page (w1).toNat w0))] := hD
    refine lv_iload hx hb dX6_setPage_245 (lv_at hl 2 rfl) ?_
    refine i_if_eq (tgt := 267) hx hb h.1 dX6_setPage_247 (by decide) (fun c1 => ?_) (fun c1 => ?_)
    · have h := h.2.1 c1
      refine lv_iload_n hx hb dX6_setPage_267 rfl (lv_at hl 1 rfl) ?_
      exact hend _ _ _ _ _ _ v2 (m_lines, (m_pages + 1), m_line, (updI m_page (w1).toNat w0)) hP hD hS h (Nat.le_of_ble_eq_true rfl) (Nat.le_of_ble_eq_true rfl) dX6_setPage_268
    · have h := h.2.2 c1
      refine lv_aload_n hx hb dX6_setPage_250 rfl (lv_at hl 0 rfl) ?_
      refine va_get (D := X.1) (ci := 6) (C := RX6) (T := TX6) (N := 16) hx hb hts hi_X6 hown hK hP 0 rfl rfl 7 (by decide) hf_22 (fun _ h9 => h9) rfl dX6_setPage_251 ?_
      refine lv_bipush (v := iI 10) hx hb dX6_setPage_254 (by decide +kernel) ?_
      refine lv_aload_n hx hb dX6_setPage_256 rfl (lv_at hl 0 rfl) ?_
      refine va_get (D := X.1) (ci := 6) (C := RX6) (T := TX6) (N := 16) hx hb hts hi_X6 hown hK hP 0 rfl rfl 9 (by decide) hf_53 (fun _ h9 => h9) rfl dX6_setPage_257 ?_
      refine i_mul hx hb dX6_setPage_260 ?_
      refine lv_iconst (v := iI 1) hx hb dX6_setPage_261 rfl ?_
      refine i_add hx hb dX6_setPage_262 ?_
      refine i_ald hx hb hK hP 5 0 rfl rfl h.1 h.2.1 rfl (Nat.le_of_ble_eq_true rfl) dX6_setPage_263 ?_
      have h := h.2.2
      refine lv_goto (tgt := 268) hx hb dX6_setPage_264 (by decide) ?_
      exact hend _ _ _ _ _ _ (m_line ((10 * m_lines) + 1).toNat) (m_lines, (m_pages + 1), m_line, (updI m_page (w1).toNat w0)) hP hD hS h (Nat.le_of_ble_eq_true rfl) (Nat.le_of_ble_eq_true rfl) dX6_setPage_268
  have B175 : ∀ (m_lines : Int) (m_pages : Int) (m_line : Nat → Int) (m_page : Nat → Int) (v2 : Int) (v5 : Int) (v6 : Int) (w0 : Int) (w1 : Int), wpX6_setPage_175 m_measure m_mostLeft m_mostRight m_s post m_lines m_pages m_line m_page v2 v5 v6 w0 w1 → ∀ (H : Heap) (locs : List Loc) (ls : Array Slot), va_P X.1 vwCl [(a_m, .inr (6, [.ref a_m_s, .ref a_m_past, .ref a_m_aside, .int (iI m_pasts), .ref a_m_text, .int (iI m_typed), .int (iI m_thrown), .ref a_m_line, .ref a_m_page, .int (iI m_lines), .int (iI m_pages), .int (iI m_measure), .int (iI m_mostLeft), .int (iI m_mostRight), .int (iI m_spot), .long m_h])), (a_m_s, eI X 975 m_s), (a_m_past, eI X 3900 m_past), (a_m_aside, eI X 975 m_aside), (a_m_text, eI X 200 m_text), (a_m_line, eI X 600 m_line), (a_m_page, eI X 180 m_page)] H → va_D A [(a_m, .inr (6, [.ref a_m_s, .ref a_m_past, .ref a_m_aside, .int (iI m_pasts), .ref a_m_text, .int (iI m_typed), .int (iI m_thrown), .ref a_m_line, .ref a_m_page, .int (iI m_lines), .int (iI m_pages), .int (iI m_measure), .int (iI m_mostLeft), .int (iI m_mostRight), .int (iI m_spot), .long m_h])), (a_m_s, eI X 975 m_s), (a_m_past, eI X 3900 m_past), (a_m_aside, eI X 975 m_aside), (a_m_text, eI X 200 m_text), (a_m_line, eI X 600 m_line), (a_m_page, eI X 180 m_page)] → va_S A s.heap H locs → lv_has ls 8 [(0, .ref a_m), (2, .int (iI v2)), (5, .int (iI v5)), (6, .int (iI v6))] → W p l e rmX6_setPage s m args below meth c H locs 0 0 Q (F0 m 175 ls [.int (iI w0), .int (iI w1), .ref a_m]) := by
    intro  m_lines m_pages m_line m_page v2 v5 v6 w0 w1 h H locs ls hP hD hS hl
    refine i_sub hx hb dX6_setPage_175 ?_
    refine va_put (D := X.1) (ci := 6) (v := .int (iI (w1 - w0))) (ty := .int) (C := RX6) (T := TX6) (N := 16) hx hb hts hi_X6 tyX6 tyX6_ok nmX6 hown hK hP hD hS 0 rfl rfl 9 (by decide) hf_53 (fun _ h9 => h9) rfl (by decide +kernel) rfl rfl (Nat.le_of_ble_eq_true rfl) dX6_setPage_176 (fun H locs hP hD hS => ?_)
    have hP : va_P X.1 vwCl [(a_m, .inr (6, [.ref a_m_s, .ref a_m_past, .ref a_m_aside, .int (iI m_pasts), .ref a_m_text, .int (iI m_typed), .int (iI m_thrown), .ref a_m_line, .ref a_m_page, .int (iI (w1 - w0)), .int (iI m_pages), .int (iI m_measure), .int (iI m_mostLeft), .int (iI m_mostRight), .int (iI m_spot), .long m_h])), (a_m_s, eI X 975 m_s), (a_m_past, eI X 3900 m_past), (a_m_aside, eI X 975 m_aside), (a_m_text, eI X 200 m_text), (a_m_line, eI X 600 m_line), (a_m_page, eI X 180 m_page)] H := hP
    have hD : va_D A [(a_m, .inr (6, [.ref a_m_s, .ref a_m_past, .ref a_m_aside, .int (iI m_pasts), .ref a_m_text, .int (iI m_typed), .int (iI m_thrown), .ref a_m_line, .ref a_m_page, .int (iI (w1 - w0)), .int (iI m_pages), .int (iI m_measure), .int (iI m_mostLeft), .int (iI m_mostRight), .int (iI m_spot), .long m_h])), (a_m_s, eI X 975 m_s), (a_m_past, eI X 3900 m_past), (a_m_aside, eI X 975 m_aside), (a_m_text, eI X 200 m_text), (a_m_line, eI X 600 m_line), (a_m_page, eI X 180 m_page)] := hD
    refine lv_aload_n hx hb dX6_setPage_179 rfl (lv_at hl 0 rfl) ?_
    refine va_get (D := X.1) (ci := 6) (C := RX6) (T := TX6) (N := 16) hx hb hts hi_X6 hown hK hP 0 rfl rfl 8 (by decide) hf_25 (fun _ h9 => h9) rfl dX6_setPage_180 ?_
    refine lv_iconst (v := iI 3) hx hb dX6_setPage_183 rfl ?_
    refine lv_aload_n hx hb dX6_setPage_184 rfl (lv_at hl 0 rfl) ?_
    refine va_get (D := X.1) (ci := 6) (C := RX6) (T := TX6) (N := 16) hx hb hts hi_X6 hown hK hP 0 rfl rfl 10 (by decide) hf_71 (fun _ h9 => h9) rfl dX6_setPage_185 ?_
    refine i_mul hx hb dX6_setPage_188 ?_
    refine lv_iload hx hb dX6_setPage_189 (lv_at hl 2 rfl) ?_
    refine i_ast hx hb hK hP hD hS 6 0 rfl rfl h.1 h.2.1 rfl (Nat.le_of_ble_eq_true rfl) dX6_setPage_191 (fun H locs hP hD hS => ?_)
    have hP : va_P X.1 vwCl [(a_m, .inr (6, [.ref a_m_s, .ref a_m_past, .ref a_m_aside, .int (iI m_pasts), .ref a_m_text, .int (iI m_typed), .int (iI m_thrown), .ref a_m_line, .ref a_m_page, .int (iI (w1 - w0)), .int (iI m_pages), .int (iI m_measure), .int (iI m_mostLeft), .int (iI m_mostRight), .int (iI m_spot), .long m_h])), (a_m_s, eI X 975 m_s), (a_m_past, eI X 3900 m_past), (a_m_aside, eI X 975 m_aside), (a_m_text, eI X 200 m_text), (a_m_line, eI X 600 m_line), (a_m_page, eI X 180 (updI m_page (3 * m_pages).toNat v5))] H := hP
    have hD : va_D A [(a_m, .inr (6, [.ref a_m_s, .ref a_m_past, .ref a_m_aside, .int (iI m_pasts), .ref a_m_text, .int (iI m_typed), .int (iI m_thrown), .ref a_m_line, .ref a_m_page, .int (iI (w1 - w0)), .int (iI m_pages), .int (iI m_measure), .int (iI m_mostLeft), .int (iI m_mostRight), .int (iI m_spot), .long m_h])), (a_m_s, eI X 975 m_s), (a_m_past, eI X 3900 m_past), (a_m_aside, eI X 975 m_aside), (a_m_text, eI X 200 m_text), (a_m_line, eI X 600 m_line), (a_m_page, eI X 180 (updI m_page (3 * m_pages).toNat v5))] := hD
    have h := h.2.2
    refine lv_aload_n hx hb dX6_setPage_192 rfl (lv_at hl 0 rfl) ?_
    refine va_get (D := X.1) (ci := 6) (C := RX6) (T := TX6) (N := 16) hx hb hts hi_X6 hown hK hP 0 rfl rfl 8 (by decide) hf_25 (fun _ h9 => h9) rfl dX6_setPage_193 ?_
    refine lv_iconst (v := iI 3) hx hb dX6_setPage_196 rfl ?_
    refine lv_aload_n hx hb dX6_setPage_197 rfl (lv_at hl 0 rfl) ?_
    refine va_get (D := X.1) (ci := 6) (C := RX6) (T := TX6) (N := 16) hx hb hts hi_X6 hown hK hP 0 rfl rfl 10 (by decide) hf_71 (fun _ h9 => h9) rfl dX6_setPage_198 ?_
    refine i_mul hx hb dX6_setPage_201 ?_
    refine lv_iconst (v := iI 1) hx hb dX6_setPage_202 rfl ?_
    refine i_add hx hb dX6_setPage_203 ?_
    refine lv_aload_n hx hb dX6_setPage_204 rfl (lv_at hl 0 rfl) ?_
    refine va_get (D := X.1) (ci := 6) (C := RX6) (T := TX6) (N := 16) hx hb hts hi_X6 hown hK hP 0 rfl rfl 9 (by decide) hf_53 (fun _ h9 => h9) rfl dX6_setPage_205 ?_
    refine lv_iload hx hb dX6_setPage_208 (lv_at hl 2 rfl) ?_
    refine i_sub hx hb dX6_setPage_210 ?_
    refine i_ast hx hb hK hP hD hS 6 0 rfl rfl h.1 h.2.1 rfl (Nat.le_of_ble_eq_true rfl) dX6_setPage_211 (fun H locs hP hD hS => ?_)
    have hP : va_P X.1 vwCl [(a_m, .inr (6, [.ref a_m_s, .ref a_m_past, .ref a_m_aside, .int (iI m_pasts), .ref a_m_text, .int (iI m_typed), .int (iI m_thrown), .ref a_m_line, .ref a_m_page, .int (iI (w1 - w0)), .int (iI m_pages), .int (iI m_measure), .int (iI m_mostLeft), .int (iI m_mostRight), .int (iI m_spot), .long m_h])), (a_m_s, eI X 975 m_s), (a_m_past, eI X 3900 m_past), (a_m_aside, eI X 975 m_aside), (a_m_text, eI X 200 m_text), (a_m_line, eI X 600 m_line), (a_m_page, eI X 180 (updI (updI m_page (3 * m_pages).toNat v5) ((3 * m_pages) + 1).toNat ((w1 - w0) - v5)))] H := hP
    have hD : va_D A [(a_m, .inr (6, [.ref a_m_s, .ref a_m_past, .ref a_m_aside, .int (iI m_pasts), .ref a_m_text, .int (iI m_typed), .int (iI m_thrown), .ref a_m_line, .ref a_m_page, .int (iI (w1 - w0)), .int (iI m_pages), .int (iI m_measure), .int (iI m_mostLeft), .int (iI m_mostRight), .int (iI m_spot), .long m_h])), (a_m_s, eI X 975 m_s), (a_m_past, eI X 3900 m_past), (a_m_aside, eI X 975 m_aside), (a_m_text, eI X 200 m_text), (a_m_line, eI X 600 m_line), (a_m_page, eI X 180 (updI (updI m_page (3 * m_pages).toNat v5) ((3 * m_pages) + 1).toNat ((w1 - w0) - v5)))] := hD
    have h := h.2.2
    refine lv_aload_n hx hb dX6_setPage_212 rfl (lv_at hl 0 rfl) ?_
    refine va_get (D := X.1) (ci := 6) (C := RX6) (T := TX6) (N := 16) hx hb hts hi_X6 hown hK hP 0 rfl rfl 8 (by decide) hf_25 (fun _ h9 => h9) rfl dX6_setPage_213 ?_
    refine lv_iconst (v := iI 3) hx hb dX6_setPage_216 rfl ?_
    refine lv_aload_n hx hb dX6_setPage_217 rfl (lv_at hl 0 rfl) ?_
    refine va_get (D := X.1) (ci := 6) (C := RX6) (T := TX6) (N := 16) hx hb hts hi_X6 hown hK hP 0 rfl rfl 10 (by decide) hf_71 (fun _ h9 => h9) rfl dX6_setPage_218 ?_
    refine i_mul hx hb dX6_setPage_221 ?_
    refine lv_iconst (v := iI 2) hx hb dX6_setPage_222 rfl ?_
    refine i_add hx hb dX6_setPage_223 ?_
    refine lv_iload hx hb dX6_setPage_224 (lv_at hl 3 rfl) ?_
    refine i_if_eq (tgt := 233) hx hb h.1 dX6_setPage_226 (by decide) (fun c1 => ?_) (fun c1 => ?_)
    · have h := h.2.1 c1
      refine lv_iconst (v := iI 0) hx hb dX6_setPage_233 rfl ?_
      exact B234  (w1 - w0) m_pages m_line (updI (updI m_page (3 * m_pages).toNat v5) ((3 * m_pages) + 1).toNat ((w1 - w0) - v5)) v2 v6 0 ((3 * m_pages) + 2) h _ _ _ hP hD hS (lv_sub hl [0, 1, 3] rfl)
    · have h := h.2.2 c1
      refine lv_iconst (v := iI 1) hx hb dX6_setPage_229 rfl ?_
      refine lv_goto (tgt := 234) hx hb dX6_setPage_230 (by decide) ?_
      exact B234  (w1 - w0) m_pages m_line (updI (updI m_page (3 * m_pages).toNat v5) ((3 * m_pages) + 1).toNat ((w1 - w0) - v5)) v2 v6 1 ((3 * m_pages) + 2) h _ _ _ hP hD hS (lv_sub hl [0, 1, 3] rfl)
  have B160 : ∀ (m_lines : Int) (m_pages : Int) (m_line : Nat → Int) (m_page : Nat → Int) (v2 : Int) (v5 : Int) (v6 : Int), wpX6_setPage_160 m_measure m_mostLeft m_mostRight m_s post m_lines m_pages m_line m_page v2 v5 v6 → ∀ (H : Heap) (locs : List Loc) (ls : Array Slot), va_P X.1 vwCl [(a_m, .inr (6, [.ref a_m_s, .ref a_m_past, .ref a_m_aside, .int (iI m_pasts), .ref a_m_text, .int (iI m_typed), .int (iI m_thrown), .ref a_m_line, .ref a_m_page, .int (iI m_lines), .int (iI m_pages), .int (iI m_measure), .int (iI m_mostLeft), .int (iI m_mostRight), .int (iI m_spot), .long m_h])), (a_m_s, eI X 975 m_s), (a_m_past, eI X 3900 m_past), (a_m_aside, eI X 975 m_aside), (a_m_text, eI X 200 m_text), (a_m_line, eI X 600 m_line), (a_m_page, eI X 180 m_page)] H → va_D A [(a_m, .inr (6, [.ref a_m_s, .ref a_m_past, .ref a_m_aside, .int (iI m_pasts), .ref a_m_text, .int (iI m_typed), .int (iI m_thrown), .ref a_m_line, .ref a_m_page, .int (iI m_lines), .int (iI m_pages), .int (iI m_measure), .int (iI m_mostLeft), .int (iI m_mostRight), .int (iI m_spot), .long m_h])), (a_m_s, eI X 975 m_s), (a_m_past, eI X 3900 m_past), (a_m_aside, eI X 975 m_aside), (a_m_text, eI X 200 m_text), (a_m_line, eI X 600 m_line), (a_m_page, eI X 180 m_page)] → va_S A s.heap H locs → lv_has ls 8 [(0, .ref a_m), (2, .int (iI v2)), (5, .int (iI v5)), (6, .int (iI v6))] → W p l e rmX6_setPage s m args below meth c H locs 0 0 Q (F0 m 160 ls []) := by
    intro  m_lines m_pages m_line m_page v2 v5 v6 h H locs ls hP hD hS hl
    refine lv_aload_n hx hb dX6_setPage_160 rfl (lv_at hl 0 rfl) ?_
    refine lv_dup hx hb dX6_setPage_161 rfl ?_
    refine va_get (D := X.1) (ci := 6) (C := RX6) (T := TX6) (N := 16) hx hb hts hi_X6 hown hK hP 0 rfl rfl 9 (by decide) hf_53 (fun _ h9 => h9) rfl dX6_setPage_162 ?_
    refine lv_iload hx hb dX6_setPage_165 (lv_at hl 3 rfl) ?_
    refine i_if_eq (tgt := 174) hx hb h.1 dX6_setPage_167 (by decide) (fun c1 => ?_) (fun c1 => ?_)
    · have h := h.2.1 c1
      refine lv_iconst (v := iI 0) hx hb dX6_setPage_174 rfl ?_
      exact B175  m_lines m_pages m_line m_page v2 v5 v6 0 m_lines h _ _ _ hP hD hS (lv_sub hl [0, 1, 2, 3] rfl)
    · have h := h.2.2 c1
      refine lv_iconst (v := iI 1) hx hb dX6_setPage_170 rfl ?_
      refine lv_goto (tgt := 175) hx hb dX6_setPage_171 (by decide) ?_
      exact B175  m_lines m_pages m_line m_page v2 v5 v6 1 m_lines h _ _ _ hP hD hS (lv_sub hl [0, 1, 2, 3] rfl)
  have B87 : ∀ (m_lines : Int) (m_pages : Int) (m_line : Nat → Int) (m_page : Nat → Int) (v2 : Int) (v4 : Int) (v5 : Int), wpX6_setPage_87 m_measure m_mostLeft m_mostRight m_s post m_lines m_pages m_line m_page v2 v4 v5 → ∀ (H : Heap) (locs : List Loc) (ls : Array Slot), va_P X.1 vwCl [(a_m, .inr (6, [.ref a_m_s, .ref a_m_past, .ref a_m_aside, .int (iI m_pasts), .ref a_m_text, .int (iI m_typed), .int (iI m_thrown), .ref a_m_line, .ref a_m_page, .int (iI m_lines), .int (iI m_pages), .int (iI m_measure), .int (iI m_mostLeft), .int (iI m_mostRight), .int (iI m_spot), .long m_h])), (a_m_s, eI X 975 m_s), (a_m_past, eI X 3900 m_past), (a_m_aside, eI X 975 m_aside), (a_m_text, eI X 200 m_text), (a_m_line, eI X 600 m_line), (a_m_page, eI X 180 m_page)] H → va_D A [(a_m, .inr (6, [.ref a_m_s, .ref a_m_past, .ref a_m_aside, .int (iI m_pasts), .ref a_m_text, .int (iI m_typed), .int (iI m_thrown), .ref a_m_line, .ref a_m_page, .int (iI m_lines), .int (iI m_pages), .int (iI m_measure), .int (iI m_mostLeft), .int (iI m_mostRight), .int (iI m_spot), .long m_h])), (a_m_s, eI X 975 m_s), (a_m_past, eI X 3900 m_past), (a_m_aside, eI X 975 m_aside), (a_m_text, eI X 200 m_text), (a_m_line, eI X 600 m_line), (a_m_page, eI X 180 m_page)] → va_S A s.heap H locs → lv_has ls 8 [(0, .ref a_m), (2, .int (iI v2)), (4, .int (iI v4)), (5, .int (iI v5))] → W p l e rmX6_setPage s m args below meth c H locs 0 0 Q (F0 m 87 ls []) := by
    intro  m_lines m_pages m_line m_page v2 v4 v5 h H locs ls hP hD hS hl
    refine lv_iconst (v := iI 0) hx hb dX6_setPage_87 rfl ?_
    refine lv_istore (lv' := [(6, .int (iI 0)), (0, .ref a_m), (2, .int (iI v2)), (4, .int (iI v4)), (5, .int (iI v5))]) hx hb dX6_setPage_88 hl (by decide) rfl (fun ls hl => ?_)
    refine lv_aload_n hx hb dX6_setPage_90 rfl (lv_at hl 1 rfl) ?_
    refine va_get (D := X.1) (ci := 6) (C := RX6) (T := TX6) (N := 16) hx hb hts hi_X6 hown hK hP 0 rfl rfl 0 (by decide) hf_7 (fun _ h9 => h9) rfl dX6_setPage_91 ?_
    refine lv_iconst (v := iI 5) hx hb dX6_setPage_94 rfl ?_
    refine i_ald hx hb hK hP 1 0 rfl rfl (by decide) (by decide) rfl (Nat.le_of_ble_eq_true rfl) dX6_setPage_95 ?_
    refine lv_iconst (v := iI 1) hx hb dX6_setPage_96 rfl ?_
    refine i_cmp_ne (tgt := 160) hx hb h.1 (inR_lit rfl) dX6_setPage_97 (by decide) (fun c1 => ?_) (fun c1 => ?_)
    · have h := h.2.1 c1
      exact B160  m_lines m_pages m_line m_page v2 v5 0 h _ _ _ hP hD hS (lv_sub hl [1, 2, 4, 0] rfl)
    · have h := h.2.2 c1
      refine lv_iload hx hb dX6_setPage_100 (lv_at hl 3 rfl) ?_
      refine lv_aload_n hx hb dX6_setPage_102 rfl (lv_at hl 1 rfl) ?_
      refine va_get (D := X.1) (ci := 6) (C := RX6) (T := TX6) (N := 16) hx hb hts hi_X6 hown hK hP 0 rfl rfl 0 (by decide) hf_7 (fun _ h9 => h9) rfl dX6_setPage_103 ?_
      refine lv_iconst (v := iI 1) hx hb dX6_setPage_106 rfl ?_
      refine i_ald hx hb hK hP 1 0 rfl rfl (by decide) (by decide) rfl (Nat.le_of_ble_eq_true rfl) dX6_setPage_107 ?_
      refine i_cmp_ne (tgt := 160) hx hb h.1 h.2.1 dX6_setPage_108 (by decide) (fun c2 => ?_) (fun c2 => ?_)
      · have h := h.2.2.1 c2
        exact B160  m_lines m_pages m_line m_page v2 v5 0 h _ _ _ hP hD hS (lv_sub hl [1, 2, 4, 0] rfl)
      · have h := h.2.2.2 c2
        refine lv_iload_n hx hb dX6_setPage_111 rfl (lv_at hl 2 rfl) ?_
        refine lv_aload_n hx hb dX6_setPage_112 rfl (lv_at hl 1 rfl) ?_
        refine va_get (D := X.1) (ci := 6) (C := RX6) (T := TX6) (N := 16) hx hb hts hi_X6 hown hK hP 0 rfl rfl 0 (by decide) hf_7 (fun _ h9 => h9) rfl dX6_setPage_113 ?_
        refine lv_bipush (v := iI 14) hx hb dX6_setPage_116 (by decide +kernel) ?_
        refine i_ald hx hb hK hP 1 0 rfl rfl (by decide) (by decide) rfl (Nat.le_of_ble_eq_true rfl) dX6_setPage_118 ?_
        refine i_cmp_ge (tgt := 160) hx hb h.1 h.2.1 dX6_setPage_119 (by decide) (fun c3 => ?_) (fun c3 => ?_)
        · have h := h.2.2.1 c3
          exact B160  m_lines m_pages m_line m_page v2 v5 0 h _ _ _ hP hD hS (lv_sub hl [1, 2, 4, 0] rfl)
        · have h := h.2.2.2 c3
          refine lv_aload_n hx hb dX6_setPage_122 rfl (lv_at hl 1 rfl) ?_
          refine lv_iload_n hx hb dX6_setPage_123 rfl (lv_at hl 2 rfl) ?_
          refine lv_iconst (v := iI 1) hx hb dX6_setPage_124 rfl ?_
          refine i_sub hx hb dX6_setPage_125 ?_
          refine e_i (isC := [0, 1, 2, 3, 4, 5, 6]) (isR := []) (wr := []) (va_runV (As := [.int (iI (v2 - 1))]) (rest := []) ⟨hx, hb, hml, hown, hts⟩ (kX6_endsOne l X a_m a_m_s a_m_past a_m_aside a_m_text a_m_line a_m_page m_pasts m_typed m_thrown m_lines m_pages m_measure m_mostLeft m_mostRight m_spot m_h m_s m_past m_aside m_text m_line m_page (v2 - 1) _ h _) (cwV 1 hts gX6_setPage_X6_endsOne rfl rfl rfl (by decide +kernel) ⟨(Nat.le_of_ble_eq_true rfl), (Nat.le_of_ble_eq_true rfl)⟩) ⟨pre_blind, va_recv hK hP (ci := 6) (q0 := 0) rfl rfl, pre_cut hE hK hA hP hD hS (isC := [0, 1, 2, 3, 4, 5, 6]) rfl (by decide +kernel)⟩ rfl rfl hl.1 rfl (lv_room (Nat.le_of_ble_eq_true rfl)) dX6_setPage_126 ⟨(Nat.le_of_ble_eq_true rfl), (Nat.le_of_ble_eq_true rfl)⟩) hA hP hD hS rfl rfl (by decide +kernel) (by decide +kernel) (fun z4 u4 H locs h hP hD hS => ?_)
          have hP : va_P X.1 vwCl [(a_m, .inr (6, [.ref a_m_s, .ref a_m_past, .ref a_m_aside, .int (iI m_pasts), .ref a_m_text, .int (iI m_typed), .int (iI m_thrown), .ref a_m_line, .ref a_m_page, .int (iI m_lines), .int (iI m_pages), .int (iI m_measure), .int (iI m_mostLeft), .int (iI m_mostRight), .int (iI m_spot), .long m_h])), (a_m_s, eI X 975 m_s), (a_m_past, eI X 3900 m_past), (a_m_aside, eI X 975 m_aside), (a_m_text, eI X 200 m_text), (a_m_line, eI X 600 m_line), (a_m_page, eI X 180 m_page)] H := hP
          have hD : va_D A [(a_m, .inr (6, [.ref a_m_s, .ref a_m_past, .ref a_m_aside, .int (iI m_pasts), .ref a_m_text, .int (iI m_typed), .int (iI m_thrown), .ref a_m_line, .ref a_m_page, .int (iI m_lines), .int (iI m_pages), .int (iI m_measure), .int (iI m_mostLeft), .int (iI m_mostRight), .int (iI m_spot), .long m_h])), (a_m_s, eI X 975 m_s), (a_m_past, eI X 3900 m_past), (a_m_aside, eI X 975 m_aside), (a_m_text, eI X 200 m_text), (a_m_line, eI X 600 m_line), (a_m_page, eI X 180 m_page)] := hD
          refine i_if_ne (tgt := 160) hx hb h.1 dX6_setPage_129 (by decide) (fun c5 => ?_) (fun c5 => ?_)
          · have h := h.2.1 c5
            exact B160  m_lines m_pages m_line m_page v2 v5 0 h _ _ _ hP hD hS (lv_sub hl [1, 2, 4, 0] rfl)
          · have h := h.2.2 c5
            refine lv_aload_n hx hb dX6_setPage_132 rfl (lv_at hl 1 rfl) ?_
            refine lv_iload_n hx hb dX6_setPage_133 rfl (lv_at hl 2 rfl) ?_
            refine lv_iconst (v := iI 0) hx hb dX6_setPage_134 rfl ?_
            refine lv_aload_n hx hb dX6_setPage_135 rfl (lv_at hl 1 rfl) ?_
            refine va_get (D := X.1) (ci := 6) (C := RX6) (T := TX6) (N := 16) hx hb hts hi_X6 hown hK hP 0 rfl rfl 0 (by decide) hf_7 (fun _ h9 => h9) rfl dX6_setPage_136 ?_
            refine lv_iconst (v := iI 1) hx hb dX6_setPage_139 rfl ?_
            refine i_ald hx hb hK hP 1 0 rfl rfl (by decide) (by decide) rfl (Nat.le_of_ble_eq_true rfl) dX6_setPage_140 ?_
            refine lv_iconst (v := iI 1) hx hb dX6_setPage_141 rfl ?_
            refine i_sub hx hb dX6_setPage_142 ?_
            refine e_i (isC := [0, 1, 2, 3, 4, 5, 6]) (isR := []) (wr := []) (va_runV (As := [.int (iI v2), .int (iI 0), .int (iI (m_s 1 - 1))]) (rest := []) ⟨hx, hb, hml, hown, hts⟩ (kX6_row l X a_m a_m_s a_m_past a_m_aside a_m_text a_m_line a_m_page m_pasts m_typed m_thrown m_lines m_pages m_measure m_mostLeft m_mostRight m_spot m_h m_s m_past m_aside m_text m_line m_page v2 0 (m_s 1 - 1) _ h _) (cwV 3 hts gX6_setPage_X6_row rfl rfl rfl (by decide +kernel) ⟨(Nat.le_of_ble_eq_true rfl), (Nat.le_of_ble_eq_true rfl)⟩) ⟨pre_blind, va_recv hK hP (ci := 6) (q0 := 0) rfl rfl, pre_cut hE hK hA hP hD hS (isC := [0, 1, 2, 3, 4, 5, 6]) rfl (by decide +kernel)⟩ rfl rfl hl.1 rfl (lv_room (Nat.le_of_ble_eq_true rfl)) dX6_setPage_143 ⟨(Nat.le_of_ble_eq_true rfl), (Nat.le_of_ble_eq_true rfl)⟩) hA hP hD hS rfl rfl (by decide +kernel) (by decide +kernel) (fun z6 m_line_6 H locs h hP hD hS => ?_)
            have hP : va_P X.1 vwCl [(a_m, .inr (6, [.ref a_m_s, .ref a_m_past, .ref a_m_aside, .int (iI m_pasts), .ref a_m_text, .int (iI m_typed), .int (iI m_thrown), .ref a_m_line, .ref a_m_page, .int (iI m_lines), .int (iI m_pages), .int (iI m_measure), .int (iI m_mostLeft), .int (iI m_mostRight), .int (iI m_spot), .long m_h])), (a_m_s, eI X 975 m_s), (a_m_past, eI X 3900 m_past), (a_m_aside, eI X 975 m_aside), (a_m_text, eI X 200 m_text), (a_m_line, eI X 600 m_line_6), (a_m_page, eI X 180 m_page)] H := hP
            have hD : va_D A [(a_m, .inr (6, [.ref a_m_s, .ref a_m_past, .ref a_m_aside, .int (iI m_pasts), .ref a_m_text, .int (iI m_typed), .int (iI m_thrown), .ref a_m_line, .ref a_m_page, .int (iI m_lines), .int (iI m_pages), .int (iI m_measure), .int (iI m_mostLeft), .int (iI m_mostRight), .int (iI m_spot), .long m_h])), (a_m_s, eI X 975 m_s), (a_m_past, eI X 3900 m_past), (a_m_aside, eI X 975 m_aside), (a_m_text, eI X 200 m_text), (a_m_line, eI X 600 m_line_6), (a_m_page, eI X 180 m_page)] := hD
            refine lv_istore (lv' := [(7, .int (iI z6)), (6, .int (iI 0)), (0, .ref a_m), (2, .int (iI v2)), (4, .int (iI v4)), (5, .int (iI v5))]) hx hb dX6_setPage_146 hl (by decide) rfl (fun ls hl => ?_)
            refine lv_aload_n hx hb dX6_setPage_148 rfl (lv_at hl 2 rfl) ?_
            refine lv_iload_n hx hb dX6_setPage_149 rfl (lv_at hl 3 rfl) ?_
            refine lv_iload hx hb dX6_setPage_150 (lv_at hl 0 rfl) ?_
            refine i_add hx hb dX6_setPage_152 ?_
            refine lv_iconst (v := iI 1) hx hb dX6_setPage_153 rfl ?_
            refine i_sub hx hb dX6_setPage_154 ?_
            refine e_i (isC := [0, 1, 2, 3, 4, 5, 6]) (isR := []) (wr := []) (va_runV (As := [.int (iI ((v2 + z6) - 1))]) (rest := []) ⟨hx, hb, hml, hown, hts⟩ (kX6_endsOne l X a_m a_m_s a_m_past a_m_aside a_m_text a_m_line a_m_page m_pasts m_typed m_thrown m_lines m_pages m_measure m_mostLeft m_mostRight m_spot m_h m_s m_past m_aside m_text m_line_6 m_page ((v2 + z6) - 1) _ h _) (cwV 1 hts gX6_setPage_X6_endsOne rfl rfl rfl (by decide +kernel) ⟨(Nat.le_of_ble_eq_true rfl), (Nat.le_of_ble_eq_true rfl)⟩) ⟨pre_blind, va_recv hK hP (ci := 6) (q0 := 0) rfl rfl, pre_cut hE hK hA hP hD hS (isC := [0, 1, 2, 3, 4, 5, 6]) rfl (by decide +kernel)⟩ rfl rfl hl.1 rfl (lv_room (Nat.le_of_ble_eq_true rfl)) dX6_setPage_155 ⟨(Nat.le_of_ble_eq_true rfl), (Nat.le_of_ble_eq_true rfl)⟩) hA hP hD hS rfl rfl (by decide +kernel) (by decide +kernel) (fun z7 u7 H locs h hP hD hS => ?_)
            have hP : va_P X.1 vwCl [(a_m, .inr (6, [.ref a_m_s, .ref a_m_past, .ref a_m_aside, .int (iI m_pasts), .ref a_m_text, .int (iI m_typed), .int (iI m_thrown), .ref a_m_line, .ref a_m_page, .int (iI m_lines), .int (iI m_pages), .int (iI m_measure), .int (iI m_mostLeft), .int (iI m_mostRight), .int (iI m_spot), .long m_h])), (a_m_s, eI X 975 m_s), (a_m_past, eI X 3900 m_past), (a_m_aside, eI X 975 m_aside), (a_m_text, eI X 200 m_text), (a_m_line, eI X 600 m_line_6), (a_m_page, eI X 180 m_page)] H := hP
            have hD : va_D A [(a_m, .inr (6, [.ref a_m_s, .ref a_m_past, .ref a_m_aside, .int (iI m_pasts), .ref a_m_text, .int (iI m_typed), .int (iI m_thrown), .ref a_m_line, .ref a_m_page, .int (iI m_lines), .int (iI m_pages), .int (iI m_measure), .int (iI m_mostLeft), .int (iI m_mostRight), .int (iI m_spot), .long m_h])), (a_m_s, eI X 975 m_s), (a_m_past, eI X 3900 m_past), (a_m_aside, eI X 975 m_aside), (a_m_text, eI X 200 m_text), (a_m_line, eI X 600 m_line_6), (a_m_page, eI X 180 m_page)] := hD
            refine lv_istore (lv' := [(6, .int (iI z7)), (7, .int (iI z6)), (0, .ref a_m), (2, .int (iI v2)), (4, .int (iI v4)), (5, .int (iI v5))]) hx hb dX6_setPage_158 hl (by decide) rfl (fun ls hl => ?_)
            exact B160  m_lines m_pages m_line_6 m_page v2 v5 z7 h _ _ _ hP hD hS (lv_sub hl [2, 3, 5, 0] rfl)
  have B13 : ∀ (n : Nat) (m_lines : Int) (m_pages : Int) (m_line : Nat → Int) (m_page : Nat → Int) (v2 : Int) (v3 : Int) (v4 : Int) (v5 : Int), wpX6_setPage_13 m_measure m_mostLeft m_mostRight m_s post n m_lines m_pages m_line m_page v2 v3 v4 v5 → ∀ (H : Heap) (locs : List Loc) (ls : Array Slot), va_P X.1 vwCl [(a_m, .inr (6, [.ref a_m_s, .ref a_m_past, .ref a_m_aside, .int (iI m_pasts), .ref a_m_text, .int (iI m_typed), .int (iI m_thrown), .ref a_m_line, .ref a_m_page, .int (iI m_lines), .int (iI m_pages), .int (iI m_measure), .int (iI m_mostLeft), .int (iI m_mostRight), .int (iI m_spot), .long m_h])), (a_m_s, eI X 975 m_s), (a_m_past, eI X 3900 m_past), (a_m_aside, eI X 975 m_aside), (a_m_text, eI X 200 m_text), (a_m_line, eI X 600 m_line), (a_m_page, eI X 180 m_page)] H → va_D A [(a_m, .inr (6, [.ref a_m_s, .ref a_m_past, .ref a_m_aside, .int (iI m_pasts), .ref a_m_text, .int (iI m_typed), .int (iI m_thrown), .ref a_m_line, .ref a_m_page, .int (iI m_lines), .int (iI m_pages), .int (iI m_measure), .int (iI m_mostLeft), .int (iI m_mostRight), .int (iI m_spot), .long m_h])), (a_m_s, eI X 975 m_s), (a_m_past, eI X 3900 m_past), (a_m_aside, eI X 975 m_aside), (a_m_text, eI X 200 m_text), (a_m_line, eI X 600 m_line), (a_m_page, eI X 180 m_page)] → va_S A s.heap H locs → lv_has ls 8 [(0, .ref a_m), (2, .int (iI v2)), (3, .int (iI v3)), (4, .int (iI v4)), (5, .int (iI v5))] → W p l e rmX6_setPage s m args below meth c H locs 0 0 Q (F0 m 13 ls []) := by
    intro  n
    induction n with
    | zero => intro m_lines m_pages m_line m_page v2 v3 v4 v5 h; exact h.elim
    | succ n ih =>
      intro m_lines m_pages m_line m_page v2 v3 v4 v5 h H locs ls hP hD hS hl
      refine lv_iload_n hx hb dX6_setPage_13 rfl (lv_at hl 1 rfl) ?_
      refine lv_aload_n hx hb dX6_setPage_14 rfl (lv_at hl 0 rfl) ?_
      refine va_get (D := X.1) (ci := 6) (C := RX6) (T := TX6) (N := 16) hx hb hts hi_X6 hown hK hP 0 rfl rfl 0 (by decide) hf_7 (fun _ h9 => h9) rfl dX6_setPage_15 ?_
      refine lv_bipush (v := iI 14) hx hb dX6_setPage_18 (by decide +kernel) ?_
      refine i_ald hx hb hK hP 1 0 rfl rfl (by decide) (by decide) rfl (Nat.le_of_ble_eq_true rfl) dX6_setPage_20 ?_
      refine i_cmp_ge (tgt := 87) hx hb h.1 h.2.1 dX6_setPage_21 (by decide) (fun c1 => ?_) (fun c1 => ?_)
      · have h := h.2.2.1 c1
        exact B87  m_lines m_pages m_line m_page v2 v4 v5 h _ _ _ hP hD hS (lv_sub hl [0, 1, 3, 4] rfl)
      · have h := h.2.2.2 c1
        refine lv_iload hx hb dX6_setPage_24 (lv_at hl 3 rfl) ?_
        refine lv_aload_n hx hb dX6_setPage_26 rfl (lv_at hl 0 rfl) ?_
        refine va_get (D := X.1) (ci := 6) (C := RX6) (T := TX6) (N := 16) hx hb hts hi_X6 hown hK hP 0 rfl rfl 0 (by decide) hf_7 (fun _ h9 => h9) rfl dX6_setPage_27 ?_
        refine lv_iconst (v := iI 1) hx hb dX6_setPage_30 rfl ?_
        refine i_ald hx hb hK hP 1 0 rfl rfl (by decide) (by decide) rfl (Nat.le_of_ble_eq_true rfl) dX6_setPage_31 ?_
        refine i_cmp_ge (tgt := 87) hx hb h.1 h.2.1 dX6_setPage_32 (by decide) (fun c2 => ?_) (fun c2 => ?_)
        · have h := h.2.2.1 c2
          exact B87  m_lines m_pages m_line m_page v2 v4 v5 h _ _ _ hP hD hS (lv_sub hl [0, 1, 3, 4] rfl)
        · have h := h.2.2.2 c2
          refine lv_iload_n hx hb dX6_setPage_35 rfl (lv_at hl 1 rfl) ?_
          refine lv_aload_n hx hb dX6_setPage_36 rfl (lv_at hl 0 rfl) ?_
          refine lv_iload_n hx hb dX6_setPage_37 rfl (lv_at hl 1 rfl) ?_
          refine lv_iload_n hx hb dX6_setPage_38 rfl (lv_at hl 2 rfl) ?_
          refine lv_aload_n hx hb dX6_setPage_39 rfl (lv_at hl 0 rfl) ?_
          refine va_get (D := X.1) (ci := 6) (C := RX6) (T := TX6) (N := 16) hx hb hts hi_X6 hown hK hP 0 rfl rfl 0 (by decide) hf_7 (fun _ h9 => h9) rfl dX6_setPage_40 ?_
          refine lv_iconst (v := iI 1) hx hb dX6_setPage_43 rfl ?_
          refine i_ald hx hb hK hP 1 0 rfl rfl (by decide) (by decide) rfl (Nat.le_of_ble_eq_true rfl) dX6_setPage_44 ?_
          refine lv_iconst (v := iI 1) hx hb dX6_setPage_45 rfl ?_
          refine i_sub hx hb dX6_setPage_46 ?_
          refine lv_iload hx hb dX6_setPage_47 (lv_at hl 3 rfl) ?_
          refine i_sub hx hb dX6_setPage_49 ?_
          refine e_i (isC := [0, 1, 2, 3, 4, 5, 6]) (isR := []) (wr := []) (va_runV (As := [.int (iI v2), .int (iI v3), .int (iI ((m_s 1 - 1) - v4))]) (rest := [.int (iI v2)]) ⟨hx, hb, hml, hown, hts⟩ (kX6_row l X a_m a_m_s a_m_past a_m_aside a_m_text a_m_line a_m_page m_pasts m_typed m_thrown m_lines m_pages m_measure m_mostLeft m_mostRight m_spot m_h m_s m_past m_aside m_text m_line m_page v2 v3 ((m_s 1 - 1) - v4) _ h _) (cwV 3 hts gX6_setPage_X6_row rfl rfl rfl (by decide +kernel) ⟨(Nat.le_of_ble_eq_true rfl), (Nat.le_of_ble_eq_true rfl)⟩) ⟨pre_blind, va_recv hK hP (ci := 6) (q0 := 0) rfl rfl, pre_cut hE hK hA hP hD hS (isC := [0, 1, 2, 3, 4, 5, 6]) rfl (by decide +kernel)⟩ rfl rfl hl.1 rfl (lv_room (Nat.le_of_ble_eq_true rfl)) dX6_setPage_50 ⟨(Nat.le_of_ble_eq_true rfl), (Nat.le_of_ble_eq_true rfl)⟩) hA hP hD hS rfl rfl (by decide +kernel) (by decide +kernel) (fun z3 m_line_3 H locs h hP hD hS => ?_)
          have hP : va_P X.1 vwCl [(a_m, .inr (6, [.ref a_m_s, .ref a_m_past, .ref a_m_aside, .int (iI m_pasts), .ref a_m_text, .int (iI m_typed), .int (iI m_thrown), .ref a_m_line, .ref a_m_page, .int (iI m_lines), .int (iI m_pages), .int (iI m_measure), .int (iI m_mostLeft), .int (iI m_mostRight), .int (iI m_spot), .long m_h])), (a_m_s, eI X 975 m_s), (a_m_past, eI X 3900 m_past), (a_m_aside, eI X 975 m_aside), (a_m_text, eI X 200 m_text), (a_m_line, eI X 600 m_line_3), (a_m_page, eI X 180 m_page)] H := hP
          have hD : va_D A [(a_m, .inr (6, [.ref a_m_s, .ref a_m_past, .ref a_m_aside, .int (iI m_pasts), .ref a_m_text, .int (iI m_typed), .int (iI m_thrown), .ref a_m_line, .ref a_m_page, .int (iI m_lines), .int (iI m_pages), .int (iI m_measure), .int (iI m_mostLeft), .int (iI m_mostRight), .int (iI m_spot), .long m_h])), (a_m_s, eI X 975 m_s), (a_m_past, eI X 3900 m_past), (a_m_aside, eI X 975 m_aside), (a_m_text, eI X 200 m_text), (a_m_line, eI X 600 m_line_3), (a_m_page, eI X 180 m_page)] := hD
          refine i_add hx hb dX6_setPage_53 ?_
          refine lv_istore_n (lv' := [(2, .int (iI (v2 + z3))), (0, .ref a_m), (3, .int (iI v3)), (4, .int (iI v4)), (5, .int (iI v5))]) hx hb dX6_setPage_54 rfl hl (by decide) rfl (fun ls hl => ?_)
          refine lv_aload_n hx hb dX6_setPage_55 rfl (lv_at hl 1 rfl) ?_
          refine va_get (D := X.1) (ci := 6) (C := RX6) (T := TX6) (N := 16) hx hb hts hi_X6 hown hK hP 0 rfl rfl 7 (by decide) hf_22 (fun _ h9 => h9) rfl dX6_setPage_56 ?_
          refine lv_bipush (v := iI 10) hx hb dX6_setPage_59 (by decide +kernel) ?_
          refine lv_aload_n hx hb dX6_setPage_61 rfl (lv_at hl 1 rfl) ?_
          refine va_get (D := X.1) (ci := 6) (C := RX6) (T := TX6) (N := 16) hx hb hts hi_X6 hown hK hP 0 rfl rfl 9 (by decide) hf_53 (fun _ h9 => h9) rfl dX6_setPage_62 ?_
          refine i_mul hx hb dX6_setPage_65 ?_
          refine lv_bipush (v := iI 8) hx hb dX6_setPage_66 (by decide +kernel) ?_
          refine i_add hx hb dX6_setPage_68 ?_
          refine i_ald hx hb hK hP 5 0 rfl rfl h.1 h.2.1 rfl (Nat.le_of_ble_eq_true rfl) dX6_setPage_69 ?_
          have h := h.2.2
          refine lv_istore_n (lv' := [(3, .int (iI (m_line_3 ((10 * m_lines) + 8).toNat))), (2, .int (iI (v2 + z3))), (0, .ref a_m), (4, .int (iI v4)), (5, .int (iI v5))]) hx hb dX6_setPage_70 rfl hl (by decide) rfl (fun ls hl => ?_)
          refine lv_aload_n hx hb dX6_setPage_71 rfl (lv_at hl 2 rfl) ?_
          refine lv_dup hx hb dX6_setPage_72 rfl ?_
          refine va_get (D := X.1) (ci := 6) (C := RX6) (T := TX6) (N := 16) hx hb hts hi_X6 hown hK hP 0 rfl rfl 9 (by decide) hf_53 (fun _ h9 => h9) rfl dX6_setPage_73 ?_
          refine lv_iconst (v := iI 1) hx hb dX6_setPage_76 rfl ?_
          refine i_add hx hb dX6_setPage_77 ?_
          refine va_put (D := X.1) (ci := 6) (v := .int (iI (m_lines + 1))) (ty := .int) (C := RX6) (T := TX6) (N := 16) hx hb hts hi_X6 tyX6 tyX6_ok nmX6 hown hK hP hD hS 0 rfl rfl 9 (by decide) hf_53 (fun _ h9 => h9) rfl (by decide +kernel) rfl rfl (Nat.le_of_ble_eq_true rfl) dX6_setPage_78 (fun H locs hP hD hS => ?_)
          have hP : va_P X.1 vwCl [(a_m, .inr (6, [.ref a_m_s, .ref a_m_past, .ref a_m_aside, .int (iI m_pasts), .ref a_m_text, .int (iI m_typed), .int (iI m_thrown), .ref a_m_line, .ref a_m_page, .int (iI (m_lines + 1)), .int (iI m_pages), .int (iI m_measure), .int (iI m_mostLeft), .int (iI m_mostRight), .int (iI m_spot), .long m_h])), (a_m_s, eI X 975 m_s), (a_m_past, eI X 3900 m_past), (a_m_aside, eI X 975 m_aside), (a_m_text, eI X 200 m_text), (a_m_line, eI X 600 m_line_3), (a_m_page, eI X 180 m_page)] H := hP
          have hD : va_D A [(a_m, .inr (6, [.ref a_m_s, .ref a_m_past, .ref a_m_aside, .int (iI m_pasts), .ref a_m_text, .int (iI m_typed), .int (iI m_thrown), .ref a_m_line, .ref a_m_page, .int (iI (m_lines + 1)), .int (iI m_pages), .int (iI m_measure), .int (iI m_mostLeft), .int (iI m_mostRight), .int (iI m_spot), .long m_h])), (a_m_s, eI X 975 m_s), (a_m_past, eI X 3900 m_past), (a_m_aside, eI X 975 m_aside), (a_m_text, eI X 200 m_text), (a_m_line, eI X 600 m_line_3), (a_m_page, eI X 180 m_page)] := hD
          refine lv_iinc (v := iI (v4 + 1)) (lv' := [(4, .int (iI (v4 + 1))), (3, .int (iI (m_line_3 ((10 * m_lines) + 8).toNat))), (2, .int (iI (v2 + z3))), (0, .ref a_m), (5, .int (iI v5))]) hx hb dX6_setPage_81 hl (k := 3) rfl (iI_add _ _) (by decide) rfl (fun ls hl => ?_)
          refine lv_goto (tgt := 13) hx hb dX6_setPage_84 (by decide) ?_
          exact ih (m_lines + 1) m_pages m_line_3 m_page (v2 + z3) (m_line_3 ((10 * m_lines) + 8).toNat) (v4 + 1) v5 h _ _ _ hP hD hS (lv_sub hl [3, 2, 1, 0, 4] rfl)
  refine lv_iload_n hx hb dX6_setPage_0 rfl (lv_at hl 1 rfl) ?_
  refine lv_istore_n (lv' := [(2, .int (iI p1)), (0, .ref a_m), (1, .int (iI p1))]) hx hb dX6_setPage_1 rfl hl (by decide) rfl (fun ls hl => ?_)
  refine lv_iconst (v := iI 0) hx hb dX6_setPage_2 rfl ?_
  refine lv_istore_n (lv' := [(3, .int (iI 0)), (2, .int (iI p1)), (0, .ref a_m), (1, .int (iI p1))]) hx hb dX6_setPage_3 rfl hl (by decide) rfl (fun ls hl => ?_)
  refine lv_iconst (v := iI 0) hx hb dX6_setPage_4 rfl ?_
  refine lv_istore (lv' := [(4, .int (iI 0)), (3, .int (iI 0)), (2, .int (iI p1)), (0, .ref a_m), (1, .int (iI p1))]) hx hb dX6_setPage_5 hl (by decide) rfl (fun ls hl => ?_)
  refine lv_aload_n hx hb dX6_setPage_7 rfl (lv_at hl 3 rfl) ?_
  refine va_get (D := X.1) (ci := 6) (C := RX6) (T := TX6) (N := 16) hx hb hts hi_X6 hown hK hP 0 rfl rfl 9 (by decide) hf_53 (fun _ h9 => h9) rfl dX6_setPage_8 ?_
  refine lv_istore (lv' := [(5, .int (iI m_lines)), (4, .int (iI 0)), (3, .int (iI 0)), (2, .int (iI p1)), (0, .ref a_m), (1, .int (iI p1))]) hx hb dX6_setPage_11 hl (by decide) rfl (fun ls hl => ?_)
  obtain ⟨n1, h⟩ := h
  exact B13  n1 m_lines m_pages m_line m_page p1 0 0 m_lines h _ _ _ hP hD hS (lv_sub hl [4, 3, 2, 1, 0] rfl)
abbrev rmX6_setAll : Room := { frames := 4, cells := 0, slots := 0, locals := 106 }
set_option maxHeartbeats 4000000 in
set_option maxRecDepth 100000 in
theorem kX6_setAll (l : Launch) (X : XD) (a_m a_m_s a_m_past a_m_aside a_m_text a_m_line a_m_page : Nat) (m_pasts : Int) (m_typed : Int) (m_thrown : Int) (m_lines : Int) (m_pages : Int) (m_measure : Int) (m_mostLeft : Int) (m_mostRight : Int) (m_spot : Int) (m_h : Int64) (m_s : Nat → Int) (m_past : Nat → Int) (m_aside : Nat → Int) (m_text : Nat → Int) (m_line : Nat → Int) (m_page : Nat → Int) (p1 : Int) (p2 : Int) (p3 : Int) (post : Int → Int → Int → Int → Int → (Nat → Int) → (Nat → Int) → Prop) (h : wpX6_setAll m_lines m_pages m_measure m_mostLeft m_mostRight m_s m_line m_page p1 p2 p3 post) : MCv l yX6_setAll wsX6_setAll rmX6_setAll X [.ref a_m, .int (iI p1), .int (iI p2), .int (iI p3)] [(a_m, .inr (6, [.ref a_m_s, .ref a_m_past, .ref a_m_aside, .int (iI m_pasts), .ref a_m_text, .int (iI m_typed), .int (iI m_thrown), .ref a_m_line, .ref a_m_page, .int (iI m_lines), .int (iI m_pages), .int (iI m_measure), .int (iI m_mostLeft), .int (iI m_mostRight), .int (iI m_spot), .long m_h])), (a_m_s, eI X 975 m_s), (a_m_past, eI X 3900 m_past), (a_m_aside, eI X 975 m_aside), (a_m_text, eI X 200 m_text), (a_m_line, eI X 600 m_line), (a_m_page, eI X 180 m_page)] (S := Int × Int × Int × Int × Int × (Nat → Int) × (Nat → Int)) (fun u => [(a_m, .inr (6, [.ref a_m_s, .ref a_m_past, .ref a_m_aside, .int (iI m_pasts), .ref a_m_text, .int (iI m_typed), .int (iI m_thrown), .ref a_m_line, .ref a_m_page, .int (iI u.1), .int (iI u.2.1), .int (iI u.2.2.1), .int (iI u.2.2.2.1), .int (iI u.2.2.2.2.1), .int (iI m_spot), .long m_h])), (a_m_s, eI X 975 m_s), (a_m_past, eI X 3900 m_past), (a_m_aside, eI X 975 m_aside), (a_m_text, eI X 200 m_text), (a_m_line, eI X 600 u.2.2.2.2.2.1), (a_m_page, eI X 180 u.2.2.2.2.2.2)]) (fun u => post u.1 u.2.1 u.2.2.1 u.2.2.2.1 u.2.2.2.2.1 u.2.2.2.2.2.1 u.2.2.2.2.2.2) 0 0 := by
  refine MCv.of (cc := cX6_setAll) (maxL := 5) (by decide +kernel) rfl rfl ?_
  intro p e s m args below meth c A ls Q hE0 hP hD hS hl hend
  obtain ⟨hx, hb, hr, hml, hlocks, hown, hts, hK, hE, hA, hnm⟩ := hE0
  have hl : lv_has ls 5 [(0, .ref a_m), (1, .int (iI p1)), (2, .int (iI p2)), (3, .int (iI p3))] := hl
  have hi_X6 : ∀ w ∈ wsX60, w ∈ wsX6_setAll := by decide +kernel
  have hf_7 := hts (.fieldLink RX6 7 "LentMarginsModel" "s" "[I") (by decide +kernel)
  have hf_53 := hts (.fieldLink RX6 53 "LentMarginsModel" "lines" "I") (by decide +kernel)
  have hf_56 := hts (.fieldLink RX6 56 "LentMarginsModel" "measure" "I") (by decide +kernel)
  have hf_59 := hts (.fieldLink RX6 59 "LentMarginsModel" "mostLeft" "I") (by decide +kernel)
  have hf_68 := hts (.fieldLink RX6 68 "LentMarginsModel" "mostRight" "I") (by decide +kernel)
  have hf_71 := hts (.fieldLink RX6 71 "LentMarginsModel" "pages" "I") (by decide +kernel)
  have B28 : ∀ (n : Nat) (m_lines : Int) (m_pages : Int) (m_measure : Int) (m_mostLeft : Int) (m_mostRight : Int) (m_line : Nat → Int) (m_page : Nat → Int) (v4 : Int), wpX6_setAll_28 m_s post n m_lines m_pages m_measure m_mostLeft m_mostRight m_line m_page v4 → ∀ (H : Heap) (locs : List Loc) (ls : Array Slot), va_P X.1 vwCl [(a_m, .inr (6, [.ref a_m_s, .ref a_m_past, .ref a_m_aside, .int (iI m_pasts), .ref a_m_text, .int (iI m_typed), .int (iI m_thrown), .ref a_m_line, .ref a_m_page, .int (iI m_lines), .int (iI m_pages), .int (iI m_measure), .int (iI m_mostLeft), .int (iI m_mostRight), .int (iI m_spot), .long m_h])), (a_m_s, eI X 975 m_s), (a_m_past, eI X 3900 m_past), (a_m_aside, eI X 975 m_aside), (a_m_text, eI X 200 m_text), (a_m_line, eI X 600 m_line), (a_m_page, eI X 180 m_page)] H → va_D A [(a_m, .inr (6, [.ref a_m_s, .ref a_m_past, .ref a_m_aside, .int (iI m_pasts), .ref a_m_text, .int (iI m_typed), .int (iI m_thrown), .ref a_m_line, .ref a_m_page, .int (iI m_lines), .int (iI m_pages), .int (iI m_measure), .int (iI m_mostLeft), .int (iI m_mostRight), .int (iI m_spot), .long m_h])), (a_m_s, eI X 975 m_s), (a_m_past, eI X 3900 m_past), (a_m_aside, eI X 975 m_aside), (a_m_text, eI X 200 m_text), (a_m_line, eI X 600 m_line), (a_m_page, eI X 180 m_page)] → va_S A s.heap H locs → lv_has ls 5 [(0, .ref a_m), (4, .int (iI v4))] → W p l e rmX6_setAll s m args below meth c H locs 0 0 Q (F0 m 28 ls []) := by
    intro  n
    induction n with
    | zero => intro m_lines m_pages m_measure m_mostLeft m_mostRight m_line m_page v4 h; exact h.elim
    | succ n ih =>
      intro m_lines m_pages m_measure m_mostLeft m_mostRight m_line m_page v4 h H locs ls hP hD hS hl
      refine lv_iload hx hb dX6_setAll_28 (lv_at hl 1 rfl) ?_
      refine lv_aload_n hx hb dX6_setAll_30 rfl (lv_at hl 0 rfl) ?_
      refine va_get (D := X.1) (ci := 6) (C := RX6) (T := TX6) (N := 16) hx hb hts hi_X6 hown hK hP 0 rfl rfl 0 (by decide) hf_7 (fun _ h9 => h9) rfl dX6_setAll_31 ?_
      refine lv_bipush (v := iI 14) hx hb dX6_setAll_34 (by decide +kernel) ?_
      refine i_ald hx hb hK hP 1 0 rfl rfl (by decide) (by decide) rfl (Nat.le_of_ble_eq_true rfl) dX6_setAll_36 ?_
      refine i_cmp_ge (tgt := 51) hx hb h.1 h.2.1 dX6_setAll_37 (by decide) (fun c1 => ?_) (fun c1 => ?_)
      · have h := h.2.2.1 c1
        exact hend _ _ _ _ _ _ (m_lines, m_pages, m_measure, m_mostLeft, m_mostRight, m_line, m_page) hP hD hS h (Nat.le_of_ble_eq_true rfl) (Nat.le_of_ble_eq_true rfl) dX6_setAll_51
      · have h := h.2.2.2 c1
        refine lv_aload_n hx hb dX6_setAll_40 rfl (lv_at hl 0 rfl) ?_
        refine lv_iload hx hb dX6_setAll_41 (lv_at hl 1 rfl) ?_
        refine e_i (isC := [0, 1, 2, 3, 4, 5, 6]) (isR := []) (wr := []) (va_runV (As := [.int (iI v4)]) (rest := []) ⟨hx, hb, hml, hown, hts⟩ (kX6_setPage l X a_m a_m_s a_m_past a_m_aside a_m_text a_m_line a_m_page m_pasts m_typed m_thrown m_lines m_pages m_measure m_mostLeft m_mostRight m_spot m_h m_s m_past m_aside m_text m_line m_page v4 _ h _) (cwV 1 hts gX6_setAll_X6_setPage rfl rfl rfl (by decide +kernel) ⟨(Nat.le_of_ble_eq_true rfl), (Nat.le_of_ble_eq_true rfl)⟩) ⟨pre_blind, va_recv hK hP (ci := 6) (q0 := 0) rfl rfl, pre_cut hE hK hA hP hD hS (isC := [0, 1, 2, 3, 4, 5, 6]) rfl (by decide +kernel)⟩ rfl rfl hl.1 rfl (lv_room (Nat.le_of_ble_eq_true rfl)) dX6_setAll_43 ⟨(Nat.le_of_ble_eq_true rfl), (Nat.le_of_ble_eq_true rfl)⟩) hA hP hD hS rfl rfl (by decide +kernel) (by decide +kernel) (fun z2 u2 H locs h hP hD hS => ?_)
        obtain ⟨m_lines_2, m_pages_2, m_line_2, m_page_2⟩ := u2
        have hP : va_P X.1 vwCl [(a_m, .inr (6, [.ref a_m_s, .ref a_m_past, .ref a_m_aside, .int (iI m_pasts), .ref a_m_text, .int (iI m_typed), .int (iI m_thrown), .ref a_m_line, .ref a_m_page, .int (iI m_lines_2), .int (iI m_pages_2), .int (iI m_measure), .int (iI m_mostLeft), .int (iI m_mostRight), .int (iI m_spot), .long m_h])), (a_m_s, eI X 975 m_s), (a_m_past, eI X 3900 m_past), (a_m_aside, eI X 975 m_aside), (a_m_text, eI X 200 m_text), (a_m_line, eI X 600 m_line_2), (a_m_page, eI X 180 m_page_2)] H := hP
        have hD : va_D A [(a_m, .inr (6, [.ref a_m_s, .ref a_m_past, .ref a_m_aside, .int (iI m_pasts), .ref a_m_text, .int (iI m_typed), .int (iI m_thrown), .ref a_m_line, .ref a_m_page, .int (iI m_lines_2), .int (iI m_pages_2), .int (iI m_measure), .int (iI m_mostLeft), .int (iI m_mostRight), .int (iI m_spot), .long m_h])), (a_m_s, eI X 975 m_s), (a_m_past, eI X 3900 m_past), (a_m_aside, eI X 975 m_aside), (a_m_text, eI X 200 m_text), (a_m_line, eI X 600 m_line_2), (a_m_page, eI X 180 m_page_2)] := hD
        refine lv_istore (lv' := [(4, .int (iI z2)), (0, .ref a_m)]) hx hb dX6_setAll_46 hl (by decide) rfl (fun ls hl => ?_)
        refine lv_goto (tgt := 28) hx hb dX6_setAll_48 (by decide) ?_
        exact ih m_lines_2 m_pages_2 m_measure m_mostLeft m_mostRight m_line_2 m_page_2 z2 h _ _ _ hP hD hS (lv_sub hl [1, 0] rfl)
  refine lv_aload_n hx hb dX6_setAll_0 rfl (lv_at hl 0 rfl) ?_
  refine lv_iload_n hx hb dX6_setAll_1 rfl (lv_at hl 1 rfl) ?_
  refine va_put (D := X.1) (ci := 6) (v := .int (iI p1)) (ty := .int) (C := RX6) (T := TX6) (N := 16) hx hb hts hi_X6 tyX6 tyX6_ok nmX6 hown hK hP hD hS 0 rfl rfl 11 (by decide) hf_56 (fun _ h9 => h9) rfl (by decide +kernel) rfl rfl (Nat.le_of_ble_eq_true rfl) dX6_setAll_2 (fun H locs hP hD hS => ?_)
  have hP : va_P X.1 vwCl [(a_m, .inr (6, [.ref a_m_s, .ref a_m_past, .ref a_m_aside, .int (iI m_pasts), .ref a_m_text, .int (iI m_typed), .int (iI m_thrown), .ref a_m_line, .ref a_m_page, .int (iI m_lines), .int (iI m_pages), .int (iI p1), .int (iI m_mostLeft), .int (iI m_mostRight), .int (iI m_spot), .long m_h])), (a_m_s, eI X 975 m_s), (a_m_past, eI X 3900 m_past), (a_m_aside, eI X 975 m_aside), (a_m_text, eI X 200 m_text), (a_m_line, eI X 600 m_line), (a_m_page, eI X 180 m_page)] H := hP
  have hD : va_D A [(a_m, .inr (6, [.ref a_m_s, .ref a_m_past, .ref a_m_aside, .int (iI m_pasts), .ref a_m_text, .int (iI m_typed), .int (iI m_thrown), .ref a_m_line, .ref a_m_page, .int (iI m_lines), .int (iI m_pages), .int (iI p1), .int (iI m_mostLeft), .int (iI m_mostRight), .int (iI m_spot), .long m_h])), (a_m_s, eI X 975 m_s), (a_m_past, eI X 3900 m_past), (a_m_aside, eI X 975 m_aside), (a_m_text, eI X 200 m_text), (a_m_line, eI X 600 m_line), (a_m_page, eI X 180 m_page)] := hD
  refine lv_aload_n hx hb dX6_setAll_5 rfl (lv_at hl 0 rfl) ?_
  refine lv_iload_n hx hb dX6_setAll_6 rfl (lv_at hl 2 rfl) ?_
  refine va_put (D := X.1) (ci := 6) (v := .int (iI p2)) (ty := .int) (C := RX6) (T := TX6) (N := 16) hx hb hts hi_X6 tyX6 tyX6_ok nmX6 hown hK hP hD hS 0 rfl rfl 12 (by decide) hf_59 (fun _ h9 => h9) rfl (by decide +kernel) rfl rfl (Nat.le_of_ble_eq_true rfl) dX6_setAll_7 (fun H locs hP hD hS => ?_)
  have hP : va_P X.1 vwCl [(a_m, .inr (6, [.ref a_m_s, .ref a_m_past, .ref a_m_aside, .int (iI m_pasts), .ref a_m_text, .int (iI m_typed), .int (iI m_thrown), .ref a_m_line, .ref a_m_page, .int (iI m_lines), .int (iI m_pages), .int (iI p1), .int (iI p2), .int (iI m_mostRight), .int (iI m_spot), .long m_h])), (a_m_s, eI X 975 m_s), (a_m_past, eI X 3900 m_past), (a_m_aside, eI X 975 m_aside), (a_m_text, eI X 200 m_text), (a_m_line, eI X 600 m_line), (a_m_page, eI X 180 m_page)] H := hP
  have hD : va_D A [(a_m, .inr (6, [.ref a_m_s, .ref a_m_past, .ref a_m_aside, .int (iI m_pasts), .ref a_m_text, .int (iI m_typed), .int (iI m_thrown), .ref a_m_line, .ref a_m_page, .int (iI m_lines), .int (iI m_pages), .int (iI p1), .int (iI p2), .int (iI m_mostRight), .int (iI m_spot), .long m_h])), (a_m_s, eI X 975 m_s), (a_m_past, eI X 3900 m_past), (a_m_aside, eI X 975 m_aside), (a_m_text, eI X 200 m_text), (a_m_line, eI X 600 m_line), (a_m_page, eI X 180 m_page)] := hD
  refine lv_aload_n hx hb dX6_setAll_10 rfl (lv_at hl 0 rfl) ?_
  refine lv_iload_n hx hb dX6_setAll_11 rfl (lv_at hl 3 rfl) ?_
  refine va_put (D := X.1) (ci := 6) (v := .int (iI p3)) (ty := .int) (C := RX6) (T := TX6) (N := 16) hx hb hts hi_X6 tyX6 tyX6_ok nmX6 hown hK hP hD hS 0 rfl rfl 13 (by decide) hf_68 (fun _ h9 => h9) rfl (by decide +kernel) rfl rfl (Nat.le_of_ble_eq_true rfl) dX6_setAll_12 (fun H locs hP hD hS => ?_)
  have hP : va_P X.1 vwCl [(a_m, .inr (6, [.ref a_m_s, .ref a_m_past, .ref a_m_aside, .int (iI m_pasts), .ref a_m_text, .int (iI m_typed), .int (iI m_thrown), .ref a_m_line, .ref a_m_page, .int (iI m_lines), .int (iI m_pages), .int (iI p1), .int (iI p2), .int (iI p3), .int (iI m_spot), .long m_h])), (a_m_s, eI X 975 m_s), (a_m_past, eI X 3900 m_past), (a_m_aside, eI X 975 m_aside), (a_m_text, eI X 200 m_text), (a_m_line, eI X 600 m_line), (a_m_page, eI X 180 m_page)] H := hP
  have hD : va_D A [(a_m, .inr (6, [.ref a_m_s, .ref a_m_past, .ref a_m_aside, .int (iI m_pasts), .ref a_m_text, .int (iI m_typed), .int (iI m_thrown), .ref a_m_line, .ref a_m_page, .int (iI m_lines), .int (iI m_pages), .int (iI p1), .int (iI p2), .int (iI p3), .int (iI m_spot), .long m_h])), (a_m_s, eI X 975 m_s), (a_m_past, eI X 3900 m_past), (a_m_aside, eI X 975 m_aside), (a_m_text, eI X 200 m_text), (a_m_line, eI X 600 m_line), (a_m_page, eI X 180 m_page)] := hD
  refine lv_aload_n hx hb dX6_setAll_15 rfl (lv_at hl 0 rfl) ?_
  refine lv_iconst (v := iI 0) hx hb dX6_setAll_16 rfl ?_
  refine va_put (D := X.1) (ci := 6) (v := .int (iI 0)) (ty := .int) (C := RX6) (T := TX6) (N := 16) hx hb hts hi_X6 tyX6 tyX6_ok nmX6 hown hK hP hD hS 0 rfl rfl 9 (by decide) hf_53 (fun _ h9 => h9) rfl (by decide +kernel) rfl rfl (Nat.le_of_ble_eq_true rfl) dX6_setAll_17 (fun H locs hP hD hS => ?_)
  have hP : va_P X.1 vwCl [(a_m, .inr (6, [.ref a_m_s, .ref a_m_past, .ref a_m_aside, .int (iI m_pasts), .ref a_m_text, .int (iI m_typed), .int (iI m_thrown), .ref a_m_line, .ref a_m_page, .int (iI 0), .int (iI m_pages), .int (iI p1), .int (iI p2), .int (iI p3), .int (iI m_spot), .long m_h])), (a_m_s, eI X 975 m_s), (a_m_past, eI X 3900 m_past), (a_m_aside, eI X 975 m_aside), (a_m_text, eI X 200 m_text), (a_m_line, eI X 600 m_line), (a_m_page, eI X 180 m_page)] H := hP
  have hD : va_D A [(a_m, .inr (6, [.ref a_m_s, .ref a_m_past, .ref a_m_aside, .int (iI m_pasts), .ref a_m_text, .int (iI m_typed), .int (iI m_thrown), .ref a_m_line, .ref a_m_page, .int (iI 0), .int (iI m_pages), .int (iI p1), .int (iI p2), .int (iI p3), .int (iI m_spot), .long m_h])), (a_m_s, eI X 975 m_s), (a_m_past, eI X 3900 m_past), (a_m_aside, eI X 975 m_aside), (a_m_text, eI X 200 m_text), (a_m_line, eI X 600 m_line), (a_m_page, eI X 180 m_page)] := hD
  refine lv_aload_n hx hb dX6_setAll_20 rfl (lv_at hl 0 rfl) ?_
  refine lv_iconst (v := iI 0) hx hb dX6_setAll_21 rfl ?_
  refine va_put (D := X.1) (ci := 6) (v := .int (iI 0)) (ty := .int) (C := RX6) (T := TX6) (N := 16) hx hb hts hi_X6 tyX6 tyX6_ok nmX6 hown hK hP hD hS 0 rfl rfl 10 (by decide) hf_71 (fun _ h9 => h9) rfl (by decide +kernel) rfl rfl (Nat.le_of_ble_eq_true rfl) dX6_setAll_22 (fun H locs hP hD hS => ?_)
  have hP : va_P X.1 vwCl [(a_m, .inr (6, [.ref a_m_s, .ref a_m_past, .ref a_m_aside, .int (iI m_pasts), .ref a_m_text, .int (iI m_typed), .int (iI m_thrown), .ref a_m_line, .ref a_m_page, .int (iI 0), .int (iI 0), .int (iI p1), .int (iI p2), .int (iI p3), .int (iI m_spot), .long m_h])), (a_m_s, eI X 975 m_s), (a_m_past, eI X 3900 m_past), (a_m_aside, eI X 975 m_aside), (a_m_text, eI X 200 m_text), (a_m_line, eI X 600 m_line), (a_m_page, eI X 180 m_page)] H := hP
  have hD : va_D A [(a_m, .inr (6, [.ref a_m_s, .ref a_m_past, .ref a_m_aside, .int (iI m_pasts), .ref a_m_text, .int (iI m_typed), .int (iI m_thrown), .ref a_m_line, .ref a_m_page, .int (iI 0), .int (iI 0), .int (iI p1), .int (iI p2), .int (iI p3), .int (iI m_spot), .long m_h])), (a_m_s, eI X 975 m_s), (a_m_past, eI X 3900 m_past), (a_m_aside, eI X 975 m_aside), (a_m_text, eI X 200 m_text), (a_m_line, eI X 600 m_line), (a_m_page, eI X 180 m_page)] := hD
  refine lv_iconst (v := iI 0) hx hb dX6_setAll_25 rfl ?_
  refine lv_istore (lv' := [(4, .int (iI 0)), (0, .ref a_m), (1, .int (iI p1)), (2, .int (iI p2)), (3, .int (iI p3))]) hx hb dX6_setAll_26 hl (by decide) rfl (fun ls hl => ?_)
  obtain ⟨n1, h⟩ := h
  exact B28  n1 0 0 p1 p2 p3 m_line m_page 0 h _ _ _ hP hD hS (lv_sub hl [1, 0] rfl)
abbrev rmX6_makes : Room := { frames := 5, cells := 0, slots := 0, locals := 130 }
set_option maxHeartbeats 4000000 in
set_option maxRecDepth 100000 in
theorem kX6_makes (l : Launch) (X : XD) (a_m a_m_s a_m_past a_m_aside a_m_text a_m_line a_m_page : Nat) (m_pasts : Int) (m_typed : Int) (m_thrown : Int) (m_lines : Int) (m_pages : Int) (m_measure : Int) (m_mostLeft : Int) (m_mostRight : Int) (m_spot : Int) (m_h : Int64) (m_s : Nat → Int) (m_past : Nat → Int) (m_aside : Nat → Int) (m_text : Nat → Int) (m_line : Nat → Int) (m_page : Nat → Int) (post : Int → Int → Int → Int → Int → (Nat → Int) → (Nat → Int) → Prop) (h : wpX6_makes m_lines m_pages m_measure m_mostLeft m_mostRight m_s m_line m_page post) : MCv l yX6_makes wsX6_makes rmX6_makes X [.ref a_m] [(a_m, .inr (6, [.ref a_m_s, .ref a_m_past, .ref a_m_aside, .int (iI m_pasts), .ref a_m_text, .int (iI m_typed), .int (iI m_thrown), .ref a_m_line, .ref a_m_page, .int (iI m_lines), .int (iI m_pages), .int (iI m_measure), .int (iI m_mostLeft), .int (iI m_mostRight), .int (iI m_spot), .long m_h])), (a_m_s, eI X 975 m_s), (a_m_past, eI X 3900 m_past), (a_m_aside, eI X 975 m_aside), (a_m_text, eI X 200 m_text), (a_m_line, eI X 600 m_line), (a_m_page, eI X 180 m_page)] (S := Int × Int × Int × Int × Int × (Nat → Int) × (Nat → Int)) (fun u => [(a_m, .inr (6, [.ref a_m_s, .ref a_m_past, .ref a_m_aside, .int (iI m_pasts), .ref a_m_text, .int (iI m_typed), .int (iI m_thrown), .ref a_m_line, .ref a_m_page, .int (iI u.1), .int (iI u.2.1), .int (iI u.2.2.1), .int (iI u.2.2.2.1), .int (iI u.2.2.2.2.1), .int (iI m_spot), .long m_h])), (a_m_s, eI X 975 m_s), (a_m_past, eI X 3900 m_past), (a_m_aside, eI X 975 m_aside), (a_m_text, eI X 200 m_text), (a_m_line, eI X 600 u.2.2.2.2.2.1), (a_m_page, eI X 180 u.2.2.2.2.2.2)]) (fun u => post u.1 u.2.1 u.2.2.1 u.2.2.2.1 u.2.2.2.2.1 u.2.2.2.2.2.1 u.2.2.2.2.2.2) 0 0 := by
  refine MCv.of (cc := cX6_makes) (maxL := 1) (by decide +kernel) rfl rfl ?_
  intro p e s m args below meth c A ls Q hE0 hP hD hS hl hend
  obtain ⟨hx, hb, hr, hml, hlocks, hown, hts, hK, hE, hA, hnm⟩ := hE0
  have hl : lv_has ls 1 [(0, .ref a_m)] := hl
  have hi_X6 : ∀ w ∈ wsX60, w ∈ wsX6_makes := by decide +kernel
  have hf_7 := hts (.fieldLink RX6 7 "LentMarginsModel" "s" "[I") (by decide +kernel)
  refine lv_aload_n hx hb dX6_makes_0 rfl (lv_at hl 0 rfl) ?_
  refine lv_aload_n hx hb dX6_makes_1 rfl (lv_at hl 0 rfl) ?_
  refine va_get (D := X.1) (ci := 6) (C := RX6) (T := TX6) (N := 16) hx hb hts hi_X6 hown hK hP 0 rfl rfl 0 (by decide) hf_7 (fun _ h9 => h9) rfl dX6_makes_2 ?_
  refine lv_iconst (v := iI 0) hx hb dX6_makes_5 rfl ?_
  refine i_ald hx hb hK hP 1 0 rfl rfl (by decide) (by decide) rfl (Nat.le_of_ble_eq_true rfl) dX6_makes_6 ?_
  refine lv_aload_n hx hb dX6_makes_7 rfl (lv_at hl 0 rfl) ?_
  refine va_get (D := X.1) (ci := 6) (C := RX6) (T := TX6) (N := 16) hx hb hts hi_X6 hown hK hP 0 rfl rfl 0 (by decide) hf_7 (fun _ h9 => h9) rfl dX6_makes_8 ?_
  refine lv_iconst (v := iI 2) hx hb dX6_makes_11 rfl ?_
  refine i_ald hx hb hK hP 1 0 rfl rfl (by decide) (by decide) rfl (Nat.le_of_ble_eq_true rfl) dX6_makes_12 ?_
  refine lv_aload_n hx hb dX6_makes_13 rfl (lv_at hl 0 rfl) ?_
  refine va_get (D := X.1) (ci := 6) (C := RX6) (T := TX6) (N := 16) hx hb hts hi_X6 hown hK hP 0 rfl rfl 0 (by decide) hf_7 (fun _ h9 => h9) rfl dX6_makes_14 ?_
  refine lv_iconst (v := iI 3) hx hb dX6_makes_17 rfl ?_
  refine i_ald hx hb hK hP 1 0 rfl rfl (by decide) (by decide) rfl (Nat.le_of_ble_eq_true rfl) dX6_makes_18 ?_
  refine e_v (isC := [0, 1, 2, 3, 4, 5, 6]) (isR := []) (wr := []) (va_runV (As := [.int (iI (m_s 0)), .int (iI (m_s 2)), .int (iI (m_s 3))]) (rest := []) ⟨hx, hb, hml, hown, hts⟩ (kX6_setAll l X a_m a_m_s a_m_past a_m_aside a_m_text a_m_line a_m_page m_pasts m_typed m_thrown m_lines m_pages m_measure m_mostLeft m_mostRight m_spot m_h m_s m_past m_aside m_text m_line m_page (m_s 0) (m_s 2) (m_s 3) _ h _) (cwV 3 hts gX6_makes_X6_setAll rfl rfl rfl (by decide +kernel) ⟨(Nat.le_of_ble_eq_true rfl), (Nat.le_of_ble_eq_true rfl)⟩) ⟨pre_blind, va_recv hK hP (ci := 6) (q0 := 0) rfl rfl, pre_cut hE hK hA hP hD hS (isC := [0, 1, 2, 3, 4, 5, 6]) rfl (by decide +kernel)⟩ rfl rfl hl.1 rfl (lv_room (Nat.le_of_ble_eq_true rfl)) dX6_makes_19 ⟨(Nat.le_of_ble_eq_true rfl), (Nat.le_of_ble_eq_true rfl)⟩) hA hP hD hS rfl rfl (by decide +kernel) (by decide +kernel) (fun u1 H locs h hP hD hS => ?_)
  obtain ⟨m_lines_1, m_pages_1, m_measure_1, m_mostLeft_1, m_mostRight_1, m_line_1, m_page_1⟩ := u1
  have hP : va_P X.1 vwCl [(a_m, .inr (6, [.ref a_m_s, .ref a_m_past, .ref a_m_aside, .int (iI m_pasts), .ref a_m_text, .int (iI m_typed), .int (iI m_thrown), .ref a_m_line, .ref a_m_page, .int (iI m_lines_1), .int (iI m_pages_1), .int (iI m_measure_1), .int (iI m_mostLeft_1), .int (iI m_mostRight_1), .int (iI m_spot), .long m_h])), (a_m_s, eI X 975 m_s), (a_m_past, eI X 3900 m_past), (a_m_aside, eI X 975 m_aside), (a_m_text, eI X 200 m_text), (a_m_line, eI X 600 m_line_1), (a_m_page, eI X 180 m_page_1)] H := hP
  have hD : va_D A [(a_m, .inr (6, [.ref a_m_s, .ref a_m_past, .ref a_m_aside, .int (iI m_pasts), .ref a_m_text, .int (iI m_typed), .int (iI m_thrown), .ref a_m_line, .ref a_m_page, .int (iI m_lines_1), .int (iI m_pages_1), .int (iI m_measure_1), .int (iI m_mostLeft_1), .int (iI m_mostRight_1), .int (iI m_spot), .long m_h])), (a_m_s, eI X 975 m_s), (a_m_past, eI X 3900 m_past), (a_m_aside, eI X 975 m_aside), (a_m_text, eI X 200 m_text), (a_m_line, eI X 600 m_line_1), (a_m_page, eI X 180 m_page_1)] := hD
  exact hend _ _ _ _ _ _ (m_lines_1, m_pages_1, m_measure_1, m_mostLeft_1, m_mostRight_1, m_line_1, m_page_1) hP hD hS h (Nat.le_of_ble_eq_true rfl) (Nat.le_of_ble_eq_true rfl) dX6_makes_22
abbrev rmX6_endsOneThere : Room := { frames := 2, cells := 0, slots := 0, locals := 43 }
set_option maxHeartbeats 4000000 in
set_option maxRecDepth 100000 in
theorem kX6_endsOneThere (l : Launch) (X : XD) (a_m a_m_s a_m_past a_m_aside a_m_text a_m_line a_m_page : Nat) (m_pasts : Int) (m_typed : Int) (m_thrown : Int) (m_lines : Int) (m_pages : Int) (m_measure : Int) (m_mostLeft : Int) (m_mostRight : Int) (m_spot : Int) (m_h : Int64) (m_s : Nat → Int) (m_past : Nat → Int) (m_aside : Nat → Int) (m_text : Nat → Int) (m_line : Nat → Int) (m_page : Nat → Int) (p1 : Int) (post : Int → Prop) (h : wpX6_endsOneThere m_s m_line p1 post) : MCi l yX6_endsOneThere wsX6_endsOneThere rmX6_endsOneThere X [.ref a_m, .int (iI p1)] [(a_m, .inr (6, [.ref a_m_s, .ref a_m_past, .ref a_m_aside, .int (iI m_pasts), .ref a_m_text, .int (iI m_typed), .int (iI m_thrown), .ref a_m_line, .ref a_m_page, .int (iI m_lines), .int (iI m_pages), .int (iI m_measure), .int (iI m_mostLeft), .int (iI m_mostRight), .int (iI m_spot), .long m_h])), (a_m_s, eI X 975 m_s), (a_m_past, eI X 3900 m_past), (a_m_aside, eI X 975 m_aside), (a_m_text, eI X 200 m_text), (a_m_line, eI X 600 m_line), (a_m_page, eI X 180 m_page)] (S := Unit) (fun _ => [(a_m, .inr (6, [.ref a_m_s, .ref a_m_past, .ref a_m_aside, .int (iI m_pasts), .ref a_m_text, .int (iI m_typed), .int (iI m_thrown), .ref a_m_line, .ref a_m_page, .int (iI m_lines), .int (iI m_pages), .int (iI m_measure), .int (iI m_mostLeft), .int (iI m_mostRight), .int (iI m_spot), .long m_h])), (a_m_s, eI X 975 m_s), (a_m_past, eI X 3900 m_past), (a_m_aside, eI X 975 m_aside), (a_m_text, eI X 200 m_text), (a_m_line, eI X 600 m_line), (a_m_page, eI X 180 m_page)]) (fun z _ => post z) 0 0 := by
  refine MCz.of (cc := cX6_endsOneThere) (maxL := 2) (by decide +kernel) rfl rfl ?_
  intro p e s m args below meth c A ls Q hE0 hP hD hS hl hend
  obtain ⟨hx, hb, hr, hml, hlocks, hown, hts, hK, hE, hA, hnm⟩ := hE0
  have hl : lv_has ls 2 [(0, .ref a_m), (1, .int (iI p1))] := hl
  have hi_X6 : ∀ w ∈ wsX60, w ∈ wsX6_endsOneThere := by decide +kernel
  have hf_22 := hts (.fieldLink RX6 22 "LentMarginsModel" "line" "[I") (by decide +kernel)
  refine lv_aload_n hx hb dX6_endsOneThere_0 rfl (lv_at hl 0 rfl) ?_
  refine lv_aload_n hx hb dX6_endsOneThere_1 rfl (lv_at hl 0 rfl) ?_
  refine va_get (D := X.1) (ci := 6) (C := RX6) (T := TX6) (N := 16) hx hb hts hi_X6 hown hK hP 0 rfl rfl 7 (by decide) hf_22 (fun _ h9 => h9) rfl dX6_endsOneThere_2 ?_
  refine lv_bipush (v := iI 10) hx hb dX6_endsOneThere_5 (by decide +kernel) ?_
  refine lv_iload_n hx hb dX6_endsOneThere_7 rfl (lv_at hl 1 rfl) ?_
  refine i_mul hx hb dX6_endsOneThere_8 ?_
  refine lv_iconst (v := iI 1) hx hb dX6_endsOneThere_9 rfl ?_
  refine i_add hx hb dX6_endsOneThere_10 ?_
  refine i_ald hx hb hK hP 5 0 rfl rfl h.1 h.2.1 rfl (Nat.le_of_ble_eq_true rfl) dX6_endsOneThere_11 ?_
  have h := h.2.2
  refine lv_aload_n hx hb dX6_endsOneThere_12 rfl (lv_at hl 0 rfl) ?_
  refine va_get (D := X.1) (ci := 6) (C := RX6) (T := TX6) (N := 16) hx hb hts hi_X6 hown hK hP 0 rfl rfl 7 (by decide) hf_22 (fun _ h9 => h9) rfl dX6_endsOneThere_13 ?_
  refine lv_bipush (v := iI 10) hx hb dX6_endsOneThere_16 (by decide +kernel) ?_
  refine lv_iload_n hx hb dX6_endsOneThere_18 rfl (lv_at hl 1 rfl) ?_
  refine i_mul hx hb dX6_endsOneThere_19 ?_
  refine lv_iconst (v := iI 2) hx hb dX6_endsOneThere_20 rfl ?_
  refine i_add hx hb dX6_endsOneThere_21 ?_
  refine i_ald hx hb hK hP 5 0 rfl rfl h.1 h.2.1 rfl (Nat.le_of_ble_eq_true rfl) dX6_endsOneThere_22 ?_
  have h := h.2.2
  refine i_add hx hb dX6_endsOneThere_23 ?_
  refine lv_iconst (v := iI 1) hx hb dX6_endsOneThere_24 rfl ?_
  refine i_sub hx hb dX6_endsOneThere_25 ?_
  refine e_i (isC := [0, 1, 2, 3, 4, 5, 6]) (isR := []) (wr := []) (va_runV (As := [.int (iI ((m_line ((10 * p1) + 1).toNat + m_line ((10 * p1) + 2).toNat) - 1))]) (rest := []) ⟨hx, hb, hml, hown, hts⟩ (kX6_endsOne l X a_m a_m_s a_m_past a_m_aside a_m_text a_m_line a_m_page m_pasts m_typed m_thrown m_lines m_pages m_measure m_mostLeft m_mostRight m_spot m_h m_s m_past m_aside m_text m_line m_page ((m_line ((10 * p1) + 1).toNat + m_line ((10 * p1) + 2).toNat) - 1) _ h _) (cwV 1 hts gX6_endsOneThere_X6_endsOne rfl rfl rfl (by decide +kernel) ⟨(Nat.le_of_ble_eq_true rfl), (Nat.le_of_ble_eq_true rfl)⟩) ⟨pre_blind, va_recv hK hP (ci := 6) (q0 := 0) rfl rfl, pre_cut hE hK hA hP hD hS (isC := [0, 1, 2, 3, 4, 5, 6]) rfl (by decide +kernel)⟩ rfl rfl hl.1 rfl (lv_room (Nat.le_of_ble_eq_true rfl)) dX6_endsOneThere_26 ⟨(Nat.le_of_ble_eq_true rfl), (Nat.le_of_ble_eq_true rfl)⟩) hA hP hD hS rfl rfl (by decide +kernel) (by decide +kernel) (fun z1 u1 H locs h hP hD hS => ?_)
  have hP : va_P X.1 vwCl [(a_m, .inr (6, [.ref a_m_s, .ref a_m_past, .ref a_m_aside, .int (iI m_pasts), .ref a_m_text, .int (iI m_typed), .int (iI m_thrown), .ref a_m_line, .ref a_m_page, .int (iI m_lines), .int (iI m_pages), .int (iI m_measure), .int (iI m_mostLeft), .int (iI m_mostRight), .int (iI m_spot), .long m_h])), (a_m_s, eI X 975 m_s), (a_m_past, eI X 3900 m_past), (a_m_aside, eI X 975 m_aside), (a_m_text, eI X 200 m_text), (a_m_line, eI X 600 m_line), (a_m_page, eI X 180 m_page)] H := hP
  have hD : va_D A [(a_m, .inr (6, [.ref a_m_s, .ref a_m_past, .ref a_m_aside, .int (iI m_pasts), .ref a_m_text, .int (iI m_typed), .int (iI m_thrown), .ref a_m_line, .ref a_m_page, .int (iI m_lines), .int (iI m_pages), .int (iI m_measure), .int (iI m_mostLeft), .int (iI m_mostRight), .int (iI m_spot), .long m_h])), (a_m_s, eI X 975 m_s), (a_m_past, eI X 3900 m_past), (a_m_aside, eI X 975 m_aside), (a_m_text, eI X 200 m_text), (a_m_line, eI X 600 m_line), (a_m_page, eI X 180 m_page)] := hD
  exact hend _ _ _ _ _ _ z1 () hP hD hS h.1 h.2 (Nat.le_of_ble_eq_true rfl) (Nat.le_of_ble_eq_true rfl) dX6_endsOneThere_29
abbrev rmX6_lent : Room := { frames := 0, cells := 0, slots := 0, locals := 0 }
set_option maxHeartbeats 4000000 in
set_option maxRecDepth 100000 in
theorem kX6_lent (l : Launch) (X : XD) (a_m a_m_s a_m_past a_m_aside a_m_text a_m_line a_m_page : Nat) (m_pasts : Int) (m_typed : Int) (m_thrown : Int) (m_lines : Int) (m_pages : Int) (m_measure : Int) (m_mostLeft : Int) (m_mostRight : Int) (m_spot : Int) (m_h : Int64) (m_s : Nat → Int) (m_past : Nat → Int) (m_aside : Nat → Int) (m_text : Nat → Int) (m_line : Nat → Int) (m_page : Nat → Int) (p1 : Int) (post : Int → Prop) (h : wpX6_lent m_line p1 post) : MCi l yX6_lent wsX6_lent rmX6_lent X [.ref a_m, .int (iI p1)] [(a_m, .inr (6, [.ref a_m_s, .ref a_m_past, .ref a_m_aside, .int (iI m_pasts), .ref a_m_text, .int (iI m_typed), .int (iI m_thrown), .ref a_m_line, .ref a_m_page, .int (iI m_lines), .int (iI m_pages), .int (iI m_measure), .int (iI m_mostLeft), .int (iI m_mostRight), .int (iI m_spot), .long m_h])), (a_m_s, eI X 975 m_s), (a_m_past, eI X 3900 m_past), (a_m_aside, eI X 975 m_aside), (a_m_text, eI X 200 m_text), (a_m_line, eI X 600 m_line), (a_m_page, eI X 180 m_page)] (S := Unit) (fun _ => [(a_m, .inr (6, [.ref a_m_s, .ref a_m_past, .ref a_m_aside, .int (iI m_pasts), .ref a_m_text, .int (iI m_typed), .int (iI m_thrown), .ref a_m_line, .ref a_m_page, .int (iI m_lines), .int (iI m_pages), .int (iI m_measure), .int (iI m_mostLeft), .int (iI m_mostRight), .int (iI m_spot), .long m_h])), (a_m_s, eI X 975 m_s), (a_m_past, eI X 3900 m_past), (a_m_aside, eI X 975 m_aside), (a_m_text, eI X 200 m_text), (a_m_line, eI X 600 m_line), (a_m_page, eI X 180 m_page)]) (fun z _ => post z) 0 0 := by
  refine MCi.of (cc := cX6_lent) (maxL := 2) (by decide +kernel) rfl rfl ?_
  intro p e s m args below meth c A ls Q hE0 hP hD hS hl hend
  obtain ⟨hx, hb, hr, hml, hlocks, hown, hts, hK, hE, hA, hnm⟩ := hE0
  have hl : lv_has ls 2 [(0, .ref a_m), (1, .int (iI p1))] := hl
  have hi_X6 : ∀ w ∈ wsX60, w ∈ wsX6_lent := by decide +kernel
  have hf_22 := hts (.fieldLink RX6 22 "LentMarginsModel" "line" "[I") (by decide +kernel)
  refine lv_aload_n hx hb dX6_lent_0 rfl (lv_at hl 0 rfl) ?_
  refine va_get (D := X.1) (ci := 6) (C := RX6) (T := TX6) (N := 16) hx hb hts hi_X6 hown hK hP 0 rfl rfl 7 (by decide) hf_22 (fun _ h9 => h9) rfl dX6_lent_1 ?_
  refine lv_bipush (v := iI 10) hx hb dX6_lent_4 (by decide +kernel) ?_
  refine lv_iload_n hx hb dX6_lent_6 rfl (lv_at hl 1 rfl) ?_
  refine i_mul hx hb dX6_lent_7 ?_
  refine lv_iconst (v := iI 5) hx hb dX6_lent_8 rfl ?_
  refine i_add hx hb dX6_lent_9 ?_
  refine i_ald hx hb hK hP 5 0 rfl rfl h.1 h.2.1 rfl (Nat.le_of_ble_eq_true rfl) dX6_lent_10 ?_
  have h := h.2.2
  refine lv_aload_n hx hb dX6_lent_11 rfl (lv_at hl 0 rfl) ?_
  refine va_get (D := X.1) (ci := 6) (C := RX6) (T := TX6) (N := 16) hx hb hts hi_X6 hown hK hP 0 rfl rfl 7 (by decide) hf_22 (fun _ h9 => h9) rfl dX6_lent_12 ?_
  refine lv_bipush (v := iI 10) hx hb dX6_lent_15 (by decide +kernel) ?_
  refine lv_iload_n hx hb dX6_lent_17 rfl (lv_at hl 1 rfl) ?_
  refine i_mul hx hb dX6_lent_18 ?_
  refine lv_bipush (v := iI 6) hx hb dX6_lent_19 (by decide +kernel) ?_
  refine i_add hx hb dX6_lent_21 ?_
  refine i_ald hx hb hK hP 5 0 rfl rfl h.1 h.2.1 rfl (Nat.le_of_ble_eq_true rfl) dX6_lent_22 ?_
  have h := h.2.2
  refine i_add hx hb dX6_lent_23 ?_
  exact hend _ _ _ _ _ _ (m_line ((10 * p1) + 5).toNat + m_line ((10 * p1) + 6).toNat) () hP hD hS h (Nat.le_of_ble_eq_true rfl) (Nat.le_of_ble_eq_true rfl) dX6_lent_24
abbrev rmX6_empty : Room := { frames := 1, cells := 0, slots := 0, locals := 21 }
set_option maxHeartbeats 4000000 in
set_option maxRecDepth 100000 in
theorem kX6_empty (l : Launch) (X : XD) (a_m a_m_s a_m_past a_m_aside a_m_text a_m_line a_m_page : Nat) (m_pasts : Int) (m_typed : Int) (m_thrown : Int) (m_lines : Int) (m_pages : Int) (m_measure : Int) (m_mostLeft : Int) (m_mostRight : Int) (m_spot : Int) (m_h : Int64) (m_s : Nat → Int) (m_past : Nat → Int) (m_aside : Nat → Int) (m_text : Nat → Int) (m_line : Nat → Int) (m_page : Nat → Int) (p1 : Int) (post : Int → Prop) (h : wpX6_empty m_line p1 post) : MCi l yX6_empty wsX6_empty rmX6_empty X [.ref a_m, .int (iI p1)] [(a_m, .inr (6, [.ref a_m_s, .ref a_m_past, .ref a_m_aside, .int (iI m_pasts), .ref a_m_text, .int (iI m_typed), .int (iI m_thrown), .ref a_m_line, .ref a_m_page, .int (iI m_lines), .int (iI m_pages), .int (iI m_measure), .int (iI m_mostLeft), .int (iI m_mostRight), .int (iI m_spot), .long m_h])), (a_m_s, eI X 975 m_s), (a_m_past, eI X 3900 m_past), (a_m_aside, eI X 975 m_aside), (a_m_text, eI X 200 m_text), (a_m_line, eI X 600 m_line), (a_m_page, eI X 180 m_page)] (S := Unit) (fun _ => [(a_m, .inr (6, [.ref a_m_s, .ref a_m_past, .ref a_m_aside, .int (iI m_pasts), .ref a_m_text, .int (iI m_typed), .int (iI m_thrown), .ref a_m_line, .ref a_m_page, .int (iI m_lines), .int (iI m_pages), .int (iI m_measure), .int (iI m_mostLeft), .int (iI m_mostRight), .int (iI m_spot), .long m_h])), (a_m_s, eI X 975 m_s), (a_m_past, eI X 3900 m_past), (a_m_aside, eI X 975 m_aside), (a_m_text, eI X 200 m_text), (a_m_line, eI X 600 m_line), (a_m_page, eI X 180 m_page)]) (fun z _ => post z) 0 0 := by
  refine MCi.of (cc := cX6_empty) (maxL := 2) (by decide +kernel) rfl rfl ?_
  intro p e s m args below meth c A ls Q hE0 hP hD hS hl hend
  obtain ⟨hx, hb, hr, hml, hlocks, hown, hts, hK, hE, hA, hnm⟩ := hE0
  have hl : lv_has ls 2 [(0, .ref a_m), (1, .int (iI p1))] := hl
  have hi_X6 : ∀ w ∈ wsX60, w ∈ wsX6_empty := by decide +kernel
  have hf_22 := hts (.fieldLink RX6 22 "LentMarginsModel" "line" "[I") (by decide +kernel)
  refine lv_aload_n hx hb dX6_empty_0 rfl (lv_at hl 0 rfl) ?_
  refine va_get (D := X.1) (ci := 6) (C := RX6) (T := TX6) (N := 16) hx hb hts hi_X6 hown hK hP 0 rfl rfl 7 (by decide) hf_22 (fun _ h9 => h9) rfl dX6_empty_1 ?_
  refine lv_bipush (v := iI 10) hx hb dX6_empty_4 (by decide +kernel) ?_
  refine lv_iload_n hx hb dX6_empty_6 rfl (lv_at hl 1 rfl) ?_
  refine i_mul hx hb dX6_empty_7 ?_
  refine lv_bipush (v := iI 9) hx hb dX6_empty_8 (by decide +kernel) ?_
  refine i_add hx hb dX6_empty_10 ?_
  refine i_ald hx hb hK hP 5 0 rfl rfl h.1 h.2.1 rfl (Nat.le_of_ble_eq_true rfl) dX6_empty_11 ?_
  have h := h.2.2
  refine lv_iconst (v := iI 1) hx hb dX6_empty_12 rfl ?_
  refine i_cmp_ne (tgt := 20) hx hb h.1 (inR_lit rfl) dX6_empty_13 (by decide) (fun c1 => ?_) (fun c1 => ?_)
  · have h := h.2.1 c1
    refine lv_aload_n hx hb dX6_empty_20 rfl (lv_at hl 0 rfl) ?_
    refine va_get (D := X.1) (ci := 6) (C := RX6) (T := TX6) (N := 16) hx hb hts hi_X6 hown hK hP 0 rfl rfl 7 (by decide) hf_22 (fun _ h9 => h9) rfl dX6_empty_21 ?_
    refine lv_bipush (v := iI 10) hx hb dX6_empty_24 (by decide +kernel) ?_
    refine lv_iload_n hx hb dX6_empty_26 rfl (lv_at hl 1 rfl) ?_
    refine i_mul hx hb dX6_empty_27 ?_
    refine lv_iconst (v := iI 4) hx hb dX6_empty_28 rfl ?_
    refine i_add hx hb dX6_empty_29 ?_
    refine i_ald hx hb hK hP 5 0 rfl rfl h.1 h.2.1 rfl (Nat.le_of_ble_eq_true rfl) dX6_empty_30 ?_
    have h := h.2.2
    refine lv_aload_n hx hb dX6_empty_31 rfl (lv_at hl 0 rfl) ?_
    refine lv_iload_n hx hb dX6_empty_32 rfl (lv_at hl 1 rfl) ?_
    refine e_i (isC := [0, 1, 2, 3, 4, 5, 6]) (isR := []) (wr := []) (va_runV (As := [.int (iI p1)]) (rest := [.int (iI (m_line ((10 * p1) + 4).toNat))]) ⟨hx, hb, hml, hown, hts⟩ (kX6_lent l X a_m a_m_s a_m_past a_m_aside a_m_text a_m_line a_m_page m_pasts m_typed m_thrown m_lines m_pages m_measure m_mostLeft m_mostRight m_spot m_h m_s m_past m_aside m_text m_line m_page p1 _ h _) (cwV 1 hts gX6_empty_X6_lent rfl rfl rfl (by decide +kernel) ⟨(Nat.le_of_ble_eq_true rfl), (Nat.le_of_ble_eq_true rfl)⟩) ⟨pre_blind, va_recv hK hP (ci := 6) (q0 := 0) rfl rfl, pre_cut hE hK hA hP hD hS (isC := [0, 1, 2, 3, 4, 5, 6]) rfl (by decide +kernel)⟩ rfl rfl hl.1 rfl (lv_room (Nat.le_of_ble_eq_true rfl)) dX6_empty_33 ⟨(Nat.le_of_ble_eq_true rfl), (Nat.le_of_ble_eq_true rfl)⟩) hA hP hD hS rfl rfl (by decide +kernel) (by decide +kernel) (fun z2 u2 H locs h hP hD hS => ?_)
    have hP : va_P X.1 vwCl [(a_m, .inr (6, [.ref a_m_s, .ref a_m_past, .ref a_m_aside, .int (iI m_pasts), .ref a_m_text, .int (iI m_typed), .int (iI m_thrown), .ref a_m_line, .ref a_m_page, .int (iI m_lines), .int (iI m_pages), .int (iI m_measure), .int (iI m_mostLeft), .int (iI m_mostRight), .int (iI m_spot), .long m_h])), (a_m_s, eI X 975 m_s), (a_m_past, eI X 3900 m_past), (a_m_aside, eI X 975 m_aside), (a_m_text, eI X 200 m_text), (a_m_line, eI X 600 m_line), (a_m_page, eI X 180 m_page)] H := hP
    have hD : va_D A [(a_m, .inr (6, [.ref a_m_s, .ref a_m_past, .ref a_m_aside, .int (iI m_pasts), .ref a_m_text, .int (iI m_typed), .int (iI m_thrown), .ref a_m_line, .ref a_m_page, .int (iI m_lines), .int (iI m_pages), .int (iI m_measure), .int (iI m_mostLeft), .int (iI m_mostRight), .int (iI m_spot), .long m_h])), (a_m_s, eI X 975 m_s), (a_m_past, eI X 3900 m_past), (a_m_aside, eI X 975 m_aside), (a_m_text, eI X 200 m_text), (a_m_line, eI X 600 m_line), (a_m_page, eI X 180 m_page)] := hD
    refine i_add hx hb dX6_empty_36 ?_
    refine lv_aload_n hx hb dX6_empty_37 rfl (lv_at hl 0 rfl) ?_
    refine va_get (D := X.1) (ci := 6) (C := RX6) (T := TX6) (N := 16) hx hb hts hi_X6 hown hK hP 0 rfl rfl 7 (by decide) hf_22 (fun _ h9 => h9) rfl dX6_empty_38 ?_
    refine lv_bipush (v := iI 10) hx hb dX6_empty_41 (by decide +kernel) ?_
    refine lv_iload_n hx hb dX6_empty_43 rfl (lv_at hl 1 rfl) ?_
    refine i_mul hx hb dX6_empty_44 ?_
    refine lv_iconst (v := iI 3) hx hb dX6_empty_45 rfl ?_
    refine i_add hx hb dX6_empty_46 ?_
    refine i_ald hx hb hK hP 5 0 rfl rfl h.1 h.2.1 rfl (Nat.le_of_ble_eq_true rfl) dX6_empty_47 ?_
    have h := h.2.2
    refine i_sub hx hb dX6_empty_48 ?_
    exact hend _ _ _ _ _ _ ((m_line ((10 * p1) + 4).toNat + z2) - m_line ((10 * p1) + 3).toNat) () hP hD hS h (Nat.le_of_ble_eq_true rfl) (Nat.le_of_ble_eq_true rfl) dX6_empty_49
  · have h := h.2.2 c1
    refine lv_iconst (v := iI 0) hx hb dX6_empty_16 rfl ?_
    refine lv_goto (tgt := 49) hx hb dX6_empty_17 (by decide) ?_
    exact hend _ _ _ _ _ _ 0 () hP hD hS h (Nat.le_of_ble_eq_true rfl) (Nat.le_of_ble_eq_true rfl) dX6_empty_49
abbrev rmX6_unevennessNow : Room := { frames := 3, cells := 0, slots := 0, locals := 64 }
set_option maxHeartbeats 4000000 in
set_option maxRecDepth 100000 in
theorem kX6_unevennessNow (l : Launch) (X : XD) (a_m a_m_s a_m_past a_m_aside a_m_text a_m_line a_m_page : Nat) (m_pasts : Int) (m_typed : Int) (m_thrown : Int) (m_lines : Int) (m_pages : Int) (m_measure : Int) (m_mostLeft : Int) (m_mostRight : Int) (m_spot : Int) (m_h : Int64) (m_s : Nat → Int) (m_past : Nat → Int) (m_aside : Nat → Int) (m_text : Nat → Int) (m_line : Nat → Int) (m_page : Nat → Int) (post : Int → Prop) (h : wpX6_unevennessNow m_lines m_s m_line post) : MCi l yX6_unevennessNow wsX6_unevennessNow rmX6_unevennessNow X [.ref a_m] [(a_m, .inr (6, [.ref a_m_s, .ref a_m_past, .ref a_m_aside, .int (iI m_pasts), .ref a_m_text, .int (iI m_typed), .int (iI m_thrown), .ref a_m_line, .ref a_m_page, .int (iI m_lines), .int (iI m_pages), .int (iI m_measure), .int (iI m_mostLeft), .int (iI m_mostRight), .int (iI m_spot), .long m_h])), (a_m_s, eI X 975 m_s), (a_m_past, eI X 3900 m_past), (a_m_aside, eI X 975 m_aside), (a_m_text, eI X 200 m_text), (a_m_line, eI X 600 m_line), (a_m_page, eI X 180 m_page)] (S := Unit) (fun _ => [(a_m, .inr (6, [.ref a_m_s, .ref a_m_past, .ref a_m_aside, .int (iI m_pasts), .ref a_m_text, .int (iI m_typed), .int (iI m_thrown), .ref a_m_line, .ref a_m_page, .int (iI m_lines), .int (iI m_pages), .int (iI m_measure), .int (iI m_mostLeft), .int (iI m_mostRight), .int (iI m_spot), .long m_h])), (a_m_s, eI X 975 m_s), (a_m_past, eI X 3900 m_past), (a_m_aside, eI X 975 m_aside), (a_m_text, eI X 200 m_text), (a_m_line, eI X 600 m_line), (a_m_page, eI X 180 m_page)]) (fun z _ => post z) 0 0 := by
  refine MCi.of (cc := cX6_unevennessNow) (maxL := 3) (by decide +kernel) rfl rfl ?_
  intro p e s m args below meth c A ls Q hE0 hP hD hS hl hend
  obtain ⟨hx, hb, hr, hml, hlocks, hown, hts, hK, hE, hA, hnm⟩ := hE0
  have hl : lv_has ls 3 [(0, .ref a_m)] := hl
  have hi_X6 : ∀ w ∈ wsX60, w ∈ wsX6_unevennessNow := by decide +kernel
  have hf_53 := hts (.fieldLink RX6 53 "LentMarginsModel" "lines" "I") (by decide +kernel)
  have B36 : ∀ (k4 : Int → Int → Prop) (hk4 : ∀ (v1 : Int) (v2 : Int), k4 v1 v2 → ∀ (H : Heap) (locs : List Loc) (ls : Array Slot), va_P X.1 vwCl [(a_m, .inr (6, [.ref a_m_s, .ref a_m_past, .ref a_m_aside, .int (iI m_pasts), .ref a_m_text, .int (iI m_typed), .int (iI m_thrown), .ref a_m_line, .ref a_m_page, .int (iI m_lines), .int (iI m_pages), .int (iI m_measure), .int (iI m_mostLeft), .int (iI m_mostRight), .int (iI m_spot), .long m_h])), (a_m_s, eI X 975 m_s), (a_m_past, eI X 3900 m_past), (a_m_aside, eI X 975 m_aside), (a_m_text, eI X 200 m_text), (a_m_line, eI X 600 m_line), (a_m_page, eI X 180 m_page)] H → va_D A [(a_m, .inr (6, [.ref a_m_s, .ref a_m_past, .ref a_m_aside, .int (iI m_pasts), .ref a_m_text, .int (iI m_typed), .int (iI m_thrown), .ref a_m_line, .ref a_m_page, .int (iI m_lines), .int (iI m_pages), .int (iI m_measure), .int (iI m_mostLeft), .int (iI m_mostRight), .int (iI m_spot), .long m_h])), (a_m_s, eI X 975 m_s), (a_m_past, eI X 3900 m_past), (a_m_aside, eI X 975 m_aside), (a_m_text, eI X 200 m_text), (a_m_line, eI X 600 m_line), (a_m_page, eI X 180 m_page)] → va_S A s.heap H locs → lv_has ls 3 [(0, .ref a_m), (1, .int (iI v1)), (2, .int (iI v2))] → W p l e rmX6_unevennessNow s m args below meth c H locs 0 0 Q (F0 m 4 ls [])) (v2 : Int) (w0 : Int) (w1 : Int), wpX6_unevennessNow_36 m_lines m_s m_line post k4 v2 w0 w1 → ∀ (H : Heap) (locs : List Loc) (ls : Array Slot), va_P X.1 vwCl [(a_m, .inr (6, [.ref a_m_s, .ref a_m_past, .ref a_m_aside, .int (iI m_pasts), .ref a_m_text, .int (iI m_typed), .int (iI m_thrown), .ref a_m_line, .ref a_m_page, .int (iI m_lines), .int (iI m_pages), .int (iI m_measure), .int (iI m_mostLeft), .int (iI m_mostRight), .int (iI m_spot), .long m_h])), (a_m_s, eI X 975 m_s), (a_m_past, eI X 3900 m_past), (a_m_aside, eI X 975 m_aside), (a_m_text, eI X 200 m_text), (a_m_line, eI X 600 m_line), (a_m_page, eI X 180 m_page)] H → va_D A [(a_m, .inr (6, [.ref a_m_s, .ref a_m_past, .ref a_m_aside, .int (iI m_pasts), .ref a_m_text, .int (iI m_typed), .int (iI m_thrown), .ref a_m_line, .ref a_m_page, .int (iI m_lines), .int (iI m_pages), .int (iI m_measure), .int (iI m_mostLeft), .int (iI m_mostRight), .int (iI m_spot), .long m_h])), (a_m_s, eI X 975 m_s), (a_m_past, eI X 3900 m_past), (a_m_aside, eI X 975 m_aside), (a_m_text, eI X 200 m_text), (a_m_line, eI X 600 m_line), (a_m_page, eI X 180 m_page)] → va_S A s.heap H locs → lv_has ls 3 [(0, .ref a_m), (2, .int (iI v2))] → W p l e rmX6_unevennessNow s m args below meth c H locs 0 0 Q (F0 m 36 ls [.int (iI w0), .int (iI w1)]) := by
    intro k4 hk4 v2 w0 w1 h H locs ls hP hD hS hl
    refine i_add hx hb dX6_unevennessNow_36 ?_
    refine lv_istore_n (lv' := [(1, .int (iI (w1 + w0))), (0, .ref a_m), (2, .int (iI v2))]) hx hb dX6_unevennessNow_37 rfl hl (by decide) rfl (fun ls hl => ?_)
    refine lv_iinc (v := iI (v2 + 1)) (lv' := [(2, .int (iI (v2 + 1))), (1, .int (iI (w1 + w0))), (0, .ref a_m)]) hx hb dX6_unevennessNow_38 hl (k := 2) rfl (iI_add _ _) (by decide) rfl (fun ls hl => ?_)
    refine lv_goto (tgt := 4) hx hb dX6_unevennessNow_41 (by decide) ?_
    exact hk4 (w1 + w0) (v2 + 1) h _ _ _ hP hD hS (lv_sub hl [2, 1, 0] rfl)
  have B4 : ∀ (n : Nat) (v1 : Int) (v2 : Int), wpX6_unevennessNow_4 m_lines m_s m_line post n v1 v2 → ∀ (H : Heap) (locs : List Loc) (ls : Array Slot), va_P X.1 vwCl [(a_m, .inr (6, [.ref a_m_s, .ref a_m_past, .ref a_m_aside, .int (iI m_pasts), .ref a_m_text, .int (iI m_typed), .int (iI m_thrown), .ref a_m_line, .ref a_m_page, .int (iI m_lines), .int (iI m_pages), .int (iI m_measure), .int (iI m_mostLeft), .int (iI m_mostRight), .int (iI m_spot), .long m_h])), (a_m_s, eI X 975 m_s), (a_m_past, eI X 3900 m_past), (a_m_aside, eI X 975 m_aside), (a_m_text, eI X 200 m_text), (a_m_line, eI X 600 m_line), (a_m_page, eI X 180 m_page)] H → va_D A [(a_m, .inr (6, [.ref a_m_s, .ref a_m_past, .ref a_m_aside, .int (iI m_pasts), .ref a_m_text, .int (iI m_typed), .int (iI m_thrown), .ref a_m_line, .ref a_m_page, .int (iI m_lines), .int (iI m_pages), .int (iI m_measure), .int (iI m_mostLeft), .int (iI m_mostRight), .int (iI m_spot), .long m_h])), (a_m_s, eI X 975 m_s), (a_m_past, eI X 3900 m_past), (a_m_aside, eI X 975 m_aside), (a_m_text, eI X 200 m_text), (a_m_line, eI X 600 m_line), (a_m_page, eI X 180 m_page)] → va_S A s.heap H locs → lv_has ls 3 [(0, .ref a_m), (1, .int (iI v1)), (2, .int (iI v2))] → W p l e rmX6_unevennessNow s m args below meth c H locs 0 0 Q (F0 m 4 ls []) := by
    intro  n
    induction n with
    | zero => intro v1 v2 h; exact h.elim
    | succ n ih =>
      intro v1 v2 h H locs ls hP hD hS hl
      refine lv_iload_n hx hb dX6_unevennessNow_4 rfl (lv_at hl 2 rfl) ?_
      refine lv_aload_n hx hb dX6_unevennessNow_5 rfl (lv_at hl 0 rfl) ?_
      refine va_get (D := X.1) (ci := 6) (C := RX6) (T := TX6) (N := 16) hx hb hts hi_X6 hown hK hP 0 rfl rfl 9 (by decide) hf_53 (fun _ h9 => h9) rfl dX6_unevennessNow_6 ?_
      refine i_cmp_ge (tgt := 44) hx hb h.1 h.2.1 dX6_unevennessNow_9 (by decide) (fun c1 => ?_) (fun c1 => ?_)
      · have h := h.2.2.1 c1
        refine lv_iload_n hx hb dX6_unevennessNow_44 rfl (lv_at hl 1 rfl) ?_
        exact hend _ _ _ _ _ _ v1 () hP hD hS h (Nat.le_of_ble_eq_true rfl) (Nat.le_of_ble_eq_true rfl) dX6_unevennessNow_45
      · have h := h.2.2.2 c1
        refine lv_iload_n hx hb dX6_unevennessNow_12 rfl (lv_at hl 1 rfl) ?_
        refine lv_aload_n hx hb dX6_unevennessNow_13 rfl (lv_at hl 0 rfl) ?_
        refine lv_iload_n hx hb dX6_unevennessNow_14 rfl (lv_at hl 2 rfl) ?_
        refine e_i (isC := [0, 1, 2, 3, 4, 5, 6]) (isR := []) (wr := []) (va_runV (As := [.int (iI v2)]) (rest := [.int (iI v1)]) ⟨hx, hb, hml, hown, hts⟩ (kX6_endsOneThere l X a_m a_m_s a_m_past a_m_aside a_m_text a_m_line a_m_page m_pasts m_typed m_thrown m_lines m_pages m_measure m_mostLeft m_mostRight m_spot m_h m_s m_past m_aside m_text m_line m_page v2 _ h _) (cwV 1 hts gX6_unevennessNow_X6_endsOneThere rfl rfl rfl (by decide +kernel) ⟨(Nat.le_of_ble_eq_true rfl), (Nat.le_of_ble_eq_true rfl)⟩) ⟨pre_blind, va_recv hK hP (ci := 6) (q0 := 0) rfl rfl, pre_cut hE hK hA hP hD hS (isC := [0, 1, 2, 3, 4, 5, 6]) rfl (by decide +kernel)⟩ rfl rfl hl.1 rfl (lv_room (Nat.le_of_ble_eq_true rfl)) dX6_unevennessNow_15 ⟨(Nat.le_of_ble_eq_true rfl), (Nat.le_of_ble_eq_true rfl)⟩) hA hP hD hS rfl rfl (by decide +kernel) (by decide +kernel) (fun z2 u2 H locs h hP hD hS => ?_)
        have hP : va_P X.1 vwCl [(a_m, .inr (6, [.ref a_m_s, .ref a_m_past, .ref a_m_aside, .int (iI m_pasts), .ref a_m_text, .int (iI m_typed), .int (iI m_thrown), .ref a_m_line, .ref a_m_page, .int (iI m_lines), .int (iI m_pages), .int (iI m_measure), .int (iI m_mostLeft), .int (iI m_mostRight), .int (iI m_spot), .long m_h])), (a_m_s, eI X 975 m_s), (a_m_past, eI X 3900 m_past), (a_m_aside, eI X 975 m_aside), (a_m_text, eI X 200 m_text), (a_m_line, eI X 600 m_line), (a_m_page, eI X 180 m_page)] H := hP
        have hD : va_D A [(a_m, .inr (6, [.ref a_m_s, .ref a_m_past, .ref a_m_aside, .int (iI m_pasts), .ref a_m_text, .int (iI m_typed), .int (iI m_thrown), .ref a_m_line, .ref a_m_page, .int (iI m_lines), .int (iI m_pages), .int (iI m_measure), .int (iI m_mostLeft), .int (iI m_mostRight), .int (iI m_spot), .long m_h])), (a_m_s, eI X 975 m_s), (a_m_past, eI X 3900 m_past), (a_m_aside, eI X 975 m_aside), (a_m_text, eI X 200 m_text), (a_m_line, eI X 600 m_line), (a_m_page, eI X 180 m_page)] := hD
        refine i_if_eq (tgt := 25) hx hb h.1 dX6_unevennessNow_18 (by decide) (fun c3 => ?_) (fun c3 => ?_)
        · have h := h.2.1 c3
          refine lv_aload_n hx hb dX6_unevennessNow_25 rfl (lv_at hl 0 rfl) ?_
          refine lv_iload_n hx hb dX6_unevennessNow_26 rfl (lv_at hl 2 rfl) ?_
          refine e_i (isC := [0, 1, 2, 3, 4, 5, 6]) (isR := []) (wr := []) (va_runV (As := [.int (iI v2)]) (rest := [.int (iI v1)]) ⟨hx, hb, hml, hown, hts⟩ (kX6_empty l X a_m a_m_s a_m_past a_m_aside a_m_text a_m_line a_m_page m_pasts m_typed m_thrown m_lines m_pages m_measure m_mostLeft m_mostRight m_spot m_h m_s m_past m_aside m_text m_line m_page v2 _ h _) (cwV 1 hts gX6_unevennessNow_X6_empty rfl rfl rfl (by decide +kernel) ⟨(Nat.le_of_ble_eq_true rfl), (Nat.le_of_ble_eq_true rfl)⟩) ⟨pre_blind, va_recv hK hP (ci := 6) (q0 := 0) rfl rfl, pre_cut hE hK hA hP hD hS (isC := [0, 1, 2, 3, 4, 5, 6]) rfl (by decide +kernel)⟩ rfl rfl hl.1 rfl (lv_room (Nat.le_of_ble_eq_true rfl)) dX6_unevennessNow_27 ⟨(Nat.le_of_ble_eq_true rfl), (Nat.le_of_ble_eq_true rfl)⟩) hA hP hD hS rfl rfl (by decide +kernel) (by decide +kernel) (fun z4 u4 H locs h hP hD hS => ?_)
          have hP : va_P X.1 vwCl [(a_m, .inr (6, [.ref a_m_s, .ref a_m_past, .ref a_m_aside, .int (iI m_pasts), .ref a_m_text, .int (iI m_typed), .int (iI m_thrown), .ref a_m_line, .ref a_m_page, .int (iI m_lines), .int (iI m_pages), .int (iI m_measure), .int (iI m_mostLeft), .int (iI m_mostRight), .int (iI m_spot), .long m_h])), (a_m_s, eI X 975 m_s), (a_m_past, eI X 3900 m_past), (a_m_aside, eI X 975 m_aside), (a_m_text, eI X 200 m_text), (a_m_line, eI X 600 m_line), (a_m_page, eI X 180 m_page)] H := hP
          have hD : va_D A [(a_m, .inr (6, [.ref a_m_s, .ref a_m_past, .ref a_m_aside, .int (iI m_pasts), .ref a_m_text, .int (iI m_typed), .int (iI m_thrown), .ref a_m_line, .ref a_m_page, .int (iI m_lines), .int (iI m_pages), .int (iI m_measure), .int (iI m_mostLeft), .int (iI m_mostRight), .int (iI m_spot), .long m_h])), (a_m_s, eI X 975 m_s), (a_m_past, eI X 3900 m_past), (a_m_aside, eI X 975 m_aside), (a_m_text, eI X 200 m_text), (a_m_line, eI X 600 m_line), (a_m_page, eI X 180 m_page)] := hD
          refine lv_aload_n hx hb dX6_unevennessNow_30 rfl (lv_at hl 0 rfl) ?_
          refine lv_iload_n hx hb dX6_unevennessNow_31 rfl (lv_at hl 2 rfl) ?_
          refine e_i (isC := [0, 1, 2, 3, 4, 5, 6]) (isR := []) (wr := []) (va_runV (As := [.int (iI v2)]) (rest := [.int (iI z4), .int (iI v1)]) ⟨hx, hb, hml, hown, hts⟩ (kX6_empty l X a_m a_m_s a_m_past a_m_aside a_m_text a_m_line a_m_page m_pasts m_typed m_thrown m_lines m_pages m_measure m_mostLeft m_mostRight m_spot m_h m_s m_past m_aside m_text m_line m_page v2 _ h _) (cwV 1 hts gX6_unevennessNow_X6_empty rfl rfl rfl (by decide +kernel) ⟨(Nat.le_of_ble_eq_true rfl), (Nat.le_of_ble_eq_true rfl)⟩) ⟨pre_blind, va_recv hK hP (ci := 6) (q0 := 0) rfl rfl, pre_cut hE hK hA hP hD hS (isC := [0, 1, 2, 3, 4, 5, 6]) rfl (by decide +kernel)⟩ rfl rfl hl.1 rfl (lv_room (Nat.le_of_ble_eq_true rfl)) dX6_unevennessNow_32 ⟨(Nat.le_of_ble_eq_true rfl), (Nat.le_of_ble_eq_true rfl)⟩) hA hP hD hS rfl rfl (by decide +kernel) (by decide +kernel) (fun z5 u5 H locs h hP hD hS => ?_)
          have hP : va_P X.1 vwCl [(a_m, .inr (6, [.ref a_m_s, .ref a_m_past, .ref a_m_aside, .int (iI m_pasts), .ref a_m_text, .int (iI m_typed), .int (iI m_thrown), .ref a_m_line, .ref a_m_page, .int (iI m_lines), .int (iI m_pages), .int (iI m_measure), .int (iI m_mostLeft), .int (iI m_mostRight), .int (iI m_spot), .long m_h])), (a_m_s, eI X 975 m_s), (a_m_past, eI X 3900 m_past), (a_m_aside, eI X 975 m_aside), (a_m_text, eI X 200 m_text), (a_m_line, eI X 600 m_line), (a_m_page, eI X 180 m_page)] H := hP
          have hD : va_D A [(a_m, .inr (6, [.ref a_m_s, .ref a_m_past, .ref a_m_aside, .int (iI m_pasts), .ref a_m_text, .int (iI m_typed), .int (iI m_thrown), .ref a_m_line, .ref a_m_page, .int (iI m_lines), .int (iI m_pages), .int (iI m_measure), .int (iI m_mostLeft), .int (iI m_mostRight), .int (iI m_spot), .long m_h])), (a_m_s, eI X 975 m_s), (a_m_past, eI X 3900 m_past), (a_m_aside, eI X 975 m_aside), (a_m_text, eI X 200 m_text), (a_m_line, eI X 600 m_line), (a_m_page, eI X 180 m_page)] := hD
          refine i_mul hx hb dX6_unevennessNow_35 ?_
          exact B36 (wpX6_unevennessNow_4 m_lines m_s m_line post n) ih v2 (z4 * z5) v1 h _ _ _ hP hD hS (lv_sub hl [0, 2] rfl)
        · have h := h.2.2 c3
          refine lv_iconst (v := iI 0) hx hb dX6_unevennessNow_21 rfl ?_
          refine lv_goto (tgt := 36) hx hb dX6_unevennessNow_22 (by decide) ?_
          exact B36 (wpX6_unevennessNow_4 m_lines m_s m_line post n) ih v2 0 v1 h _ _ _ hP hD hS (lv_sub hl [0, 2] rfl)
  refine lv_iconst (v := iI 0) hx hb dX6_unevennessNow_0 rfl ?_
  refine lv_istore_n (lv' := [(1, .int (iI 0)), (0, .ref a_m)]) hx hb dX6_unevennessNow_1 rfl hl (by decide) rfl (fun ls hl => ?_)
  refine lv_iconst (v := iI 0) hx hb dX6_unevennessNow_2 rfl ?_
  refine lv_istore_n (lv' := [(2, .int (iI 0)), (1, .int (iI 0)), (0, .ref a_m)]) hx hb dX6_unevennessNow_3 rfl hl (by decide) rfl (fun ls hl => ?_)
  obtain ⟨n1, h⟩ := h
  exact B4  n1 0 0 h _ _ _ hP hD hS (lv_sub hl [2, 1, 0] rfl)
abbrev rmX6_areSigns : Room := { frames := 1, cells := 0, slots := 0, locals := 22 }
set_option maxHeartbeats 4000000 in
set_option maxRecDepth 100000 in
theorem kX6_areSigns (l : Launch) (X : XD) (p0 : Int) (p1 : Int) (post : Int → Prop) (h : wpX6_areSigns p0 p1 post) : MCi l yX6_areSigns wsX6_areSigns rmX6_areSigns X [.int (iI p0), .int (iI p1)] [] (S := Unit) (fun _ => []) (fun z _ => post z) 0 0 := by
  refine MCz.of (cc := cX6_areSigns) (maxL := 2) (by decide +kernel) rfl rfl ?_
  intro p e s m args below meth c A ls Q hE0 hP hD hS hl hend
  obtain ⟨hx, hb, hr, hml, hlocks, hown, hts, hK, hE, hA, hnm⟩ := hE0
  have hl : lv_has ls 2 [(0, .int (iI p0)), (1, .int (iI p1))] := hl
  refine lv_iload_n hx hb dX6_areSigns_0 rfl (lv_at hl 0 rfl) ?_
  refine lv_iconst (v := iI (-1)) hx hb dX6_areSigns_1 rfl ?_
  refine lv_iconst (v := iI 1) hx hb dX6_areSigns_2 rfl ?_
  refine e_i (isC := []) (isR := []) (wr := []) (va_runS (As := [.int (iI p0), .int (iI (-1)), .int (iI 1)]) (rest := []) ⟨hx, hb, hml, hown, hts⟩ (kX6_in l X p0 (-1) 1 _ h _) (va_cwS 3 hts gX6_areSigns_X6_in rfl rfl rfl (by decide +kernel) ⟨(Nat.le_of_ble_eq_true rfl), (Nat.le_of_ble_eq_true rfl)⟩) ⟨pre_blind, pre_cut hE hK hA hP hD hS (isC := []) rfl (by decide +kernel)⟩ rfl rfl hl.1 rfl (lv_room (Nat.le_of_ble_eq_true rfl)) dX6_areSigns_3 ⟨(Nat.le_of_ble_eq_true rfl), (Nat.le_of_ble_eq_true rfl)⟩) hA hP hD hS rfl rfl (by decide +kernel) (by decide +kernel) (fun z1 u1 H locs h hP hD hS => ?_)
  have hP : va_P X.1 vwCl [] H := hP
  have hD : va_D A [] := hD
  refine i_if_eq (tgt := 28) hx hb h.1 dX6_areSigns_6 (by decide) (fun c2 => ?_) (fun c2 => ?_)
  · have h := h.2.1 c2
    refine lv_iconst (v := iI 0) hx hb dX6_areSigns_28 rfl ?_
    exact hend _ _ _ _ _ _ 0 () hP hD hS (Or.inl rfl) h (Nat.le_of_ble_eq_true rfl) (Nat.le_of_ble_eq_true rfl) dX6_areSigns_29
  · have h := h.2.2 c2
    refine lv_iload_n hx hb dX6_areSigns_9 rfl (lv_at hl 1 rfl) ?_
    refine lv_iconst (v := iI (-1)) hx hb dX6_areSigns_10 rfl ?_
    refine lv_bipush (v := iI 7) hx hb dX6_areSigns_11 (by decide +kernel) ?_
    refine e_i (isC := []) (isR := []) (wr := []) (va_runS (As := [.int (iI p1), .int (iI (-1)), .int (iI 7)]) (rest := []) ⟨hx, hb, hml, hown, hts⟩ (kX6_in l X p1 (-1) 7 _ h _) (va_cwS 3 hts gX6_areSigns_X6_in rfl rfl rfl (by decide +kernel) ⟨(Nat.le_of_ble_eq_true rfl), (Nat.le_of_ble_eq_true rfl)⟩) ⟨pre_blind, pre_cut hE hK hA hP hD hS (isC := []) rfl (by decide +kernel)⟩ rfl rfl hl.1 rfl (lv_room (Nat.le_of_ble_eq_true rfl)) dX6_areSigns_13 ⟨(Nat.le_of_ble_eq_true rfl), (Nat.le_of_ble_eq_true rfl)⟩) hA hP hD hS rfl rfl (by decide +kernel) (by decide +kernel) (fun z3 u3 H locs h hP hD hS => ?_)
    have hP : va_P X.1 vwCl [] H := hP
    have hD : va_D A [] := hD
    refine i_if_eq (tgt := 28) hx hb h.1 dX6_areSigns_16 (by decide) (fun c4 => ?_) (fun c4 => ?_)
    · have h := h.2.1 c4
      refine lv_iconst (v := iI 0) hx hb dX6_areSigns_28 rfl ?_
      exact hend _ _ _ _ _ _ 0 () hP hD hS (Or.inl rfl) h (Nat.le_of_ble_eq_true rfl) (Nat.le_of_ble_eq_true rfl) dX6_areSigns_29
    · have h := h.2.2 c4
      refine lv_iload_n hx hb dX6_areSigns_19 rfl (lv_at hl 1 rfl) ?_
      refine lv_iconst (v := iI 1) hx hb dX6_areSigns_20 rfl ?_
      refine i_cmp_eq (tgt := 28) hx hb h.1 (inR_lit rfl) dX6_areSigns_21 (by decide) (fun c5 => ?_) (fun c5 => ?_)
      · have h := h.2.1 c5
        refine lv_iconst (v := iI 0) hx hb dX6_areSigns_28 rfl ?_
        exact hend _ _ _ _ _ _ 0 () hP hD hS (Or.inl rfl) h (Nat.le_of_ble_eq_true rfl) (Nat.le_of_ble_eq_true rfl) dX6_areSigns_29
      · have h := h.2.2 c5
        refine lv_iconst (v := iI 1) hx hb dX6_areSigns_24 rfl ?_
        refine lv_goto (tgt := 29) hx hb dX6_areSigns_25 (by decide) ?_
        exact hend _ _ _ _ _ _ 1 () hP hD hS (Or.inr rfl) h (Nat.le_of_ble_eq_true rfl) (Nat.le_of_ble_eq_true rfl) dX6_areSigns_29
abbrev rmX6_opens : Room := { frames := 1, cells := 0, slots := 0, locals := 23 }
set_option maxHeartbeats 4000000 in
set_option maxRecDepth 100000 in
theorem kX6_opens (l : Launch) (X : XD) (a_m a_m_s a_m_past a_m_aside a_m_text a_m_line a_m_page : Nat) (m_pasts : Int) (m_typed : Int) (m_thrown : Int) (m_lines : Int) (m_pages : Int) (m_measure : Int) (m_mostLeft : Int) (m_mostRight : Int) (m_spot : Int) (m_h : Int64) (m_s : Nat → Int) (m_past : Nat → Int) (m_aside : Nat → Int) (m_text : Nat → Int) (m_line : Nat → Int) (m_page : Nat → Int) (p1 : Int) (post : (Nat → Int) → Prop) (h : wpX6_opens m_s p1 post) : MCv l yX6_opens wsX6_opens rmX6_opens X [.ref a_m, .int (iI p1)] [(a_m, .inr (6, [.ref a_m_s, .ref a_m_past, .ref a_m_aside, .int (iI m_pasts), .ref a_m_text, .int (iI m_typed), .int (iI m_thrown), .ref a_m_line, .ref a_m_page, .int (iI m_lines), .int (iI m_pages), .int (iI m_measure), .int (iI m_mostLeft), .int (iI m_mostRight), .int (iI m_spot), .long m_h])), (a_m_s, eI X 975 m_s), (a_m_past, eI X 3900 m_past), (a_m_aside, eI X 975 m_aside), (a_m_text, eI X 200 m_text), (a_m_line, eI X 600 m_line), (a_m_page, eI X 180 m_page)] (S := Nat → Int) (fun u => [(a_m, .inr (6, [.ref a_m_s, .ref a_m_past, .ref a_m_aside, .int (iI m_pasts), .ref a_m_text, .int (iI m_typed), .int (iI m_thrown), .ref a_m_line, .ref a_m_page, .int (iI m_lines), .int (iI m_pages), .int (iI m_measure), .int (iI m_mostLeft), .int (iI m_mostRight), .int (iI m_spot), .long m_h])), (a_m_s, eI X 975 u), (a_m_past, eI X 3900 m_past), (a_m_aside, eI X 975 m_aside), (a_m_text, eI X 200 m_text), (a_m_line, eI X 600 m_line), (a_m_page, eI X 180 m_page)]) (fun u => post u) 0 0 := by
  refine MCv.of (cc := cX6_opens) (maxL := 3) (by decide +kernel) rfl rfl ?_
  intro p e s m args below meth c A ls Q hE0 hP hD hS hl hend
  obtain ⟨hx, hb, hr, hml, hlocks, hown, hts, hK, hE, hA, hnm⟩ := hE0
  have hl : lv_has ls 3 [(0, .ref a_m), (1, .int (iI p1))] := hl
  have hi_X6 : ∀ w ∈ wsX60, w ∈ wsX6_opens := by decide +kernel
  have hf_7 := hts (.fieldLink RX6 7 "LentMarginsModel" "s" "[I") (by decide +kernel)
  have B61 : ∀ (n : Nat) (m_s : Nat → Int) (v1 : Int) (v2 : Int), wpX6_opens_61 post n m_s v1 v2 → ∀ (H : Heap) (locs : List Loc) (ls : Array Slot), va_P X.1 vwCl [(a_m, .inr (6, [.ref a_m_s, .ref a_m_past, .ref a_m_aside, .int (iI m_pasts), .ref a_m_text, .int (iI m_typed), .int (iI m_thrown), .ref a_m_line, .ref a_m_page, .int (iI m_lines), .int (iI m_pages), .int (iI m_measure), .int (iI m_mostLeft), .int (iI m_mostRight), .int (iI m_spot), .long m_h])), (a_m_s, eI X 975 m_s), (a_m_past, eI X 3900 m_past), (a_m_aside, eI X 975 m_aside), (a_m_text, eI X 200 m_text), (a_m_line, eI X 600 m_line), (a_m_page, eI X 180 m_page)] H → va_D A [(a_m, .inr (6, [.ref a_m_s, .ref a_m_past, .ref a_m_aside, .int (iI m_pasts), .ref a_m_text, .int (iI m_typed), .int (iI m_thrown), .ref a_m_line, .ref a_m_page, .int (iI m_lines), .int (iI m_pages), .int (iI m_measure), .int (iI m_mostLeft), .int (iI m_mostRight), .int (iI m_spot), .long m_h])), (a_m_s, eI X 975 m_s), (a_m_past, eI X 3900 m_past), (a_m_aside, eI X 975 m_aside), (a_m_text, eI X 200 m_text), (a_m_line, eI X 600 m_line), (a_m_page, eI X 180 m_page)] → va_S A s.heap H locs → lv_has ls 3 [(0, .ref a_m), (1, .int (iI v1)), (2, .int (iI v2))] → W p l e rmX6_opens s m args below meth c H locs 0 0 Q (F0 m 61 ls []) := by
    intro  n
    induction n with
    | zero => intro m_s v1 v2 h; exact h.elim
    | succ n ih =>
      intro m_s v1 v2 h H locs ls hP hD hS hl
      refine lv_iload_n hx hb dX6_opens_61 rfl (lv_at hl 2 rfl) ?_
      refine lv_bipush (v := iI 16) hx hb dX6_opens_62 (by decide +kernel) ?_
      refine i_cmp_ge (tgt := 80) hx hb h.1 (inR_lit rfl) dX6_opens_64 (by decide) (fun c1 => ?_) (fun c1 => ?_)
      · have h := h.2.1 c1
        exact hend _ _ _ _ _ _ m_s hP hD hS h (Nat.le_of_ble_eq_true rfl) (Nat.le_of_ble_eq_true rfl) dX6_opens_80
      · have h := h.2.2 c1
        refine lv_aload_n hx hb dX6_opens_67 rfl (lv_at hl 0 rfl) ?_
        refine lv_iload_n hx hb dX6_opens_68 rfl (lv_at hl 1 rfl) ?_
        refine lv_iload_n hx hb dX6_opens_69 rfl (lv_at hl 2 rfl) ?_
        refine lv_iconst (v := iI 0) hx hb dX6_opens_70 rfl ?_
        refine e_v (isC := [0, 1, 2, 3, 4, 5, 6]) (isR := []) (wr := []) (va_runV (As := [.int (iI v1), .int (iI v2), .int (iI 0)]) (rest := []) ⟨hx, hb, hml, hown, hts⟩ (kX6_puts l X a_m a_m_s a_m_past a_m_aside a_m_text a_m_line a_m_page m_pasts m_typed m_thrown m_lines m_pages m_measure m_mostLeft m_mostRight m_spot m_h m_s m_past m_aside m_text m_line m_page v1 v2 0 _ h _) (cwV 3 hts gX6_opens_X6_puts rfl rfl rfl (by decide +kernel) ⟨(Nat.le_of_ble_eq_true rfl), (Nat.le_of_ble_eq_true rfl)⟩) ⟨pre_blind, va_recv hK hP (ci := 6) (q0 := 0) rfl rfl, pre_cut hE hK hA hP hD hS (isC := [0, 1, 2, 3, 4, 5, 6]) rfl (by decide +kernel)⟩ rfl rfl hl.1 rfl (lv_room (Nat.le_of_ble_eq_true rfl)) dX6_opens_71 ⟨(Nat.le_of_ble_eq_true rfl), (Nat.le_of_ble_eq_true rfl)⟩) hA hP hD hS rfl rfl (by decide +kernel) (by decide +kernel) (fun m_s_2 H locs h hP hD hS => ?_)
        have hP : va_P X.1 vwCl [(a_m, .inr (6, [.ref a_m_s, .ref a_m_past, .ref a_m_aside, .int (iI m_pasts), .ref a_m_text, .int (iI m_typed), .int (iI m_thrown), .ref a_m_line, .ref a_m_page, .int (iI m_lines), .int (iI m_pages), .int (iI m_measure), .int (iI m_mostLeft), .int (iI m_mostRight), .int (iI m_spot), .long m_h])), (a_m_s, eI X 975 m_s_2), (a_m_past, eI X 3900 m_past), (a_m_aside, eI X 975 m_aside), (a_m_text, eI X 200 m_text), (a_m_line, eI X 600 m_line), (a_m_page, eI X 180 m_page)] H := hP
        have hD : va_D A [(a_m, .inr (6, [.ref a_m_s, .ref a_m_past, .ref a_m_aside, .int (iI m_pasts), .ref a_m_text, .int (iI m_typed), .int (iI m_thrown), .ref a_m_line, .ref a_m_page, .int (iI m_lines), .int (iI m_pages), .int (iI m_measure), .int (iI m_mostLeft), .int (iI m_mostRight), .int (iI m_spot), .long m_h])), (a_m_s, eI X 975 m_s_2), (a_m_past, eI X 3900 m_past), (a_m_aside, eI X 975 m_aside), (a_m_text, eI X 200 m_text), (a_m_line, eI X 600 m_line), (a_m_page, eI X 180 m_page)] := hD
        refine lv_iinc (v := iI (v2 + 1)) (lv' := [(2, .int (iI (v2 + 1))), (0, .ref a_m), (1, .int (iI v1))]) hx hb dX6_opens_74 hl (k := 2) rfl (iI_add _ _) (by decide) rfl (fun ls hl => ?_)
        refine lv_goto (tgt := 61) hx hb dX6_opens_77 (by decide) ?_
        exact ih m_s_2 v1 (v2 + 1) h _ _ _ hP hD hS (lv_sub hl [1, 2, 0] rfl)
  have B16 : ∀ (n : Nat) (m_s : Nat → Int) (v1 : Int) (v2 : Int), wpX6_opens_16 post n m_s v1 v2 → ∀ (H : Heap) (locs : List Loc) (ls : Array Slot), va_P X.1 vwCl [(a_m, .inr (6, [.ref a_m_s, .ref a_m_past, .ref a_m_aside, .int (iI m_pasts), .ref a_m_text, .int (iI m_typed), .int (iI m_thrown), .ref a_m_line, .ref a_m_page, .int (iI m_lines), .int (iI m_pages), .int (iI m_measure), .int (iI m_mostLeft), .int (iI m_mostRight), .int (iI m_spot), .long m_h])), (a_m_s, eI X 975 m_s), (a_m_past, eI X 3900 m_past), (a_m_aside, eI X 975 m_aside), (a_m_text, eI X 200 m_text), (a_m_line, eI X 600 m_line), (a_m_page, eI X 180 m_page)] H → va_D A [(a_m, .inr (6, [.ref a_m_s, .ref a_m_past, .ref a_m_aside, .int (iI m_pasts), .ref a_m_text, .int (iI m_typed), .int (iI m_thrown), .ref a_m_line, .ref a_m_page, .int (iI m_lines), .int (iI m_pages), .int (iI m_measure), .int (iI m_mostLeft), .int (iI m_mostRight), .int (iI m_spot), .long m_h])), (a_m_s, eI X 975 m_s), (a_m_past, eI X 3900 m_past), (a_m_aside, eI X 975 m_aside), (a_m_text, eI X 200 m_text), (a_m_line, eI X 600 m_line), (a_m_page, eI X 180 m_page)] → va_S A s.heap H locs → lv_has ls 3 [(0, .ref a_m), (1, .int (iI v1)), (2, .int (iI v2))] → W p l e rmX6_opens s m args below meth c H locs 0 0 Q (F0 m 16 ls []) := by
    intro  n
    induction n with
    | zero => intro m_s v1 v2 h; exact h.elim
    | succ n ih =>
      intro m_s v1 v2 h H locs ls hP hD hS hl
      refine lv_iload_n hx hb dX6_opens_16 rfl (lv_at hl 2 rfl) ?_
      refine lv_bipush (v := iI 15) hx hb dX6_opens_17 (by decide +kernel) ?_
      refine lv_bipush (v := iI 16) hx hb dX6_opens_19 (by decide +kernel) ?_
      refine lv_iload_n hx hb dX6_opens_21 rfl (lv_at hl 1 rfl) ?_
      refine i_mul hx hb dX6_opens_22 ?_
      refine i_add hx hb dX6_opens_23 ?_
      refine i_cmp_lt (tgt := 48) hx hb h.1 h.2.1 dX6_opens_24 (by decide) (fun c1 => ?_) (fun c1 => ?_)
      · have h := h.2.2.1 c1
        refine lv_aload_n hx hb dX6_opens_48 rfl (lv_at hl 0 rfl) ?_
        refine va_get (D := X.1) (ci := 6) (C := RX6) (T := TX6) (N := 16) hx hb hts hi_X6 hown hK hP 0 rfl rfl 0 (by decide) hf_7 (fun _ h9 => h9) rfl dX6_opens_49 ?_
        refine lv_bipush (v := iI 14) hx hb dX6_opens_52 (by decide +kernel) ?_
        refine lv_dup2_11 hx hb dX6_opens_54 rfl rfl ?_
        refine i_ald hx hb hK hP 1 0 rfl rfl (by decide) (by decide) rfl (Nat.le_of_ble_eq_true rfl) dX6_opens_55 ?_
        refine lv_iconst (v := iI 1) hx hb dX6_opens_56 rfl ?_
        refine i_add hx hb dX6_opens_57 ?_
        refine i_ast hx hb hK hP hD hS 1 0 rfl rfl (by decide) (by decide) rfl (Nat.le_of_ble_eq_true rfl) dX6_opens_58 (fun H locs hP hD hS => ?_)
        have hP : va_P X.1 vwCl [(a_m, .inr (6, [.ref a_m_s, .ref a_m_past, .ref a_m_aside, .int (iI m_pasts), .ref a_m_text, .int (iI m_typed), .int (iI m_thrown), .ref a_m_line, .ref a_m_page, .int (iI m_lines), .int (iI m_pages), .int (iI m_measure), .int (iI m_mostLeft), .int (iI m_mostRight), .int (iI m_spot), .long m_h])), (a_m_s, eI X 975 (updI m_s 14 (m_s 14 + 1))), (a_m_past, eI X 3900 m_past), (a_m_aside, eI X 975 m_aside), (a_m_text, eI X 200 m_text), (a_m_line, eI X 600 m_line), (a_m_page, eI X 180 m_page)] H := hP
        have hD : va_D A [(a_m, .inr (6, [.ref a_m_s, .ref a_m_past, .ref a_m_aside, .int (iI m_pasts), .ref a_m_text, .int (iI m_typed), .int (iI m_thrown), .ref a_m_line, .ref a_m_page, .int (iI m_lines), .int (iI m_pages), .int (iI m_measure), .int (iI m_mostLeft), .int (iI m_mostRight), .int (iI m_spot), .long m_h])), (a_m_s, eI X 975 (updI m_s 14 (m_s 14 + 1))), (a_m_past, eI X 3900 m_past), (a_m_aside, eI X 975 m_aside), (a_m_text, eI X 200 m_text), (a_m_line, eI X 600 m_line), (a_m_page, eI X 180 m_page)] := hD
        refine lv_iconst (v := iI 0) hx hb dX6_opens_59 rfl ?_
        refine lv_istore_n (lv' := [(2, .int (iI 0)), (0, .ref a_m), (1, .int (iI v1))]) hx hb dX6_opens_60 rfl hl (by decide) rfl (fun ls hl => ?_)
        obtain ⟨n2, h⟩ := h
        exact B61  n2 (updI m_s 14 (m_s 14 + 1)) v1 0 h _ _ _ hP hD hS (lv_sub hl [1, 2, 0] rfl)
      · have h := h.2.2.2 c1
        refine lv_aload_n hx hb dX6_opens_27 rfl (lv_at hl 0 rfl) ?_
        refine va_get (D := X.1) (ci := 6) (C := RX6) (T := TX6) (N := 16) hx hb hts hi_X6 hown hK hP 0 rfl rfl 0 (by decide) hf_7 (fun _ h9 => h9) rfl dX6_opens_28 ?_
        refine lv_iload_n hx hb dX6_opens_31 rfl (lv_at hl 2 rfl) ?_
        refine lv_bipush (v := iI 16) hx hb dX6_opens_32 (by decide +kernel) ?_
        refine i_add hx hb dX6_opens_34 ?_
        refine lv_aload_n hx hb dX6_opens_35 rfl (lv_at hl 0 rfl) ?_
        refine va_get (D := X.1) (ci := 6) (C := RX6) (T := TX6) (N := 16) hx hb hts hi_X6 hown hK hP 0 rfl rfl 0 (by decide) hf_7 (fun _ h9 => h9) rfl dX6_opens_36 ?_
        refine lv_iload_n hx hb dX6_opens_39 rfl (lv_at hl 2 rfl) ?_
        refine i_ald hx hb hK hP 1 0 rfl rfl h.1 h.2.1 rfl (Nat.le_of_ble_eq_true rfl) dX6_opens_40 ?_
        have h := h.2.2
        refine i_ast hx hb hK hP hD hS 1 0 rfl rfl h.1 h.2.1 rfl (Nat.le_of_ble_eq_true rfl) dX6_opens_41 (fun H locs hP hD hS => ?_)
        have hP : va_P X.1 vwCl [(a_m, .inr (6, [.ref a_m_s, .ref a_m_past, .ref a_m_aside, .int (iI m_pasts), .ref a_m_text, .int (iI m_typed), .int (iI m_thrown), .ref a_m_line, .ref a_m_page, .int (iI m_lines), .int (iI m_pages), .int (iI m_measure), .int (iI m_mostLeft), .int (iI m_mostRight), .int (iI m_spot), .long m_h])), (a_m_s, eI X 975 (updI m_s (v2 + 16).toNat (m_s (v2).toNat))), (a_m_past, eI X 3900 m_past), (a_m_aside, eI X 975 m_aside), (a_m_text, eI X 200 m_text), (a_m_line, eI X 600 m_line), (a_m_page, eI X 180 m_page)] H := hP
        have hD : va_D A [(a_m, .inr (6, [.ref a_m_s, .ref a_m_past, .ref a_m_aside, .int (iI m_pasts), .ref a_m_text, .int (iI m_typed), .int (iI m_thrown), .ref a_m_line, .ref a_m_page, .int (iI m_lines), .int (iI m_pages), .int (iI m_measure), .int (iI m_mostLeft), .int (iI m_mostRight), .int (iI m_spot), .long m_h])), (a_m_s, eI X 975 (updI m_s (v2 + 16).toNat (m_s (v2).toNat))), (a_m_past, eI X 3900 m_past), (a_m_aside, eI X 975 m_aside), (a_m_text, eI X 200 m_text), (a_m_line, eI X 600 m_line), (a_m_page, eI X 180 m_page)] := hD
        have h := h.2.2
        refine lv_iinc (v := iI (v2 + (-1))) (lv' := [(2, .int (iI (v2 + (-1)))), (0, .ref a_m), (1, .int (iI v1))]) hx hb dX6_opens_42 hl (k := 2) rfl (iI_add _ _) (by decide) rfl (fun ls hl => ?_)
        refine lv_goto (tgt := 16) hx hb dX6_opens_45 (by decide) ?_
        exact ih (updI m_s (v2 + 16).toNat (m_s (v2).toNat)) v1 (v2 + (-1)) h _ _ _ hP hD hS (lv_sub hl [1, 2, 0] rfl)
  refine lv_bipush (v := iI 15) hx hb dX6_opens_0 (by decide +kernel) ?_
  refine lv_bipush (v := iI 16) hx hb dX6_opens_2 (by decide +kernel) ?_
  refine lv_aload_n hx hb dX6_opens_4 rfl (lv_at hl 0 rfl) ?_
  refine va_get (D := X.1) (ci := 6) (C := RX6) (T := TX6) (N := 16) hx hb hts hi_X6 hown hK hP 0 rfl rfl 0 (by decide) hf_7 (fun _ h9 => h9) rfl dX6_opens_5 ?_
  refine lv_bipush (v := iI 14) hx hb dX6_opens_8 (by decide +kernel) ?_
  refine i_ald hx hb hK hP 1 0 rfl rfl (by decide) (by decide) rfl (Nat.le_of_ble_eq_true rfl) dX6_opens_10 ?_
  refine i_mul hx hb dX6_opens_11 ?_
  refine i_add hx hb dX6_opens_12 ?_
  refine lv_iconst (v := iI 1) hx hb dX6_opens_13 rfl ?_
  refine i_sub hx hb dX6_opens_14 ?_
  refine lv_istore_n (lv' := [(2, .int (iI ((15 + (16 * m_s 14)) - 1))), (0, .ref a_m), (1, .int (iI p1))]) hx hb dX6_opens_15 rfl hl (by decide) rfl (fun ls hl => ?_)
  obtain ⟨n1, h⟩ := h
  exact B16  n1 m_s p1 ((15 + (16 * m_s 14)) - 1) h _ _ _ hP hD hS (lv_sub hl [1, 2, 0] rfl)

