abbrev rmX3_has : Room := { frames := 0, cells := 0, slots := 0, locals := 0 }
set_option maxHeartbeats 4000000 in
set_option maxRecDepth 100000 in
theorem kX3_has (l : Launch) (X : XD) (a_s a_s_letters a_s_lengths a_s_bodies a_s_ahead a_s_behind a_s_ends a_s_settings a_s_shares : Nat) (s_count : Int) (s_letters : Nat → Int) (s_lengths : Nat → Int) (s_bodies : Nat → Int) (s_ahead : Nat → Int) (s_behind : Nat → Int) (s_ends : Nat → Int) (s_settings : Nat → Int) (s_shares : Nat → Int) (p1 : Int) (post : Int → Prop) (h : wpX3_has s_count p1 post) : MCi l yX3_has wsX3_has rmX3_has X [.ref a_s, .int (iI p1)] [(a_s, .inr (3, [.int (iI s_count), .ref a_s_letters, .ref a_s_lengths, .ref a_s_bodies, .ref a_s_ahead, .ref a_s_behind, .ref a_s_ends, .ref a_s_settings, .ref a_s_shares])), (a_s_letters, eI X 720 s_letters), (a_s_lengths, eI X 60 s_lengths), (a_s_bodies, eI X 60 s_bodies), (a_s_ahead, eI X 60 s_ahead), (a_s_behind, eI X 60 s_behind), (a_s_ends, eZ X 60 s_ends), (a_s_settings, eI X 6 s_settings), (a_s_shares, eI X 8 s_shares)] (S := Unit) (fun _ => [(a_s, .inr (3, [.int (iI s_count), .ref a_s_letters, .ref a_s_lengths, .ref a_s_bodies, .ref a_s_ahead, .ref a_s_behind, .ref a_s_ends, .ref a_s_settings, .ref a_s_shares])), (a_s_letters, eI X 720 s_letters), (a_s_lengths, eI X 60 s_lengths), (a_s_bodies, eI X 60 s_bodies), (a_s_ahead, eI X 60 s_ahead), (a_s_behind, eI X 60 s_behind), (a_s_ends, eZ X 60 s_ends), (a_s_settings, eI X 6 s_settings), (a_s_shares, eI X 8 s_shares)]) (fun z _ => post z) 0 0 := by
  refine MCz.of (cc := cX3_has) (maxL := 2) (by decide +kernel) rfl rfl ?_
  intro p e s m args below meth c A ls Q hE0 hP hD hS hl hend
  obtain ⟨hx, hb, hr, hml, hlocks, hown, hts, hK, hE, hA, hnm⟩ := hE0
  have hl : lv_has ls 2 [(0, .ref a_s), (1, .int (iI p1))] := hl
  have hi_X3 : ∀ w ∈ wsX30, w ∈ wsX3_has := by decide +kernel
  have hf_48 := hts (.fieldLink RX3 48 "LentMargins$Script" "count" "I") (by decide +kernel)
  refine lv_iload_n hx hb dX3_has_0 rfl (lv_at hl 1 rfl) ?_
  refine i_if_lt (tgt := 22) hx hb h.1 dX3_has_1 (by decide) (fun c1 => ?_) (fun c1 => ?_)
  · have h := h.2.1 c1
    refine lv_iconst (v := iI 0) hx hb dX3_has_22 rfl ?_
    exact hend _ _ _ _ _ _ 0 () hP hD hS (Or.inl rfl) h (Nat.le_of_ble_eq_true rfl) (Nat.le_of_ble_eq_true rfl) dX3_has_23
  · have h := h.2.2 c1
    refine lv_iload_n hx hb dX3_has_4 rfl (lv_at hl 1 rfl) ?_
    refine lv_aload_n hx hb dX3_has_5 rfl (lv_at hl 0 rfl) ?_
    refine va_get (D := X.1) (ci := 3) (C := RX3) (T := TX3) (N := 9) hx hb hts hi_X3 hown hK hP 0 rfl rfl 0 (by decide) hf_48 (fun _ h9 => h9) rfl dX3_has_6 ?_
    refine i_cmp_ge (tgt := 22) hx hb h.1 h.2.1 dX3_has_9 (by decide) (fun c2 => ?_) (fun c2 => ?_)
    · have h := h.2.2.1 c2
      refine lv_iconst (v := iI 0) hx hb dX3_has_22 rfl ?_
      exact hend _ _ _ _ _ _ 0 () hP hD hS (Or.inl rfl) h (Nat.le_of_ble_eq_true rfl) (Nat.le_of_ble_eq_true rfl) dX3_has_23
    · have h := h.2.2.2 c2
      refine lv_iload_n hx hb dX3_has_12 rfl (lv_at hl 1 rfl) ?_
      refine lv_bipush (v := iI 60) hx hb dX3_has_13 (by decide +kernel) ?_
      refine i_cmp_ge (tgt := 22) hx hb h.1 (inR_lit rfl) dX3_has_15 (by decide) (fun c3 => ?_) (fun c3 => ?_)
      · have h := h.2.1 c3
        refine lv_iconst (v := iI 0) hx hb dX3_has_22 rfl ?_
        exact hend _ _ _ _ _ _ 0 () hP hD hS (Or.inl rfl) h (Nat.le_of_ble_eq_true rfl) (Nat.le_of_ble_eq_true rfl) dX3_has_23
      · have h := h.2.2 c3
        refine lv_iconst (v := iI 1) hx hb dX3_has_18 rfl ?_
        refine lv_goto (tgt := 23) hx hb dX3_has_19 (by decide) ?_
        exact hend _ _ _ _ _ _ 1 () hP hD hS (Or.inr rfl) h (Nat.le_of_ble_eq_true rfl) (Nat.le_of_ble_eq_true rfl) dX3_has_23
abbrev rmX3_setting : Room := { frames := 0, cells := 0, slots := 0, locals := 0 }
set_option maxHeartbeats 4000000 in
set_option maxRecDepth 100000 in
theorem kX3_setting (l : Launch) (X : XD) (a_s a_s_letters a_s_lengths a_s_bodies a_s_ahead a_s_behind a_s_ends a_s_settings a_s_shares : Nat) (s_count : Int) (s_letters : Nat → Int) (s_lengths : Nat → Int) (s_bodies : Nat → Int) (s_ahead : Nat → Int) (s_behind : Nat → Int) (s_ends : Nat → Int) (s_settings : Nat → Int) (s_shares : Nat → Int) (p1 : Int) (post : Int → Prop) (h : wpX3_setting s_settings p1 post) : MCi l yX3_setting wsX3_setting rmX3_setting X [.ref a_s, .int (iI p1)] [(a_s, .inr (3, [.int (iI s_count), .ref a_s_letters, .ref a_s_lengths, .ref a_s_bodies, .ref a_s_ahead, .ref a_s_behind, .ref a_s_ends, .ref a_s_settings, .ref a_s_shares])), (a_s_letters, eI X 720 s_letters), (a_s_lengths, eI X 60 s_lengths), (a_s_bodies, eI X 60 s_bodies), (a_s_ahead, eI X 60 s_ahead), (a_s_behind, eI X 60 s_behind), (a_s_ends, eZ X 60 s_ends), (a_s_settings, eI X 6 s_settings), (a_s_shares, eI X 8 s_shares)] (S := Unit) (fun _ => [(a_s, .inr (3, [.int (iI s_count), .ref a_s_letters, .ref a_s_lengths, .ref a_s_bodies, .ref a_s_ahead, .ref a_s_behind, .ref a_s_ends, .ref a_s_settings, .ref a_s_shares])), (a_s_letters, eI X 720 s_letters), (a_s_lengths, eI X 60 s_lengths), (a_s_bodies, eI X 60 s_bodies), (a_s_ahead, eI X 60 s_ahead), (a_s_behind, eI X 60 s_behind), (a_s_ends, eZ X 60 s_ends), (a_s_settings, eI X 6 s_settings), (a_s_shares, eI X 8 s_shares)]) (fun z _ => post z) 0 0 := by
  refine MCi.of (cc := cX3_setting) (maxL := 2) (by decide +kernel) rfl rfl ?_
  intro p e s m args below meth c A ls Q hE0 hP hD hS hl hend
  obtain ⟨hx, hb, hr, hml, hlocks, hown, hts, hK, hE, hA, hnm⟩ := hE0
  have hl : lv_has ls 2 [(0, .ref a_s), (1, .int (iI p1))] := hl
  have hi_X3 : ∀ w ∈ wsX30, w ∈ wsX3_setting := by decide +kernel
  have hf_39 := hts (.fieldLink RX3 39 "LentMargins$Script" "settings" "[I") (by decide +kernel)
  refine lv_iload_n hx hb dX3_setting_0 rfl (lv_at hl 1 rfl) ?_
  refine i_if_lt (tgt := 19) hx hb h.1 dX3_setting_1 (by decide) (fun c1 => ?_) (fun c1 => ?_)
  · have h := h.2.1 c1
    refine lv_iconst (v := iI 0) hx hb dX3_setting_19 rfl ?_
    exact hend _ _ _ _ _ _ 0 () hP hD hS h (Nat.le_of_ble_eq_true rfl) (Nat.le_of_ble_eq_true rfl) dX3_setting_20
  · have h := h.2.2 c1
    refine lv_iload_n hx hb dX3_setting_4 rfl (lv_at hl 1 rfl) ?_
    refine lv_bipush (v := iI 6) hx hb dX3_setting_5 (by decide +kernel) ?_
    refine i_cmp_ge (tgt := 19) hx hb h.1 (inR_lit rfl) dX3_setting_7 (by decide) (fun c2 => ?_) (fun c2 => ?_)
    · have h := h.2.1 c2
      refine lv_iconst (v := iI 0) hx hb dX3_setting_19 rfl ?_
      exact hend _ _ _ _ _ _ 0 () hP hD hS h (Nat.le_of_ble_eq_true rfl) (Nat.le_of_ble_eq_true rfl) dX3_setting_20
    · have h := h.2.2 c2
      refine lv_aload_n hx hb dX3_setting_10 rfl (lv_at hl 0 rfl) ?_
      refine va_get (D := X.1) (ci := 3) (C := RX3) (T := TX3) (N := 9) hx hb hts hi_X3 hown hK hP 0 rfl rfl 7 (by decide) hf_39 (fun _ h9 => h9) rfl dX3_setting_11 ?_
      refine lv_iload_n hx hb dX3_setting_14 rfl (lv_at hl 1 rfl) ?_
      refine i_ald hx hb hK hP 7 0 rfl rfl h.1 h.2.1 rfl (Nat.le_of_ble_eq_true rfl) dX3_setting_15 ?_
      have h := h.2.2
      refine lv_goto (tgt := 20) hx hb dX3_setting_16 (by decide) ?_
      exact hend _ _ _ _ _ _ (s_settings (p1).toNat) () hP hD hS h (Nat.le_of_ble_eq_true rfl) (Nat.le_of_ble_eq_true rfl) dX3_setting_20
abbrev rmX3_shareOf : Room := { frames := 0, cells := 0, slots := 0, locals := 0 }
set_option maxHeartbeats 4000000 in
set_option maxRecDepth 100000 in
theorem kX3_shareOf (l : Launch) (X : XD) (a_s a_s_letters a_s_lengths a_s_bodies a_s_ahead a_s_behind a_s_ends a_s_settings a_s_shares : Nat) (s_count : Int) (s_letters : Nat → Int) (s_lengths : Nat → Int) (s_bodies : Nat → Int) (s_ahead : Nat → Int) (s_behind : Nat → Int) (s_ends : Nat → Int) (s_settings : Nat → Int) (s_shares : Nat → Int) (p1 : Int) (post : Int → Prop) (h : wpX3_shareOf s_shares p1 post) : MCi l yX3_shareOf wsX3_shareOf rmX3_shareOf X [.ref a_s, .int (iI p1)] [(a_s, .inr (3, [.int (iI s_count), .ref a_s_letters, .ref a_s_lengths, .ref a_s_bodies, .ref a_s_ahead, .ref a_s_behind, .ref a_s_ends, .ref a_s_settings, .ref a_s_shares])), (a_s_letters, eI X 720 s_letters), (a_s_lengths, eI X 60 s_lengths), (a_s_bodies, eI X 60 s_bodies), (a_s_ahead, eI X 60 s_ahead), (a_s_behind, eI X 60 s_behind), (a_s_ends, eZ X 60 s_ends), (a_s_settings, eI X 6 s_settings), (a_s_shares, eI X 8 s_shares)] (S := Unit) (fun _ => [(a_s, .inr (3, [.int (iI s_count), .ref a_s_letters, .ref a_s_lengths, .ref a_s_bodies, .ref a_s_ahead, .ref a_s_behind, .ref a_s_ends, .ref a_s_settings, .ref a_s_shares])), (a_s_letters, eI X 720 s_letters), (a_s_lengths, eI X 60 s_lengths), (a_s_bodies, eI X 60 s_bodies), (a_s_ahead, eI X 60 s_ahead), (a_s_behind, eI X 60 s_behind), (a_s_ends, eZ X 60 s_ends), (a_s_settings, eI X 6 s_settings), (a_s_shares, eI X 8 s_shares)]) (fun z _ => post z) 0 0 := by
  refine MCi.of (cc := cX3_shareOf) (maxL := 2) (by decide +kernel) rfl rfl ?_
  intro p e s m args below meth c A ls Q hE0 hP hD hS hl hend
  obtain ⟨hx, hb, hr, hml, hlocks, hown, hts, hK, hE, hA, hnm⟩ := hE0
  have hl : lv_has ls 2 [(0, .ref a_s), (1, .int (iI p1))] := hl
  have hi_X3 : ∀ w ∈ wsX30, w ∈ wsX3_shareOf := by decide +kernel
  have hf_45 := hts (.fieldLink RX3 45 "LentMargins$Script" "shares" "[I") (by decide +kernel)
  refine lv_iload_n hx hb dX3_shareOf_0 rfl (lv_at hl 1 rfl) ?_
  refine i_if_lt (tgt := 19) hx hb h.1 dX3_shareOf_1 (by decide) (fun c1 => ?_) (fun c1 => ?_)
  · have h := h.2.1 c1
    refine lv_iconst (v := iI 0) hx hb dX3_shareOf_19 rfl ?_
    exact hend _ _ _ _ _ _ 0 () hP hD hS h (Nat.le_of_ble_eq_true rfl) (Nat.le_of_ble_eq_true rfl) dX3_shareOf_20
  · have h := h.2.2 c1
    refine lv_iload_n hx hb dX3_shareOf_4 rfl (lv_at hl 1 rfl) ?_
    refine lv_bipush (v := iI 8) hx hb dX3_shareOf_5 (by decide +kernel) ?_
    refine i_cmp_ge (tgt := 19) hx hb h.1 (inR_lit rfl) dX3_shareOf_7 (by decide) (fun c2 => ?_) (fun c2 => ?_)
    · have h := h.2.1 c2
      refine lv_iconst (v := iI 0) hx hb dX3_shareOf_19 rfl ?_
      exact hend _ _ _ _ _ _ 0 () hP hD hS h (Nat.le_of_ble_eq_true rfl) (Nat.le_of_ble_eq_true rfl) dX3_shareOf_20
    · have h := h.2.2 c2
      refine lv_aload_n hx hb dX3_shareOf_10 rfl (lv_at hl 0 rfl) ?_
      refine va_get (D := X.1) (ci := 3) (C := RX3) (T := TX3) (N := 9) hx hb hts hi_X3 hown hK hP 0 rfl rfl 8 (by decide) hf_45 (fun _ h9 => h9) rfl dX3_shareOf_11 ?_
      refine lv_iload_n hx hb dX3_shareOf_14 rfl (lv_at hl 1 rfl) ?_
      refine i_ald hx hb hK hP 8 0 rfl rfl h.1 h.2.1 rfl (Nat.le_of_ble_eq_true rfl) dX3_shareOf_15 ?_
      have h := h.2.2
      refine lv_goto (tgt := 20) hx hb dX3_shareOf_16 (by decide) ?_
      exact hend _ _ _ _ _ _ (s_shares (p1).toNat) () hP hD hS h (Nat.le_of_ble_eq_true rfl) (Nat.le_of_ble_eq_true rfl) dX3_shareOf_20
abbrev rmX3_overhang : Room := { frames := 1, cells := 0, slots := 0, locals := 21 }
set_option maxHeartbeats 4000000 in
set_option maxRecDepth 100000 in
theorem kX3_overhang (l : Launch) (X : XD) (a_s a_s_letters a_s_lengths a_s_bodies a_s_ahead a_s_behind a_s_ends a_s_settings a_s_shares : Nat) (s_count : Int) (s_letters : Nat → Int) (s_lengths : Nat → Int) (s_bodies : Nat → Int) (s_ahead : Nat → Int) (s_behind : Nat → Int) (s_ends : Nat → Int) (s_settings : Nat → Int) (s_shares : Nat → Int) (p1 : Int) (post : Int → Prop) (h : wpX3_overhang s_shares p1 post) : MCi l yX3_overhang wsX3_overhang rmX3_overhang X [.ref a_s, .int (iI p1)] [(a_s, .inr (3, [.int (iI s_count), .ref a_s_letters, .ref a_s_lengths, .ref a_s_bodies, .ref a_s_ahead, .ref a_s_behind, .ref a_s_ends, .ref a_s_settings, .ref a_s_shares])), (a_s_letters, eI X 720 s_letters), (a_s_lengths, eI X 60 s_lengths), (a_s_bodies, eI X 60 s_bodies), (a_s_ahead, eI X 60 s_ahead), (a_s_behind, eI X 60 s_behind), (a_s_ends, eZ X 60 s_ends), (a_s_settings, eI X 6 s_settings), (a_s_shares, eI X 8 s_shares)] (S := Unit) (fun _ => [(a_s, .inr (3, [.int (iI s_count), .ref a_s_letters, .ref a_s_lengths, .ref a_s_bodies, .ref a_s_ahead, .ref a_s_behind, .ref a_s_ends, .ref a_s_settings, .ref a_s_shares])), (a_s_letters, eI X 720 s_letters), (a_s_lengths, eI X 60 s_lengths), (a_s_bodies, eI X 60 s_bodies), (a_s_ahead, eI X 60 s_ahead), (a_s_behind, eI X 60 s_behind), (a_s_ends, eZ X 60 s_ends), (a_s_settings, eI X 6 s_settings), (a_s_shares, eI X 8 s_shares)]) (fun z _ => post z) 0 0 := by
  refine MCi.of (cc := cX3_overhang) (maxL := 2) (by decide +kernel) rfl rfl ?_
  intro p e s m args below meth c A ls Q hE0 hP hD hS hl hend
  obtain ⟨hx, hb, hr, hml, hlocks, hown, hts, hK, hE, hA, hnm⟩ := hE0
  have hl : lv_has ls 2 [(0, .ref a_s), (1, .int (iI p1))] := hl
  refine lv_iload_n hx hb dX3_overhang_0 rfl (lv_at hl 1 rfl) ?_
  refine k_i (isC := []) (isR := [0, 1, 2, 3, 4, 5, 6, 7, 8]) (va_runSN (As := [.int (iI p1)]) (rest := []) ⟨hx, hb, hml, hown, hts⟩ (kX5_signWidth l X p1 _ h _) ⟨va_cnB 1 hts gX3_overhang_X5_signWidth_n79 rfl rfl rfl (hE.1.1 _ (List.mem_of_getElem? (l := st_nm) (i := 6) rfl)) (hts (.initialized RX5) (by decide +kernel)) (by decide +kernel) ⟨(Nat.le_of_ble_eq_true rfl), (Nat.le_of_ble_eq_true rfl)⟩, hts (.static yX5_signWidth) (by decide +kernel), trivial⟩ ⟨pre_blind, pre_cut hE hK hA hP hD hS (isC := []) rfl rfl⟩ rfl rfl hl.1 rfl (lv_room (Nat.le_of_ble_eq_true rfl)) dX3_overhang_1 ⟨(Nat.le_of_ble_eq_true rfl), (Nat.le_of_ble_eq_true rfl)⟩) hA hP hD hS rfl rfl rfl (by decide +kernel) (fun z1 u1 H locs h hP hD hS => ?_)
  have hP := hP.sub (ws' := [(a_s, .inr (3, [.int (iI s_count), .ref a_s_letters, .ref a_s_lengths, .ref a_s_bodies, .ref a_s_ahead, .ref a_s_behind, .ref a_s_ends, .ref a_s_settings, .ref a_s_shares])), (a_s_letters, eI X 720 s_letters), (a_s_lengths, eI X 60 s_lengths), (a_s_bodies, eI X 60 s_bodies), (a_s_ahead, eI X 60 s_ahead), (a_s_behind, eI X 60 s_behind), (a_s_ends, eZ X 60 s_ends), (a_s_settings, eI X 6 s_settings), (a_s_shares, eI X 8 s_shares)]) [0, 1, 2, 3, 4, 5, 6, 7, 8] rfl
  have hD := hD.sub (ws' := [(a_s, .inr (3, [.int (iI s_count), .ref a_s_letters, .ref a_s_lengths, .ref a_s_bodies, .ref a_s_ahead, .ref a_s_behind, .ref a_s_ends, .ref a_s_settings, .ref a_s_shares])), (a_s_letters, eI X 720 s_letters), (a_s_lengths, eI X 60 s_lengths), (a_s_bodies, eI X 60 s_bodies), (a_s_ahead, eI X 60 s_ahead), (a_s_behind, eI X 60 s_behind), (a_s_ends, eZ X 60 s_ends), (a_s_settings, eI X 6 s_settings), (a_s_shares, eI X 8 s_shares)]) [0, 1, 2, 3, 4, 5, 6, 7, 8] (by decide +kernel) rfl
  refine lv_aload_n hx hb dX3_overhang_4 rfl (lv_at hl 0 rfl) ?_
  refine lv_iload_n hx hb dX3_overhang_5 rfl (lv_at hl 1 rfl) ?_
  refine k_i (isC := [0, 1, 2, 3, 4, 5, 6, 7, 8]) (isR := []) (va_runV (As := [.int (iI p1)]) (rest := [.int (iI z1)]) ⟨hx, hb, hml, hown, hts⟩ (kX3_shareOf l X a_s a_s_letters a_s_lengths a_s_bodies a_s_ahead a_s_behind a_s_ends a_s_settings a_s_shares s_count s_letters s_lengths s_bodies s_ahead s_behind s_ends s_settings s_shares p1 _ h _) (cwV 1 hts gX3_overhang_X3_shareOf rfl rfl rfl (by decide +kernel) ⟨(Nat.le_of_ble_eq_true rfl), (Nat.le_of_ble_eq_true rfl)⟩) ⟨pre_blind, va_recv hK hP (ci := 3) (q0 := 0) rfl rfl, pre_cut hE hK hA hP hD hS (isC := [0, 1, 2, 3, 4, 5, 6, 7, 8]) rfl rfl⟩ rfl rfl hl.1 rfl (lv_room (Nat.le_of_ble_eq_true rfl)) dX3_overhang_6 ⟨(Nat.le_of_ble_eq_true rfl), (Nat.le_of_ble_eq_true rfl)⟩) hA hP hD hS rfl rfl rfl (by decide +kernel) (fun z2 u2 H locs h hP hD hS => ?_)
  have hP := hP.sub (ws' := [(a_s, .inr (3, [.int (iI s_count), .ref a_s_letters, .ref a_s_lengths, .ref a_s_bodies, .ref a_s_ahead, .ref a_s_behind, .ref a_s_ends, .ref a_s_settings, .ref a_s_shares])), (a_s_letters, eI X 720 s_letters), (a_s_lengths, eI X 60 s_lengths), (a_s_bodies, eI X 60 s_bodies), (a_s_ahead, eI X 60 s_ahead), (a_s_behind, eI X 60 s_behind), (a_s_ends, eZ X 60 s_ends), (a_s_settings, eI X 6 s_settings), (a_s_shares, eI X 8 s_shares)]) [0, 1, 2, 3, 4, 5, 6, 7, 8] rfl
  have hD := hD.sub (ws' := [(a_s, .inr (3, [.int (iI s_count), .ref a_s_letters, .ref a_s_lengths, .ref a_s_bodies, .ref a_s_ahead, .ref a_s_behind, .ref a_s_ends, .ref a_s_settings, .ref a_s_shares])), (a_s_letters, eI X 720 s_letters), (a_s_lengths, eI X 60 s_lengths), (a_s_bodies, eI X 60 s_bodies), (a_s_ahead, eI X 60 s_ahead), (a_s_behind, eI X 60 s_behind), (a_s_ends, eZ X 60 s_ends), (a_s_settings, eI X 6 s_settings), (a_s_shares, eI X 8 s_shares)]) [0, 1, 2, 3, 4, 5, 6, 7, 8] (by decide +kernel) rfl
  refine i_mul hx hb dX3_overhang_9 ?_
  refine lv_bipush (v := iI 100) hx hb dX3_overhang_10 (by decide +kernel) ?_
  refine i_div hx hb h.1 h.2.1 (by decide) (by decide) dX3_overhang_12 ?_
  have h := h.2.2
  exact hend _ _ _ _ _ _ ((z1 * z2) / 100) () hP hD hS h (Nat.le_of_ble_eq_true rfl) (Nat.le_of_ble_eq_true rfl) dX3_overhang_13
abbrev rmX3_lengthOf : Room := { frames := 1, cells := 0, slots := 0, locals := 21 }
set_option maxHeartbeats 4000000 in
set_option maxRecDepth 100000 in
theorem kX3_lengthOf (l : Launch) (X : XD) (a_s a_s_letters a_s_lengths a_s_bodies a_s_ahead a_s_behind a_s_ends a_s_settings a_s_shares : Nat) (s_count : Int) (s_letters : Nat → Int) (s_lengths : Nat → Int) (s_bodies : Nat → Int) (s_ahead : Nat → Int) (s_behind : Nat → Int) (s_ends : Nat → Int) (s_settings : Nat → Int) (s_shares : Nat → Int) (p1 : Int) (post : Int → Prop) (h : wpX3_lengthOf s_count s_lengths p1 post) : MCi l yX3_lengthOf wsX3_lengthOf rmX3_lengthOf X [.ref a_s, .int (iI p1)] [(a_s, .inr (3, [.int (iI s_count), .ref a_s_letters, .ref a_s_lengths, .ref a_s_bodies, .ref a_s_ahead, .ref a_s_behind, .ref a_s_ends, .ref a_s_settings, .ref a_s_shares])), (a_s_letters, eI X 720 s_letters), (a_s_lengths, eI X 60 s_lengths), (a_s_bodies, eI X 60 s_bodies), (a_s_ahead, eI X 60 s_ahead), (a_s_behind, eI X 60 s_behind), (a_s_ends, eZ X 60 s_ends), (a_s_settings, eI X 6 s_settings), (a_s_shares, eI X 8 s_shares)] (S := Unit) (fun _ => [(a_s, .inr (3, [.int (iI s_count), .ref a_s_letters, .ref a_s_lengths, .ref a_s_bodies, .ref a_s_ahead, .ref a_s_behind, .ref a_s_ends, .ref a_s_settings, .ref a_s_shares])), (a_s_letters, eI X 720 s_letters), (a_s_lengths, eI X 60 s_lengths), (a_s_bodies, eI X 60 s_bodies), (a_s_ahead, eI X 60 s_ahead), (a_s_behind, eI X 60 s_behind), (a_s_ends, eZ X 60 s_ends), (a_s_settings, eI X 6 s_settings), (a_s_shares, eI X 8 s_shares)]) (fun z _ => post z) 0 0 := by
  refine MCi.of (cc := cX3_lengthOf) (maxL := 2) (by decide +kernel) rfl rfl ?_
  intro p e s m args below meth c A ls Q hE0 hP hD hS hl hend
  obtain ⟨hx, hb, hr, hml, hlocks, hown, hts, hK, hE, hA, hnm⟩ := hE0
  have hl : lv_has ls 2 [(0, .ref a_s), (1, .int (iI p1))] := hl
  have hi_X3 : ∀ w ∈ wsX30, w ∈ wsX3_lengthOf := by decide +kernel
  have hf_15 := hts (.fieldLink RX3 15 "LentMargins$Script" "lengths" "[I") (by decide +kernel)
  refine lv_aload_n hx hb dX3_lengthOf_0 rfl (lv_at hl 0 rfl) ?_
  refine lv_iload_n hx hb dX3_lengthOf_1 rfl (lv_at hl 1 rfl) ?_
  refine k_i (isC := [0, 1, 2, 3, 4, 5, 6, 7, 8]) (isR := []) (va_runV (As := [.int (iI p1)]) (rest := []) ⟨hx, hb, hml, hown, hts⟩ (kX3_has l X a_s a_s_letters a_s_lengths a_s_bodies a_s_ahead a_s_behind a_s_ends a_s_settings a_s_shares s_count s_letters s_lengths s_bodies s_ahead s_behind s_ends s_settings s_shares p1 _ h _) (cwV 1 hts gX3_lengthOf_X3_has rfl rfl rfl (by decide +kernel) ⟨(Nat.le_of_ble_eq_true rfl), (Nat.le_of_ble_eq_true rfl)⟩) ⟨pre_blind, va_recv hK hP (ci := 3) (q0 := 0) rfl rfl, pre_cut hE hK hA hP hD hS (isC := [0, 1, 2, 3, 4, 5, 6, 7, 8]) rfl rfl⟩ rfl rfl hl.1 rfl (lv_room (Nat.le_of_ble_eq_true rfl)) dX3_lengthOf_2 ⟨(Nat.le_of_ble_eq_true rfl), (Nat.le_of_ble_eq_true rfl)⟩) hA hP hD hS rfl rfl rfl (by decide +kernel) (fun z1 u1 H locs h hP hD hS => ?_)
  have hP := hP.sub (ws' := [(a_s, .inr (3, [.int (iI s_count), .ref a_s_letters, .ref a_s_lengths, .ref a_s_bodies, .ref a_s_ahead, .ref a_s_behind, .ref a_s_ends, .ref a_s_settings, .ref a_s_shares])), (a_s_letters, eI X 720 s_letters), (a_s_lengths, eI X 60 s_lengths), (a_s_bodies, eI X 60 s_bodies), (a_s_ahead, eI X 60 s_ahead), (a_s_behind, eI X 60 s_behind), (a_s_ends, eZ X 60 s_ends), (a_s_settings, eI X 6 s_settings), (a_s_shares, eI X 8 s_shares)]) [0, 1, 2, 3, 4, 5, 6, 7, 8] rfl
  have hD := hD.sub (ws' := [(a_s, .inr (3, [.int (iI s_count), .ref a_s_letters, .ref a_s_lengths, .ref a_s_bodies, .ref a_s_ahead, .ref a_s_behind, .ref a_s_ends, .ref a_s_settings, .ref a_s_shares])), (a_s_letters, eI X 720 s_letters), (a_s_lengths, eI X 60 s_lengths), (a_s_bodies, eI X 60 s_bodies), (a_s_ahead, eI X 60 s_ahead), (a_s_behind, eI X 60 s_behind), (a_s_ends, eZ X 60 s_ends), (a_s_settings, eI X 6 s_settings), (a_s_shares, eI X 8 s_shares)]) [0, 1, 2, 3, 4, 5, 6, 7, 8] (by decide +kernel) rfl
  refine i_if_eq (tgt := 17) hx hb h.1 dX3_lengthOf_5 (by decide) (fun c2 => ?_) (fun c2 => ?_)
  · have h := h.2.1 c2
    refine lv_iconst (v := iI 0) hx hb dX3_lengthOf_17 rfl ?_
    exact hend _ _ _ _ _ _ 0 () hP hD hS h (Nat.le_of_ble_eq_true rfl) (Nat.le_of_ble_eq_true rfl) dX3_lengthOf_18
  · have h := h.2.2 c2
    refine lv_aload_n hx hb dX3_lengthOf_8 rfl (lv_at hl 0 rfl) ?_
    refine va_get (D := X.1) (ci := 3) (C := RX3) (T := TX3) (N := 9) hx hb hts hi_X3 hown hK hP 0 rfl rfl 2 (by decide) hf_15 (fun _ h9 => h9) rfl dX3_lengthOf_9 ?_
    refine lv_iload_n hx hb dX3_lengthOf_12 rfl (lv_at hl 1 rfl) ?_
    refine i_ald hx hb hK hP 2 0 rfl rfl h.1 h.2.1 rfl (Nat.le_of_ble_eq_true rfl) dX3_lengthOf_13 ?_
    have h := h.2.2
    refine lv_goto (tgt := 18) hx hb dX3_lengthOf_14 (by decide) ?_
    exact hend _ _ _ _ _ _ (s_lengths (p1).toNat) () hP hD hS h (Nat.le_of_ble_eq_true rfl) (Nat.le_of_ble_eq_true rfl) dX3_lengthOf_18
abbrev rmX3_widthOf : Room := { frames := 1, cells := 0, slots := 0, locals := 21 }
set_option maxHeartbeats 4000000 in
set_option maxRecDepth 100000 in
theorem kX3_widthOf (l : Launch) (X : XD) (a_s a_s_letters a_s_lengths a_s_bodies a_s_ahead a_s_behind a_s_ends a_s_settings a_s_shares : Nat) (s_count : Int) (s_letters : Nat → Int) (s_lengths : Nat → Int) (s_bodies : Nat → Int) (s_ahead : Nat → Int) (s_behind : Nat → Int) (s_ends : Nat → Int) (s_settings : Nat → Int) (s_shares : Nat → Int) (p1 : Int) (post : Int → Prop) (h : wpX3_widthOf s_count s_bodies s_ahead s_behind p1 post) : MCi l yX3_widthOf wsX3_widthOf rmX3_widthOf X [.ref a_s, .int (iI p1)] [(a_s, .inr (3, [.int (iI s_count), .ref a_s_letters, .ref a_s_lengths, .ref a_s_bodies, .ref a_s_ahead, .ref a_s_behind, .ref a_s_ends, .ref a_s_settings, .ref a_s_shares])), (a_s_letters, eI X 720 s_letters), (a_s_lengths, eI X 60 s_lengths), (a_s_bodies, eI X 60 s_bodies), (a_s_ahead, eI X 60 s_ahead), (a_s_behind, eI X 60 s_behind), (a_s_ends, eZ X 60 s_ends), (a_s_settings, eI X 6 s_settings), (a_s_shares, eI X 8 s_shares)] (S := Unit) (fun _ => [(a_s, .inr (3, [.int (iI s_count), .ref a_s_letters, .ref a_s_lengths, .ref a_s_bodies, .ref a_s_ahead, .ref a_s_behind, .ref a_s_ends, .ref a_s_settings, .ref a_s_shares])), (a_s_letters, eI X 720 s_letters), (a_s_lengths, eI X 60 s_lengths), (a_s_bodies, eI X 60 s_bodies), (a_s_ahead, eI X 60 s_ahead), (a_s_behind, eI X 60 s_behind), (a_s_ends, eZ X 60 s_ends), (a_s_settings, eI X 6 s_settings), (a_s_shares, eI X 8 s_shares)]) (fun z _ => post z) 0 0 := by
  refine MCi.of (cc := cX3_widthOf) (maxL := 2) (by decide +kernel) rfl rfl ?_
  intro p e s m args below meth c A ls Q hE0 hP hD hS hl hend
  obtain ⟨hx, hb, hr, hml, hlocks, hown, hts, hK, hE, hA, hnm⟩ := hE0
  have hl : lv_has ls 2 [(0, .ref a_s), (1, .int (iI p1))] := hl
  have hi_X3 : ∀ w ∈ wsX30, w ∈ wsX3_widthOf := by decide +kernel
  have hf_18 := hts (.fieldLink RX3 18 "LentMargins$Script" "bodies" "[I") (by decide +kernel)
  have hf_21 := hts (.fieldLink RX3 21 "LentMargins$Script" "ahead" "[I") (by decide +kernel)
  have hf_24 := hts (.fieldLink RX3 24 "LentMargins$Script" "behind" "[I") (by decide +kernel)
  refine lv_aload_n hx hb dX3_widthOf_0 rfl (lv_at hl 0 rfl) ?_
  refine lv_iload_n hx hb dX3_widthOf_1 rfl (lv_at hl 1 rfl) ?_
  refine k_i (isC := [0, 1, 2, 3, 4, 5, 6, 7, 8]) (isR := []) (va_runV (As := [.int (iI p1)]) (rest := []) ⟨hx, hb, hml, hown, hts⟩ (kX3_has l X a_s a_s_letters a_s_lengths a_s_bodies a_s_ahead a_s_behind a_s_ends a_s_settings a_s_shares s_count s_letters s_lengths s_bodies s_ahead s_behind s_ends s_settings s_shares p1 _ h _) (cwV 1 hts gX3_widthOf_X3_has rfl rfl rfl (by decide +kernel) ⟨(Nat.le_of_ble_eq_true rfl), (Nat.le_of_ble_eq_true rfl)⟩) ⟨pre_blind, va_recv hK hP (ci := 3) (q0 := 0) rfl rfl, pre_cut hE hK hA hP hD hS (isC := [0, 1, 2, 3, 4, 5, 6, 7, 8]) rfl rfl⟩ rfl rfl hl.1 rfl (lv_room (Nat.le_of_ble_eq_true rfl)) dX3_widthOf_2 ⟨(Nat.le_of_ble_eq_true rfl), (Nat.le_of_ble_eq_true rfl)⟩) hA hP hD hS rfl rfl rfl (by decide +kernel) (fun z1 u1 H locs h hP hD hS => ?_)
  have hP := hP.sub (ws' := [(a_s, .inr (3, [.int (iI s_count), .ref a_s_letters, .ref a_s_lengths, .ref a_s_bodies, .ref a_s_ahead, .ref a_s_behind, .ref a_s_ends, .ref a_s_settings, .ref a_s_shares])), (a_s_letters, eI X 720 s_letters), (a_s_lengths, eI X 60 s_lengths), (a_s_bodies, eI X 60 s_bodies), (a_s_ahead, eI X 60 s_ahead), (a_s_behind, eI X 60 s_behind), (a_s_ends, eZ X 60 s_ends), (a_s_settings, eI X 6 s_settings), (a_s_shares, eI X 8 s_shares)]) [0, 1, 2, 3, 4, 5, 6, 7, 8] rfl
  have hD := hD.sub (ws' := [(a_s, .inr (3, [.int (iI s_count), .ref a_s_letters, .ref a_s_lengths, .ref a_s_bodies, .ref a_s_ahead, .ref a_s_behind, .ref a_s_ends, .ref a_s_settings, .ref a_s_shares])), (a_s_letters, eI X 720 s_letters), (a_s_lengths, eI X 60 s_lengths), (a_s_bodies, eI X 60 s_bodies), (a_s_ahead, eI X 60 s_ahead), (a_s_behind, eI X 60 s_behind), (a_s_ends, eZ X 60 s_ends), (a_s_settings, eI X 6 s_settings), (a_s_shares, eI X 8 s_shares)]) [0, 1, 2, 3, 4, 5, 6, 7, 8] (by decide +kernel) rfl
  refine i_if_eq (tgt := 37) hx hb h.1 dX3_widthOf_5 (by decide) (fun c2 => ?_) (fun c2 => ?_)
  · have h := h.2.1 c2
    refine lv_iconst (v := iI 0) hx hb dX3_widthOf_37 rfl ?_
    exact hend _ _ _ _ _ _ 0 () hP hD hS h (Nat.le_of_ble_eq_true rfl) (Nat.le_of_ble_eq_true rfl) dX3_widthOf_38
  · have h := h.2.2 c2
    refine lv_aload_n hx hb dX3_widthOf_8 rfl (lv_at hl 0 rfl) ?_
    refine va_get (D := X.1) (ci := 3) (C := RX3) (T := TX3) (N := 9) hx hb hts hi_X3 hown hK hP 0 rfl rfl 3 (by decide) hf_18 (fun _ h9 => h9) rfl dX3_widthOf_9 ?_
    refine lv_iload_n hx hb dX3_widthOf_12 rfl (lv_at hl 1 rfl) ?_
    refine i_ald hx hb hK hP 3 0 rfl rfl h.1 h.2.1 rfl (Nat.le_of_ble_eq_true rfl) dX3_widthOf_13 ?_
    have h := h.2.2
    refine lv_aload_n hx hb dX3_widthOf_14 rfl (lv_at hl 0 rfl) ?_
    refine va_get (D := X.1) (ci := 3) (C := RX3) (T := TX3) (N := 9) hx hb hts hi_X3 hown hK hP 0 rfl rfl 4 (by decide) hf_21 (fun _ h9 => h9) rfl dX3_widthOf_15 ?_
    refine lv_iload_n hx hb dX3_widthOf_18 rfl (lv_at hl 1 rfl) ?_
    refine i_ald hx hb hK hP 4 0 rfl rfl h.1 h.2.1 rfl (Nat.le_of_ble_eq_true rfl) dX3_widthOf_19 ?_
    have h := h.2.2
    refine k_i (isC := []) (isR := [0, 1, 2, 3, 4, 5, 6, 7, 8]) (va_runSN (As := [.int (iI (s_ahead (p1).toNat))]) (rest := [.int (iI (s_bodies (p1).toNat))]) ⟨hx, hb, hml, hown, hts⟩ (kX5_signWidth l X (s_ahead (p1).toNat) _ h _) ⟨va_cnB 1 hts gX3_widthOf_X5_signWidth_n79 rfl rfl rfl (hE.1.1 _ (List.mem_of_getElem? (l := st_nm) (i := 6) rfl)) (hts (.initialized RX5) (by decide +kernel)) (by decide +kernel) ⟨(Nat.le_of_ble_eq_true rfl), (Nat.le_of_ble_eq_true rfl)⟩, hts (.static yX5_signWidth) (by decide +kernel), trivial⟩ ⟨pre_blind, pre_cut hE hK hA hP hD hS (isC := []) rfl rfl⟩ rfl rfl hl.1 rfl (lv_room (Nat.le_of_ble_eq_true rfl)) dX3_widthOf_20 ⟨(Nat.le_of_ble_eq_true rfl), (Nat.le_of_ble_eq_true rfl)⟩) hA hP hD hS rfl rfl rfl (by decide +kernel) (fun z3 u3 H locs h hP hD hS => ?_)
    have hP := hP.sub (ws' := [(a_s, .inr (3, [.int (iI s_count), .ref a_s_letters, .ref a_s_lengths, .ref a_s_bodies, .ref a_s_ahead, .ref a_s_behind, .ref a_s_ends, .ref a_s_settings, .ref a_s_shares])), (a_s_letters, eI X 720 s_letters), (a_s_lengths, eI X 60 s_lengths), (a_s_bodies, eI X 60 s_bodies), (a_s_ahead, eI X 60 s_ahead), (a_s_behind, eI X 60 s_behind), (a_s_ends, eZ X 60 s_ends), (a_s_settings, eI X 6 s_settings), (a_s_shares, eI X 8 s_shares)]) [0, 1, 2, 3, 4, 5, 6, 7, 8] rfl
    have hD := hD.sub (ws' := [(a_s, .inr (3, [.int (iI s_count), .ref a_s_letters, .ref a_s_lengths, .ref a_s_bodies, .ref a_s_ahead, .ref a_s_behind, .ref a_s_ends, .ref a_s_settings, .ref a_s_shares])), (a_s_letters, eI X 720 s_letters), (a_s_lengths, eI X 60 s_lengths), (a_s_bodies, eI X 60 s_bodies), (a_s_ahead, eI X 60 s_ahead), (a_s_behind, eI X 60 s_behind), (a_s_ends, eZ X 60 s_ends), (a_s_settings, eI X 6 s_settings), (a_s_shares, eI X 8 s_shares)]) [0, 1, 2, 3, 4, 5, 6, 7, 8] (by decide +kernel) rfl
    refine i_add hx hb dX3_widthOf_23 ?_
    refine lv_aload_n hx hb dX3_widthOf_24 rfl (lv_at hl 0 rfl) ?_
    refine va_get (D := X.1) (ci := 3) (C := RX3) (T := TX3) (N := 9) hx hb hts hi_X3 hown hK hP 0 rfl rfl 5 (by decide) hf_24 (fun _ h9 => h9) rfl dX3_widthOf_25 ?_
    refine lv_iload_n hx hb dX3_widthOf_28 rfl (lv_at hl 1 rfl) ?_
    refine i_ald hx hb hK hP 5 0 rfl rfl h.1 h.2.1 rfl (Nat.le_of_ble_eq_true rfl) dX3_widthOf_29 ?_
    have h := h.2.2
    refine k_i (isC := []) (isR := [0, 1, 2, 3, 4, 5, 6, 7, 8]) (va_runSN (As := [.int (iI (s_behind (p1).toNat))]) (rest := [.int (iI (s_bodies (p1).toNat + z3))]) ⟨hx, hb, hml, hown, hts⟩ (kX5_signWidth l X (s_behind (p1).toNat) _ h _) ⟨va_cnB 1 hts gX3_widthOf_X5_signWidth_n79 rfl rfl rfl (hE.1.1 _ (List.mem_of_getElem? (l := st_nm) (i := 6) rfl)) (hts (.initialized RX5) (by decide +kernel)) (by decide +kernel) ⟨(Nat.le_of_ble_eq_true rfl), (Nat.le_of_ble_eq_true rfl)⟩, hts (.static yX5_signWidth) (by decide +kernel), trivial⟩ ⟨pre_blind, pre_cut hE hK hA hP hD hS (isC := []) rfl rfl⟩ rfl rfl hl.1 rfl (lv_room (Nat.le_of_ble_eq_true rfl)) dX3_widthOf_30 ⟨(Nat.le_of_ble_eq_true rfl), (Nat.le_of_ble_eq_true rfl)⟩) hA hP hD hS rfl rfl rfl (by decide +kernel) (fun z4 u4 H locs h hP hD hS => ?_)
    have hP := hP.sub (ws' := [(a_s, .inr (3, [.int (iI s_count), .ref a_s_letters, .ref a_s_lengths, .ref a_s_bodies, .ref a_s_ahead, .ref a_s_behind, .ref a_s_ends, .ref a_s_settings, .ref a_s_shares])), (a_s_letters, eI X 720 s_letters), (a_s_lengths, eI X 60 s_lengths), (a_s_bodies, eI X 60 s_bodies), (a_s_ahead, eI X 60 s_ahead), (a_s_behind, eI X 60 s_behind), (a_s_ends, eZ X 60 s_ends), (a_s_settings, eI X 6 s_settings), (a_s_shares, eI X 8 s_shares)]) [0, 1, 2, 3, 4, 5, 6, 7, 8] rfl
    have hD := hD.sub (ws' := [(a_s, .inr (3, [.int (iI s_count), .ref a_s_letters, .ref a_s_lengths, .ref a_s_bodies, .ref a_s_ahead, .ref a_s_behind, .ref a_s_ends, .ref a_s_settings, .ref a_s_shares])), (a_s_letters, eI X 720 s_letters), (a_s_lengths, eI X 60 s_lengths), (a_s_bodies, eI X 60 s_bodies), (a_s_ahead, eI X 60 s_ahead), (a_s_behind, eI X 60 s_behind), (a_s_ends, eZ X 60 s_ends), (a_s_settings, eI X 6 s_settings), (a_s_shares, eI X 8 s_shares)]) [0, 1, 2, 3, 4, 5, 6, 7, 8] (by decide +kernel) rfl
    refine i_add hx hb dX3_widthOf_33 ?_
    refine lv_goto (tgt := 38) hx hb dX3_widthOf_34 (by decide) ?_
    exact hend _ _ _ _ _ _ ((s_bodies (p1).toNat + z3) + z4) () hP hD hS h (Nat.le_of_ble_eq_true rfl) (Nat.le_of_ble_eq_true rfl) dX3_widthOf_38
abbrev rmX3_aheadOf : Room := { frames := 1, cells := 0, slots := 0, locals := 21 }
set_option maxHeartbeats 4000000 in
set_option maxRecDepth 100000 in
theorem kX3_aheadOf (l : Launch) (X : XD) (a_s a_s_letters a_s_lengths a_s_bodies a_s_ahead a_s_behind a_s_ends a_s_settings a_s_shares : Nat) (s_count : Int) (s_letters : Nat → Int) (s_lengths : Nat → Int) (s_bodies : Nat → Int) (s_ahead : Nat → Int) (s_behind : Nat → Int) (s_ends : Nat → Int) (s_settings : Nat → Int) (s_shares : Nat → Int) (p1 : Int) (post : Int → Prop) (h : wpX3_aheadOf s_count s_ahead p1 post) : MCi l yX3_aheadOf wsX3_aheadOf rmX3_aheadOf X [.ref a_s, .int (iI p1)] [(a_s, .inr (3, [.int (iI s_count), .ref a_s_letters, .ref a_s_lengths, .ref a_s_bodies, .ref a_s_ahead, .ref a_s_behind, .ref a_s_ends, .ref a_s_settings, .ref a_s_shares])), (a_s_letters, eI X 720 s_letters), (a_s_lengths, eI X 60 s_lengths), (a_s_bodies, eI X 60 s_bodies), (a_s_ahead, eI X 60 s_ahead), (a_s_behind, eI X 60 s_behind), (a_s_ends, eZ X 60 s_ends), (a_s_settings, eI X 6 s_settings), (a_s_shares, eI X 8 s_shares)] (S := Unit) (fun _ => [(a_s, .inr (3, [.int (iI s_count), .ref a_s_letters, .ref a_s_lengths, .ref a_s_bodies, .ref a_s_ahead, .ref a_s_behind, .ref a_s_ends, .ref a_s_settings, .ref a_s_shares])), (a_s_letters, eI X 720 s_letters), (a_s_lengths, eI X 60 s_lengths), (a_s_bodies, eI X 60 s_bodies), (a_s_ahead, eI X 60 s_ahead), (a_s_behind, eI X 60 s_behind), (a_s_ends, eZ X 60 s_ends), (a_s_settings, eI X 6 s_settings), (a_s_shares, eI X 8 s_shares)]) (fun z _ => post z) 0 0 := by
  refine MCi.of (cc := cX3_aheadOf) (maxL := 2) (by decide +kernel) rfl rfl ?_
  intro p e s m args below meth c A ls Q hE0 hP hD hS hl hend
  obtain ⟨hx, hb, hr, hml, hlocks, hown, hts, hK, hE, hA, hnm⟩ := hE0
  have hl : lv_has ls 2 [(0, .ref a_s), (1, .int (iI p1))] := hl
  have hi_X3 : ∀ w ∈ wsX30, w ∈ wsX3_aheadOf := by decide +kernel
  have hf_21 := hts (.fieldLink RX3 21 "LentMargins$Script" "ahead" "[I") (by decide +kernel)
  refine lv_aload_n hx hb dX3_aheadOf_0 rfl (lv_at hl 0 rfl) ?_
  refine lv_iload_n hx hb dX3_aheadOf_1 rfl (lv_at hl 1 rfl) ?_
  refine k_i (isC := [0, 1, 2, 3, 4, 5, 6, 7, 8]) (isR := []) (va_runV (As := [.int (iI p1)]) (rest := []) ⟨hx, hb, hml, hown, hts⟩ (kX3_has l X a_s a_s_letters a_s_lengths a_s_bodies a_s_ahead a_s_behind a_s_ends a_s_settings a_s_shares s_count s_letters s_lengths s_bodies s_ahead s_behind s_ends s_settings s_shares p1 _ h _) (cwV 1 hts gX3_aheadOf_X3_has rfl rfl rfl (by decide +kernel) ⟨(Nat.le_of_ble_eq_true rfl), (Nat.le_of_ble_eq_true rfl)⟩) ⟨pre_blind, va_recv hK hP (ci := 3) (q0 := 0) rfl rfl, pre_cut hE hK hA hP hD hS (isC := [0, 1, 2, 3, 4, 5, 6, 7, 8]) rfl rfl⟩ rfl rfl hl.1 rfl (lv_room (Nat.le_of_ble_eq_true rfl)) dX3_aheadOf_2 ⟨(Nat.le_of_ble_eq_true rfl), (Nat.le_of_ble_eq_true rfl)⟩) hA hP hD hS rfl rfl rfl (by decide +kernel) (fun z1 u1 H locs h hP hD hS => ?_)
  have hP := hP.sub (ws' := [(a_s, .inr (3, [.int (iI s_count), .ref a_s_letters, .ref a_s_lengths, .ref a_s_bodies, .ref a_s_ahead, .ref a_s_behind, .ref a_s_ends, .ref a_s_settings, .ref a_s_shares])), (a_s_letters, eI X 720 s_letters), (a_s_lengths, eI X 60 s_lengths), (a_s_bodies, eI X 60 s_bodies), (a_s_ahead, eI X 60 s_ahead), (a_s_behind, eI X 60 s_behind), (a_s_ends, eZ X 60 s_ends), (a_s_settings, eI X 6 s_settings), (a_s_shares, eI X 8 s_shares)]) [0, 1, 2, 3, 4, 5, 6, 7, 8] rfl
  have hD := hD.sub (ws' := [(a_s, .inr (3, [.int (iI s_count), .ref a_s_letters, .ref a_s_lengths, .ref a_s_bodies, .ref a_s_ahead, .ref a_s_behind, .ref a_s_ends, .ref a_s_settings, .ref a_s_shares])), (a_s_letters, eI X 720 s_letters), (a_s_lengths, eI X 60 s_lengths), (a_s_bodies, eI X 60 s_bodies), (a_s_ahead, eI X 60 s_ahead), (a_s_behind, eI X 60 s_behind), (a_s_ends, eZ X 60 s_ends), (a_s_settings, eI X 6 s_settings), (a_s_shares, eI X 8 s_shares)]) [0, 1, 2, 3, 4, 5, 6, 7, 8] (by decide +kernel) rfl
  refine i_if_eq (tgt := 17) hx hb h.1 dX3_aheadOf_5 (by decide) (fun c2 => ?_) (fun c2 => ?_)
  · have h := h.2.1 c2
    refine lv_iconst (v := iI (-1)) hx hb dX3_aheadOf_17 rfl ?_
    exact hend _ _ _ _ _ _ (-1) () hP hD hS h (Nat.le_of_ble_eq_true rfl) (Nat.le_of_ble_eq_true rfl) dX3_aheadOf_18
  · have h := h.2.2 c2
    refine lv_aload_n hx hb dX3_aheadOf_8 rfl (lv_at hl 0 rfl) ?_
    refine va_get (D := X.1) (ci := 3) (C := RX3) (T := TX3) (N := 9) hx hb hts hi_X3 hown hK hP 0 rfl rfl 4 (by decide) hf_21 (fun _ h9 => h9) rfl dX3_aheadOf_9 ?_
    refine lv_iload_n hx hb dX3_aheadOf_12 rfl (lv_at hl 1 rfl) ?_
    refine i_ald hx hb hK hP 4 0 rfl rfl h.1 h.2.1 rfl (Nat.le_of_ble_eq_true rfl) dX3_aheadOf_13 ?_
    have h := h.2.2
    refine lv_goto (tgt := 18) hx hb dX3_aheadOf_14 (by decide) ?_
    exact hend _ _ _ _ _ _ (s_ahead (p1).toNat) () hP hD hS h (Nat.le_of_ble_eq_true rfl) (Nat.le_of_ble_eq_true rfl) dX3_aheadOf_18
abbrev rmX3_behindOf : Room := { frames := 1, cells := 0, slots := 0, locals := 21 }
set_option maxHeartbeats 4000000 in
set_option maxRecDepth 100000 in
theorem kX3_behindOf (l : Launch) (X : XD) (a_s a_s_letters a_s_lengths a_s_bodies a_s_ahead a_s_behind a_s_ends a_s_settings a_s_shares : Nat) (s_count : Int) (s_letters : Nat → Int) (s_lengths : Nat → Int) (s_bodies : Nat → Int) (s_ahead : Nat → Int) (s_behind : Nat → Int) (s_ends : Nat → Int) (s_settings : Nat → Int) (s_shares : Nat → Int) (p1 : Int) (post : Int → Prop) (h : wpX3_behindOf s_count s_behind p1 post) : MCi l yX3_behindOf wsX3_behindOf rmX3_behindOf X [.ref a_s, .int (iI p1)] [(a_s, .inr (3, [.int (iI s_count), .ref a_s_letters, .ref a_s_lengths, .ref a_s_bodies, .ref a_s_ahead, .ref a_s_behind, .ref a_s_ends, .ref a_s_settings, .ref a_s_shares])), (a_s_letters, eI X 720 s_letters), (a_s_lengths, eI X 60 s_lengths), (a_s_bodies, eI X 60 s_bodies), (a_s_ahead, eI X 60 s_ahead), (a_s_behind, eI X 60 s_behind), (a_s_ends, eZ X 60 s_ends), (a_s_settings, eI X 6 s_settings), (a_s_shares, eI X 8 s_shares)] (S := Unit) (fun _ => [(a_s, .inr (3, [.int (iI s_count), .ref a_s_letters, .ref a_s_lengths, .ref a_s_bodies, .ref a_s_ahead, .ref a_s_behind, .ref a_s_ends, .ref a_s_settings, .ref a_s_shares])), (a_s_letters, eI X 720 s_letters), (a_s_lengths, eI X 60 s_lengths), (a_s_bodies, eI X 60 s_bodies), (a_s_ahead, eI X 60 s_ahead), (a_s_behind, eI X 60 s_behind), (a_s_ends, eZ X 60 s_ends), (a_s_settings, eI X 6 s_settings), (a_s_shares, eI X 8 s_shares)]) (fun z _ => post z) 0 0 := by
  refine MCi.of (cc := cX3_behindOf) (maxL := 2) (by decide +kernel) rfl rfl ?_
  intro p e s m args below meth c A ls Q hE0 hP hD hS hl hend
  obtain ⟨hx, hb, hr, hml, hlocks, hown, hts, hK, hE, hA, hnm⟩ := hE0
  have hl : lv_has ls 2 [(0, .ref a_s), (1, .int (iI p1))] := hl
  have hi_X3 : ∀ w ∈ wsX30, w ∈ wsX3_behindOf := by decide +kernel
  have hf_24 := hts (.fieldLink RX3 24 "LentMargins$Script" "behind" "[I") (by decide +kernel)
  refine lv_aload_n hx hb dX3_behindOf_0 rfl (lv_at hl 0 rfl) ?_
  refine lv_iload_n hx hb dX3_behindOf_1 rfl (lv_at hl 1 rfl) ?_
  refine k_i (isC := [0, 1, 2, 3, 4, 5, 6, 7, 8]) (isR := []) (va_runV (As := [.int (iI p1)]) (rest := []) ⟨hx, hb, hml, hown, hts⟩ (kX3_has l X a_s a_s_letters a_s_lengths a_s_bodies a_s_ahead a_s_behind a_s_ends a_s_settings a_s_shares s_count s_letters s_lengths s_bodies s_ahead s_behind s_ends s_settings s_shares p1 _ h _) (cwV 1 hts gX3_behindOf_X3_has rfl rfl rfl (by decide +kernel) ⟨(Nat.le_of_ble_eq_true rfl), (Nat.le_of_ble_eq_true rfl)⟩) ⟨pre_blind, va_recv hK hP (ci := 3) (q0 := 0) rfl rfl, pre_cut hE hK hA hP hD hS (isC := [0, 1, 2, 3, 4, 5, 6, 7, 8]) rfl rfl⟩ rfl rfl hl.1 rfl (lv_room (Nat.le_of_ble_eq_true rfl)) dX3_behindOf_2 ⟨(Nat.le_of_ble_eq_true rfl), (Nat.le_of_ble_eq_true rfl)⟩) hA hP hD hS rfl rfl rfl (by decide +kernel) (fun z1 u1 H locs h hP hD hS => ?_)
  have hP := hP.sub (ws' := [(a_s, .inr (3, [.int (iI s_count), .ref a_s_letters, .ref a_s_lengths, .ref a_s_bodies, .ref a_s_ahead, .ref a_s_behind, .ref a_s_ends, .ref a_s_settings, .ref a_s_shares])), (a_s_letters, eI X 720 s_letters), (a_s_lengths, eI X 60 s_lengths), (a_s_bodies, eI X 60 s_bodies), (a_s_ahead, eI X 60 s_ahead), (a_s_behind, eI X 60 s_behind), (a_s_ends, eZ X 60 s_ends), (a_s_settings, eI X 6 s_settings), (a_s_shares, eI X 8 s_shares)]) [0, 1, 2, 3, 4, 5, 6, 7, 8] rfl
  have hD := hD.sub (ws' := [(a_s, .inr (3, [.int (iI s_count), .ref a_s_letters, .ref a_s_lengths, .ref a_s_bodies, .ref a_s_ahead, .ref a_s_behind, .ref a_s_ends, .ref a_s_settings, .ref a_s_shares])), (a_s_letters, eI X 720 s_letters), (a_s_lengths, eI X 60 s_lengths), (a_s_bodies, eI X 60 s_bodies), (a_s_ahead, eI X 60 s_ahead), (a_s_behind, eI X 60 s_behind), (a_s_ends, eZ X 60 s_ends), (a_s_settings, eI X 6 s_settings), (a_s_shares, eI X 8 s_shares)]) [0, 1, 2, 3, 4, 5, 6, 7, 8] (by decide +kernel) rfl
  refine i_if_eq (tgt := 17) hx hb h.1 dX3_behindOf_5 (by decide) (fun c2 => ?_) (fun c2 => ?_)
  · have h := h.2.1 c2
    refine lv_iconst (v := iI (-1)) hx hb dX3_behindOf_17 rfl ?_
    exact hend _ _ _ _ _ _ (-1) () hP hD hS h (Nat.le_of_ble_eq_true rfl) (Nat.le_of_ble_eq_true rfl) dX3_behindOf_18
  · have h := h.2.2 c2
    refine lv_aload_n hx hb dX3_behindOf_8 rfl (lv_at hl 0 rfl) ?_
    refine va_get (D := X.1) (ci := 3) (C := RX3) (T := TX3) (N := 9) hx hb hts hi_X3 hown hK hP 0 rfl rfl 5 (by decide) hf_24 (fun _ h9 => h9) rfl dX3_behindOf_9 ?_
    refine lv_iload_n hx hb dX3_behindOf_12 rfl (lv_at hl 1 rfl) ?_
    refine i_ald hx hb hK hP 5 0 rfl rfl h.1 h.2.1 rfl (Nat.le_of_ble_eq_true rfl) dX3_behindOf_13 ?_
    have h := h.2.2
    refine lv_goto (tgt := 18) hx hb dX3_behindOf_14 (by decide) ?_
    exact hend _ _ _ _ _ _ (s_behind (p1).toNat) () hP hD hS h (Nat.le_of_ble_eq_true rfl) (Nat.le_of_ble_eq_true rfl) dX3_behindOf_18
abbrev rmX3_wasSetToEnd : Room := { frames := 1, cells := 0, slots := 0, locals := 21 }
set_option maxHeartbeats 4000000 in
set_option maxRecDepth 100000 in
theorem kX3_wasSetToEnd (l : Launch) (X : XD) (a_s a_s_letters a_s_lengths a_s_bodies a_s_ahead a_s_behind a_s_ends a_s_settings a_s_shares : Nat) (s_count : Int) (s_letters : Nat → Int) (s_lengths : Nat → Int) (s_bodies : Nat → Int) (s_ahead : Nat → Int) (s_behind : Nat → Int) (s_ends : Nat → Int) (s_settings : Nat → Int) (s_shares : Nat → Int) (p1 : Int) (post : Int → Prop) (h : wpX3_wasSetToEnd s_count s_ends p1 post) : MCi l yX3_wasSetToEnd wsX3_wasSetToEnd rmX3_wasSetToEnd X [.ref a_s, .int (iI p1)] [(a_s, .inr (3, [.int (iI s_count), .ref a_s_letters, .ref a_s_lengths, .ref a_s_bodies, .ref a_s_ahead, .ref a_s_behind, .ref a_s_ends, .ref a_s_settings, .ref a_s_shares])), (a_s_letters, eI X 720 s_letters), (a_s_lengths, eI X 60 s_lengths), (a_s_bodies, eI X 60 s_bodies), (a_s_ahead, eI X 60 s_ahead), (a_s_behind, eI X 60 s_behind), (a_s_ends, eZ X 60 s_ends), (a_s_settings, eI X 6 s_settings), (a_s_shares, eI X 8 s_shares)] (S := Unit) (fun _ => [(a_s, .inr (3, [.int (iI s_count), .ref a_s_letters, .ref a_s_lengths, .ref a_s_bodies, .ref a_s_ahead, .ref a_s_behind, .ref a_s_ends, .ref a_s_settings, .ref a_s_shares])), (a_s_letters, eI X 720 s_letters), (a_s_lengths, eI X 60 s_lengths), (a_s_bodies, eI X 60 s_bodies), (a_s_ahead, eI X 60 s_ahead), (a_s_behind, eI X 60 s_behind), (a_s_ends, eZ X 60 s_ends), (a_s_settings, eI X 6 s_settings), (a_s_shares, eI X 8 s_shares)]) (fun z _ => post z) 0 0 := by
  refine MCz.of (cc := cX3_wasSetToEnd) (maxL := 2) (by decide +kernel) rfl rfl ?_
  intro p e s m args below meth c A ls Q hE0 hP hD hS hl hend
  obtain ⟨hx, hb, hr, hml, hlocks, hown, hts, hK, hE, hA, hnm⟩ := hE0
  have hl : lv_has ls 2 [(0, .ref a_s), (1, .int (iI p1))] := hl
  have hi_X3 : ∀ w ∈ wsX30, w ∈ wsX3_wasSetToEnd := by decide +kernel
  have hf_27 := hts (.fieldLink RX3 27 "LentMargins$Script" "ends" "[Z") (by decide +kernel)
  refine lv_aload_n hx hb dX3_wasSetToEnd_0 rfl (lv_at hl 0 rfl) ?_
  refine lv_iload_n hx hb dX3_wasSetToEnd_1 rfl (lv_at hl 1 rfl) ?_
  refine k_i (isC := [0, 1, 2, 3, 4, 5, 6, 7, 8]) (isR := []) (va_runV (As := [.int (iI p1)]) (rest := []) ⟨hx, hb, hml, hown, hts⟩ (kX3_has l X a_s a_s_letters a_s_lengths a_s_bodies a_s_ahead a_s_behind a_s_ends a_s_settings a_s_shares s_count s_letters s_lengths s_bodies s_ahead s_behind s_ends s_settings s_shares p1 _ h _) (cwV 1 hts gX3_wasSetToEnd_X3_has rfl rfl rfl (by decide +kernel) ⟨(Nat.le_of_ble_eq_true rfl), (Nat.le_of_ble_eq_true rfl)⟩) ⟨pre_blind, va_recv hK hP (ci := 3) (q0 := 0) rfl rfl, pre_cut hE hK hA hP hD hS (isC := [0, 1, 2, 3, 4, 5, 6, 7, 8]) rfl rfl⟩ rfl rfl hl.1 rfl (lv_room (Nat.le_of_ble_eq_true rfl)) dX3_wasSetToEnd_2 ⟨(Nat.le_of_ble_eq_true rfl), (Nat.le_of_ble_eq_true rfl)⟩) hA hP hD hS rfl rfl rfl (by decide +kernel) (fun z1 u1 H locs h hP hD hS => ?_)
  have hP := hP.sub (ws' := [(a_s, .inr (3, [.int (iI s_count), .ref a_s_letters, .ref a_s_lengths, .ref a_s_bodies, .ref a_s_ahead, .ref a_s_behind, .ref a_s_ends, .ref a_s_settings, .ref a_s_shares])), (a_s_letters, eI X 720 s_letters), (a_s_lengths, eI X 60 s_lengths), (a_s_bodies, eI X 60 s_bodies), (a_s_ahead, eI X 60 s_ahead), (a_s_behind, eI X 60 s_behind), (a_s_ends, eZ X 60 s_ends), (a_s_settings, eI X 6 s_settings), (a_s_shares, eI X 8 s_shares)]) [0, 1, 2, 3, 4, 5, 6, 7, 8] rfl
  have hD := hD.sub (ws' := [(a_s, .inr (3, [.int (iI s_count), .ref a_s_letters, .ref a_s_lengths, .ref a_s_bodies, .ref a_s_ahead, .ref a_s_behind, .ref a_s_ends, .ref a_s_settings, .ref a_s_shares])), (a_s_letters, eI X 720 s_letters), (a_s_lengths, eI X 60 s_lengths), (a_s_bodies, eI X 60 s_bodies), (a_s_ahead, eI X 60 s_ahead), (a_s_behind, eI X 60 s_behind), (a_s_ends, eZ X 60 s_ends), (a_s_settings, eI X 6 s_settings), (a_s_shares, eI X 8 s_shares)]) [0, 1, 2, 3, 4, 5, 6, 7, 8] (by decide +kernel) rfl
  refine i_if_eq (tgt := 21) hx hb h.1 dX3_wasSetToEnd_5 (by decide) (fun c2 => ?_) (fun c2 => ?_)
  · have h := h.2.1 c2
    refine lv_iconst (v := iI 0) hx hb dX3_wasSetToEnd_21 rfl ?_
    exact hend _ _ _ _ _ _ 0 () hP hD hS (Or.inl rfl) h (Nat.le_of_ble_eq_true rfl) (Nat.le_of_ble_eq_true rfl) dX3_wasSetToEnd_22
  · have h := h.2.2 c2
    refine lv_aload_n hx hb dX3_wasSetToEnd_8 rfl (lv_at hl 0 rfl) ?_
    refine va_get (D := X.1) (ci := 3) (C := RX3) (T := TX3) (N := 9) hx hb hts hi_X3 hown hK hP 0 rfl rfl 6 (by decide) hf_27 (fun _ h9 => h9) rfl dX3_wasSetToEnd_9 ?_
    refine lv_iload_n hx hb dX3_wasSetToEnd_12 rfl (lv_at hl 1 rfl) ?_
    refine i_zld hx hb hK hP 6 1 rfl rfl h.1 h.2.1 rfl (Nat.le_of_ble_eq_true rfl) dX3_wasSetToEnd_13 ?_
    have h := h.2.2
    refine i_if_eq (tgt := 21) hx hb h.1 dX3_wasSetToEnd_14 (by decide) (fun c3 => ?_) (fun c3 => ?_)
    · have h := h.2.1 c3
      refine lv_iconst (v := iI 0) hx hb dX3_wasSetToEnd_21 rfl ?_
      exact hend _ _ _ _ _ _ 0 () hP hD hS (Or.inl rfl) h (Nat.le_of_ble_eq_true rfl) (Nat.le_of_ble_eq_true rfl) dX3_wasSetToEnd_22
    · have h := h.2.2 c3
      refine lv_iconst (v := iI 1) hx hb dX3_wasSetToEnd_17 rfl ?_
      refine lv_goto (tgt := 22) hx hb dX3_wasSetToEnd_18 (by decide) ?_
      exact hend _ _ _ _ _ _ 1 () hP hD hS (Or.inr rfl) h (Nat.le_of_ble_eq_true rfl) (Nat.le_of_ble_eq_true rfl) dX3_wasSetToEnd_22
abbrev rmX3_endsParagraph : Room := { frames := 1, cells := 0, slots := 0, locals := 21 }
set_option maxHeartbeats 4000000 in
set_option maxRecDepth 100000 in
theorem kX3_endsParagraph (l : Launch) (X : XD) (a_s a_s_letters a_s_lengths a_s_bodies a_s_ahead a_s_behind a_s_ends a_s_settings a_s_shares : Nat) (s_count : Int) (s_letters : Nat → Int) (s_lengths : Nat → Int) (s_bodies : Nat → Int) (s_ahead : Nat → Int) (s_behind : Nat → Int) (s_ends : Nat → Int) (s_settings : Nat → Int) (s_shares : Nat → Int) (p1 : Int) (post : Int → Prop) (h : wpX3_endsParagraph s_count s_ends p1 post) : MCi l yX3_endsParagraph wsX3_endsParagraph rmX3_endsParagraph X [.ref a_s, .int (iI p1)] [(a_s, .inr (3, [.int (iI s_count), .ref a_s_letters, .ref a_s_lengths, .ref a_s_bodies, .ref a_s_ahead, .ref a_s_behind, .ref a_s_ends, .ref a_s_settings, .ref a_s_shares])), (a_s_letters, eI X 720 s_letters), (a_s_lengths, eI X 60 s_lengths), (a_s_bodies, eI X 60 s_bodies), (a_s_ahead, eI X 60 s_ahead), (a_s_behind, eI X 60 s_behind), (a_s_ends, eZ X 60 s_ends), (a_s_settings, eI X 6 s_settings), (a_s_shares, eI X 8 s_shares)] (S := Unit) (fun _ => [(a_s, .inr (3, [.int (iI s_count), .ref a_s_letters, .ref a_s_lengths, .ref a_s_bodies, .ref a_s_ahead, .ref a_s_behind, .ref a_s_ends, .ref a_s_settings, .ref a_s_shares])), (a_s_letters, eI X 720 s_letters), (a_s_lengths, eI X 60 s_lengths), (a_s_bodies, eI X 60 s_bodies), (a_s_ahead, eI X 60 s_ahead), (a_s_behind, eI X 60 s_behind), (a_s_ends, eZ X 60 s_ends), (a_s_settings, eI X 6 s_settings), (a_s_shares, eI X 8 s_shares)]) (fun z _ => post z) 0 0 := by
  refine MCz.of (cc := cX3_endsParagraph) (maxL := 2) (by decide +kernel) rfl rfl ?_
  intro p e s m args below meth c A ls Q hE0 hP hD hS hl hend
  obtain ⟨hx, hb, hr, hml, hlocks, hown, hts, hK, hE, hA, hnm⟩ := hE0
  have hl : lv_has ls 2 [(0, .ref a_s), (1, .int (iI p1))] := hl
  have hi_X3 : ∀ w ∈ wsX30, w ∈ wsX3_endsParagraph := by decide +kernel
  have hf_27 := hts (.fieldLink RX3 27 "LentMargins$Script" "ends" "[Z") (by decide +kernel)
  have hf_48 := hts (.fieldLink RX3 48 "LentMargins$Script" "count" "I") (by decide +kernel)
  refine lv_aload_n hx hb dX3_endsParagraph_0 rfl (lv_at hl 0 rfl) ?_
  refine lv_iload_n hx hb dX3_endsParagraph_1 rfl (lv_at hl 1 rfl) ?_
  refine k_i (isC := [0, 1, 2, 3, 4, 5, 6, 7, 8]) (isR := []) (va_runV (As := [.int (iI p1)]) (rest := []) ⟨hx, hb, hml, hown, hts⟩ (kX3_has l X a_s a_s_letters a_s_lengths a_s_bodies a_s_ahead a_s_behind a_s_ends a_s_settings a_s_shares s_count s_letters s_lengths s_bodies s_ahead s_behind s_ends s_settings s_shares p1 _ h _) (cwV 1 hts gX3_endsParagraph_X3_has rfl rfl rfl (by decide +kernel) ⟨(Nat.le_of_ble_eq_true rfl), (Nat.le_of_ble_eq_true rfl)⟩) ⟨pre_blind, va_recv hK hP (ci := 3) (q0 := 0) rfl rfl, pre_cut hE hK hA hP hD hS (isC := [0, 1, 2, 3, 4, 5, 6, 7, 8]) rfl rfl⟩ rfl rfl hl.1 rfl (lv_room (Nat.le_of_ble_eq_true rfl)) dX3_endsParagraph_2 ⟨(Nat.le_of_ble_eq_true rfl), (Nat.le_of_ble_eq_true rfl)⟩) hA hP hD hS rfl rfl rfl (by decide +kernel) (fun z1 u1 H locs h hP hD hS => ?_)
  have hP := hP.sub (ws' := [(a_s, .inr (3, [.int (iI s_count), .ref a_s_letters, .ref a_s_lengths, .ref a_s_bodies, .ref a_s_ahead, .ref a_s_behind, .ref a_s_ends, .ref a_s_settings, .ref a_s_shares])), (a_s_letters, eI X 720 s_letters), (a_s_lengths, eI X 60 s_lengths), (a_s_bodies, eI X 60 s_bodies), (a_s_ahead, eI X 60 s_ahead), (a_s_behind, eI X 60 s_behind), (a_s_ends, eZ X 60 s_ends), (a_s_settings, eI X 6 s_settings), (a_s_shares, eI X 8 s_shares)]) [0, 1, 2, 3, 4, 5, 6, 7, 8] rfl
  have hD := hD.sub (ws' := [(a_s, .inr (3, [.int (iI s_count), .ref a_s_letters, .ref a_s_lengths, .ref a_s_bodies, .ref a_s_ahead, .ref a_s_behind, .ref a_s_ends, .ref a_s_settings, .ref a_s_shares])), (a_s_letters, eI X 720 s_letters), (a_s_lengths, eI X 60 s_lengths), (a_s_bodies, eI X 60 s_bodies), (a_s_ahead, eI X 60 s_ahead), (a_s_behind, eI X 60 s_behind), (a_s_ends, eZ X 60 s_ends), (a_s_settings, eI X 6 s_settings), (a_s_shares, eI X 8 s_shares)]) [0, 1, 2, 3, 4, 5, 6, 7, 8] (by decide +kernel) rfl
  refine i_if_eq (tgt := 31) hx hb h.1 dX3_endsParagraph_5 (by decide) (fun c2 => ?_) (fun c2 => ?_)
  · have h := h.2.1 c2
    refine lv_iconst (v := iI 0) hx hb dX3_endsParagraph_31 rfl ?_
    exact hend _ _ _ _ _ _ 0 () hP hD hS (Or.inl rfl) h (Nat.le_of_ble_eq_true rfl) (Nat.le_of_ble_eq_true rfl) dX3_endsParagraph_32
  · have h := h.2.2 c2
    refine lv_aload_n hx hb dX3_endsParagraph_8 rfl (lv_at hl 0 rfl) ?_
    refine va_get (D := X.1) (ci := 3) (C := RX3) (T := TX3) (N := 9) hx hb hts hi_X3 hown hK hP 0 rfl rfl 6 (by decide) hf_27 (fun _ h9 => h9) rfl dX3_endsParagraph_9 ?_
    refine lv_iload_n hx hb dX3_endsParagraph_12 rfl (lv_at hl 1 rfl) ?_
    refine i_zld hx hb hK hP 6 1 rfl rfl h.1 h.2.1 rfl (Nat.le_of_ble_eq_true rfl) dX3_endsParagraph_13 ?_
    have h := h.2.2
    refine i_if_ne (tgt := 27) hx hb h.1 dX3_endsParagraph_14 (by decide) (fun c3 => ?_) (fun c3 => ?_)
    · have h := h.2.1 c3
      refine lv_iconst (v := iI 1) hx hb dX3_endsParagraph_27 rfl ?_
      refine lv_goto (tgt := 32) hx hb dX3_endsParagraph_28 (by decide) ?_
      exact hend _ _ _ _ _ _ 1 () hP hD hS (Or.inr rfl) h (Nat.le_of_ble_eq_true rfl) (Nat.le_of_ble_eq_true rfl) dX3_endsParagraph_32
    · have h := h.2.2 c3
      refine lv_iload_n hx hb dX3_endsParagraph_17 rfl (lv_at hl 1 rfl) ?_
      refine lv_aload_n hx hb dX3_endsParagraph_18 rfl (lv_at hl 0 rfl) ?_
      refine va_get (D := X.1) (ci := 3) (C := RX3) (T := TX3) (N := 9) hx hb hts hi_X3 hown hK hP 0 rfl rfl 0 (by decide) hf_48 (fun _ h9 => h9) rfl dX3_endsParagraph_19 ?_
      refine lv_iconst (v := iI 1) hx hb dX3_endsParagraph_22 rfl ?_
      refine i_sub hx hb dX3_endsParagraph_23 ?_
      refine i_cmp_ne (tgt := 31) hx hb h.1 h.2.1 dX3_endsParagraph_24 (by decide) (fun c4 => ?_) (fun c4 => ?_)
      · have h := h.2.2.1 c4
        refine lv_iconst (v := iI 0) hx hb dX3_endsParagraph_31 rfl ?_
        exact hend _ _ _ _ _ _ 0 () hP hD hS (Or.inl rfl) h (Nat.le_of_ble_eq_true rfl) (Nat.le_of_ble_eq_true rfl) dX3_endsParagraph_32
      · have h := h.2.2.2 c4
        refine lv_iconst (v := iI 1) hx hb dX3_endsParagraph_27 rfl ?_
        refine lv_goto (tgt := 32) hx hb dX3_endsParagraph_28 (by decide) ?_
        exact hend _ _ _ _ _ _ 1 () hP hD hS (Or.inr rfl) h (Nat.le_of_ble_eq_true rfl) (Nat.le_of_ble_eq_true rfl) dX3_endsParagraph_32
abbrev rmX3_paragraphs : Room := { frames := 2, cells := 0, slots := 0, locals := 42 }
set_option maxHeartbeats 4000000 in
set_option maxRecDepth 100000 in
theorem kX3_paragraphs (l : Launch) (X : XD) (a_s a_s_letters a_s_lengths a_s_bodies a_s_ahead a_s_behind a_s_ends a_s_settings a_s_shares : Nat) (s_count : Int) (s_letters : Nat → Int) (s_lengths : Nat → Int) (s_bodies : Nat → Int) (s_ahead : Nat → Int) (s_behind : Nat → Int) (s_ends : Nat → Int) (s_settings : Nat → Int) (s_shares : Nat → Int) (post : Int → Prop) (h : wpX3_paragraphs s_count s_ends post) : MCi l yX3_paragraphs wsX3_paragraphs rmX3_paragraphs X [.ref a_s] [(a_s, .inr (3, [.int (iI s_count), .ref a_s_letters, .ref a_s_lengths, .ref a_s_bodies, .ref a_s_ahead, .ref a_s_behind, .ref a_s_ends, .ref a_s_settings, .ref a_s_shares])), (a_s_letters, eI X 720 s_letters), (a_s_lengths, eI X 60 s_lengths), (a_s_bodies, eI X 60 s_bodies), (a_s_ahead, eI X 60 s_ahead), (a_s_behind, eI X 60 s_behind), (a_s_ends, eZ X 60 s_ends), (a_s_settings, eI X 6 s_settings), (a_s_shares, eI X 8 s_shares)] (S := Unit) (fun _ => [(a_s, .inr (3, [.int (iI s_count), .ref a_s_letters, .ref a_s_lengths, .ref a_s_bodies, .ref a_s_ahead, .ref a_s_behind, .ref a_s_ends, .ref a_s_settings, .ref a_s_shares])), (a_s_letters, eI X 720 s_letters), (a_s_lengths, eI X 60 s_lengths), (a_s_bodies, eI X 60 s_bodies), (a_s_ahead, eI X 60 s_ahead), (a_s_behind, eI X 60 s_behind), (a_s_ends, eZ X 60 s_ends), (a_s_settings, eI X 6 s_settings), (a_s_shares, eI X 8 s_shares)]) (fun z _ => post z) 0 0 := by
  refine MCi.of (cc := cX3_paragraphs) (maxL := 3) (by decide +kernel) rfl rfl ?_
  intro p e s m args below meth c A ls Q hE0 hP hD hS hl hend
  obtain ⟨hx, hb, hr, hml, hlocks, hown, hts, hK, hE, hA, hnm⟩ := hE0
  have hl : lv_has ls 3 [(0, .ref a_s)] := hl
  have hi_X3 : ∀ w ∈ wsX30, w ∈ wsX3_paragraphs := by decide +kernel
  have hf_48 := hts (.fieldLink RX3 48 "LentMargins$Script" "count" "I") (by decide +kernel)
  have B23 : ∀ (k4 : Int → Int → Prop) (hk4 : ∀ (v1 : Int) (v2 : Int), k4 v1 v2 → ∀ (H : Heap) (locs : List Loc) (ls : Array Slot), va_P X.1 vwCl [(a_s, .inr (3, [.int (iI s_count), .ref a_s_letters, .ref a_s_lengths, .ref a_s_bodies, .ref a_s_ahead, .ref a_s_behind, .ref a_s_ends, .ref a_s_settings, .ref a_s_shares])), (a_s_letters, eI X 720 s_letters), (a_s_lengths, eI X 60 s_lengths), (a_s_bodies, eI X 60 s_bodies), (a_s_ahead, eI X 60 s_ahead), (a_s_behind, eI X 60 s_behind), (a_s_ends, eZ X 60 s_ends), (a_s_settings, eI X 6 s_settings), (a_s_shares, eI X 8 s_shares)] H → va_D A [(a_s, .inr (3, [.int (iI s_count), .ref a_s_letters, .ref a_s_lengths, .ref a_s_bodies, .ref a_s_ahead, .ref a_s_behind, .ref a_s_ends, .ref a_s_settings, .ref a_s_shares])), (a_s_letters, eI X 720 s_letters), (a_s_lengths, eI X 60 s_lengths), (a_s_bodies, eI X 60 s_bodies), (a_s_ahead, eI X 60 s_ahead), (a_s_behind, eI X 60 s_behind), (a_s_ends, eZ X 60 s_ends), (a_s_settings, eI X 6 s_settings), (a_s_shares, eI X 8 s_shares)] → va_S A s.heap H locs → lv_has ls 3 [(0, .ref a_s), (1, .int (iI v1)), (2, .int (iI v2))] → W p l e rmX3_paragraphs s m args below meth c H locs 0 0 Q (F0 m 4 ls [])) (v1 : Int) (v2 : Int), wpX3_paragraphs_23 s_count s_ends post k4 v1 v2 → ∀ (H : Heap) (locs : List Loc) (ls : Array Slot), va_P X.1 vwCl [(a_s, .inr (3, [.int (iI s_count), .ref a_s_letters, .ref a_s_lengths, .ref a_s_bodies, .ref a_s_ahead, .ref a_s_behind, .ref a_s_ends, .ref a_s_settings, .ref a_s_shares])), (a_s_letters, eI X 720 s_letters), (a_s_lengths, eI X 60 s_lengths), (a_s_bodies, eI X 60 s_bodies), (a_s_ahead, eI X 60 s_ahead), (a_s_behind, eI X 60 s_behind), (a_s_ends, eZ X 60 s_ends), (a_s_settings, eI X 6 s_settings), (a_s_shares, eI X 8 s_shares)] H → va_D A [(a_s, .inr (3, [.int (iI s_count), .ref a_s_letters, .ref a_s_lengths, .ref a_s_bodies, .ref a_s_ahead, .ref a_s_behind, .ref a_s_ends, .ref a_s_settings, .ref a_s_shares])), (a_s_letters, eI X 720 s_letters), (a_s_lengths, eI X 60 s_lengths), (a_s_bodies, eI X 60 s_bodies), (a_s_ahead, eI X 60 s_ahead), (a_s_behind, eI X 60 s_behind), (a_s_ends, eZ X 60 s_ends), (a_s_settings, eI X 6 s_settings), (a_s_shares, eI X 8 s_shares)] → va_S A s.heap H locs → lv_has ls 3 [(0, .ref a_s), (1, .int (iI v1)), (2, .int (iI v2))] → W p l e rmX3_paragraphs s m args below meth c H locs 0 0 Q (F0 m 23 ls []) := by
    intro k4 hk4 v1 v2 h H locs ls hP hD hS hl
    refine lv_iinc (v := iI (v2 + 1)) (lv' := [(2, .int (iI (v2 + 1))), (0, .ref a_s), (1, .int (iI v1))]) hx hb dX3_paragraphs_23 hl (k := 2) rfl (iI_add _ _) (by decide) rfl (fun ls hl => ?_)
    refine lv_goto (tgt := 4) hx hb dX3_paragraphs_26 (by decide) ?_
    exact hk4 v1 (v2 + 1) h _ _ _ hP hD hS (lv_sub hl [1, 2, 0] rfl)
  have B4 : ∀ (n : Nat) (v1 : Int) (v2 : Int), wpX3_paragraphs_4 s_count s_ends post n v1 v2 → ∀ (H : Heap) (locs : List Loc) (ls : Array Slot), va_P X.1 vwCl [(a_s, .inr (3, [.int (iI s_count), .ref a_s_letters, .ref a_s_lengths, .ref a_s_bodies, .ref a_s_ahead, .ref a_s_behind, .ref a_s_ends, .ref a_s_settings, .ref a_s_shares])), (a_s_letters, eI X 720 s_letters), (a_s_lengths, eI X 60 s_lengths), (a_s_bodies, eI X 60 s_bodies), (a_s_ahead, eI X 60 s_ahead), (a_s_behind, eI X 60 s_behind), (a_s_ends, eZ X 60 s_ends), (a_s_settings, eI X 6 s_settings), (a_s_shares, eI X 8 s_shares)] H → va_D A [(a_s, .inr (3, [.int (iI s_count), .ref a_s_letters, .ref a_s_lengths, .ref a_s_bodies, .ref a_s_ahead, .ref a_s_behind, .ref a_s_ends, .ref a_s_settings, .ref a_s_shares])), (a_s_letters, eI X 720 s_letters), (a_s_lengths, eI X 60 s_lengths), (a_s_bodies, eI X 60 s_bodies), (a_s_ahead, eI X 60 s_ahead), (a_s_behind, eI X 60 s_behind), (a_s_ends, eZ X 60 s_ends), (a_s_settings, eI X 6 s_settings), (a_s_shares, eI X 8 s_shares)] → va_S A s.heap H locs → lv_has ls 3 [(0, .ref a_s), (1, .int (iI v1)), (2, .int (iI v2))] → W p l e rmX3_paragraphs s m args below meth c H locs 0 0 Q (F0 m 4 ls []) := by
    intro  n
    induction n with
    | zero => intro v1 v2 h; exact h.elim
    | succ n ih =>
      intro v1 v2 h H locs ls hP hD hS hl
      refine lv_iload_n hx hb dX3_paragraphs_4 rfl (lv_at hl 2 rfl) ?_
      refine lv_aload_n hx hb dX3_paragraphs_5 rfl (lv_at hl 0 rfl) ?_
      refine va_get (D := X.1) (ci := 3) (C := RX3) (T := TX3) (N := 9) hx hb hts hi_X3 hown hK hP 0 rfl rfl 0 (by decide) hf_48 (fun _ h9 => h9) rfl dX3_paragraphs_6 ?_
      refine i_cmp_ge (tgt := 29) hx hb h.1 h.2.1 dX3_paragraphs_9 (by decide) (fun c1 => ?_) (fun c1 => ?_)
      · have h := h.2.2.1 c1
        refine lv_iload_n hx hb dX3_paragraphs_29 rfl (lv_at hl 1 rfl) ?_
        exact hend _ _ _ _ _ _ v1 () hP hD hS h (Nat.le_of_ble_eq_true rfl) (Nat.le_of_ble_eq_true rfl) dX3_paragraphs_30
      · have h := h.2.2.2 c1
        refine lv_aload_n hx hb dX3_paragraphs_12 rfl (lv_at hl 0 rfl) ?_
        refine lv_iload_n hx hb dX3_paragraphs_13 rfl (lv_at hl 2 rfl) ?_
        refine k_i (isC := [0, 1, 2, 3, 4, 5, 6, 7, 8]) (isR := []) (va_runV (As := [.int (iI v2)]) (rest := []) ⟨hx, hb, hml, hown, hts⟩ (kX3_endsParagraph l X a_s a_s_letters a_s_lengths a_s_bodies a_s_ahead a_s_behind a_s_ends a_s_settings a_s_shares s_count s_letters s_lengths s_bodies s_ahead s_behind s_ends s_settings s_shares v2 _ h _) (cwV 1 hts gX3_paragraphs_X3_endsParagraph rfl rfl rfl (by decide +kernel) ⟨(Nat.le_of_ble_eq_true rfl), (Nat.le_of_ble_eq_true rfl)⟩) ⟨pre_blind, va_recv hK hP (ci := 3) (q0 := 0) rfl rfl, pre_cut hE hK hA hP hD hS (isC := [0, 1, 2, 3, 4, 5, 6, 7, 8]) rfl rfl⟩ rfl rfl hl.1 rfl (lv_room (Nat.le_of_ble_eq_true rfl)) dX3_paragraphs_14 ⟨(Nat.le_of_ble_eq_true rfl), (Nat.le_of_ble_eq_true rfl)⟩) hA hP hD hS rfl rfl rfl (by decide +kernel) (fun z2 u2 H locs h hP hD hS => ?_)
        have hP := hP.sub (ws' := [(a_s, .inr (3, [.int (iI s_count), .ref a_s_letters, .ref a_s_lengths, .ref a_s_bodies, .ref a_s_ahead, .ref a_s_behind, .ref a_s_ends, .ref a_s_settings, .ref a_s_shares])), (a_s_letters, eI X 720 s_letters), (a_s_lengths, eI X 60 s_lengths), (a_s_bodies, eI X 60 s_bodies), (a_s_ahead, eI X 60 s_ahead), (a_s_behind, eI X 60 s_behind), (a_s_ends, eZ X 60 s_ends), (a_s_settings, eI X 6 s_settings), (a_s_shares, eI X 8 s_shares)]) [0, 1, 2, 3, 4, 5, 6, 7, 8] rfl
        have hD := hD.sub (ws' := [(a_s, .inr (3, [.int (iI s_count), .ref a_s_letters, .ref a_s_lengths, .ref a_s_bodies, .ref a_s_ahead, .ref a_s_behind, .ref a_s_ends, .ref a_s_settings, .ref a_s_shares])), (a_s_letters, eI X 720 s_letters), (a_s_lengths, eI X 60 s_lengths), (a_s_bodies, eI X 60 s_bodies), (a_s_ahead, eI X 60 s_ahead), (a_s_behind, eI X 60 s_behind), (a_s_ends, eZ X 60 s_ends), (a_s_settings, eI X 6 s_settings), (a_s_shares, eI X 8 s_shares)]) [0, 1, 2, 3, 4, 5, 6, 7, 8] (by decide +kernel) rfl
        refine i_if_eq (tgt := 23) hx hb h.1 dX3_paragraphs_17 (by decide) (fun c3 => ?_) (fun c3 => ?_)
        · have h := h.2.1 c3
          exact B23 (wpX3_paragraphs_4 s_count s_ends post n) ih v1 v2 h _ _ _ hP hD hS (lv_sub hl [0, 1, 2] rfl)
        · have h := h.2.2 c3
          refine lv_iinc (v := iI (v1 + 1)) (lv' := [(1, .int (iI (v1 + 1))), (0, .ref a_s), (2, .int (iI v2))]) hx hb dX3_paragraphs_20 hl (k := 1) rfl (iI_add _ _) (by decide) rfl (fun ls hl => ?_)
          exact B23 (wpX3_paragraphs_4 s_count s_ends post n) ih (v1 + 1) v2 h _ _ _ hP hD hS (lv_sub hl [1, 0, 2] rfl)
  refine lv_iconst (v := iI 0) hx hb dX3_paragraphs_0 rfl ?_
  refine lv_istore_n (lv' := [(1, .int (iI 0)), (0, .ref a_s)]) hx hb dX3_paragraphs_1 rfl hl (by decide) rfl (fun ls hl => ?_)
  refine lv_iconst (v := iI 0) hx hb dX3_paragraphs_2 rfl ?_
  refine lv_istore_n (lv' := [(2, .int (iI 0)), (1, .int (iI 0)), (0, .ref a_s)]) hx hb dX3_paragraphs_3 rfl hl (by decide) rfl (fun ls hl => ?_)
  obtain ⟨n1, h⟩ := h
  exact B4  n1 0 0 h _ _ _ hP hD hS (lv_sub hl [2, 1, 0] rfl)
abbrev rmX3_move : Room := { frames := 1, cells := 0, slots := 0, locals := 40 }
set_option maxHeartbeats 4000000 in
set_option maxRecDepth 100000 in
theorem kX3_move (l : Launch) (X : XD) (a_s a_s_letters a_s_lengths a_s_bodies a_s_ahead a_s_behind a_s_ends a_s_settings a_s_shares : Nat) (s_count : Int) (s_letters : Nat → Int) (s_lengths : Nat → Int) (s_bodies : Nat → Int) (s_ahead : Nat → Int) (s_behind : Nat → Int) (s_ends : Nat → Int) (s_settings : Nat → Int) (s_shares : Nat → Int) (p1 : Int) (p2 : Int) (p3 : Int) (post : (Nat → Int) → (Nat → Int) → (Nat → Int) → (Nat → Int) → (Nat → Int) → (Nat → Int) → Prop) (h : wpX3_move s_letters s_lengths s_bodies s_ahead s_behind s_ends p1 p2 p3 post) : MCv l yX3_move wsX3_move rmX3_move X [.ref a_s, .int (iI p1), .int (iI p2), .int (iI p3)] [(a_s, .inr (3, [.int (iI s_count), .ref a_s_letters, .ref a_s_lengths, .ref a_s_bodies, .ref a_s_ahead, .ref a_s_behind, .ref a_s_ends, .ref a_s_settings, .ref a_s_shares])), (a_s_letters, eI X 720 s_letters), (a_s_lengths, eI X 60 s_lengths), (a_s_bodies, eI X 60 s_bodies), (a_s_ahead, eI X 60 s_ahead), (a_s_behind, eI X 60 s_behind), (a_s_ends, eZ X 60 s_ends), (a_s_settings, eI X 6 s_settings), (a_s_shares, eI X 8 s_shares)] (S := (Nat → Int) × (Nat → Int) × (Nat → Int) × (Nat → Int) × (Nat → Int) × (Nat → Int)) (fun u => [(a_s, .inr (3, [.int (iI s_count), .ref a_s_letters, .ref a_s_lengths, .ref a_s_bodies, .ref a_s_ahead, .ref a_s_behind, .ref a_s_ends, .ref a_s_settings, .ref a_s_shares])), (a_s_letters, eI X 720 u.1), (a_s_lengths, eI X 60 u.2.1), (a_s_bodies, eI X 60 u.2.2.1), (a_s_ahead, eI X 60 u.2.2.2.1), (a_s_behind, eI X 60 u.2.2.2.2.1), (a_s_ends, eZ X 60 u.2.2.2.2.2), (a_s_settings, eI X 6 s_settings), (a_s_shares, eI X 8 s_shares)]) (fun u => post u.1 u.2.1 u.2.2.1 u.2.2.2.1 u.2.2.2.2.1 u.2.2.2.2.2) 0 0 := by
  refine MCv.of (cc := cX3_move) (maxL := 4) (by decide +kernel) rfl rfl ?_
  intro p e s m args below meth c A ls Q hE0 hP hD hS hl hend
  obtain ⟨hx, hb, hr, hml, hlocks, hown, hts, hK, hE, hA, hnm⟩ := hE0
  have hl : lv_has ls 4 [(0, .ref a_s), (1, .int (iI p1)), (2, .int (iI p2)), (3, .int (iI p3))] := hl
  have hi_X3 : ∀ w ∈ wsX30, w ∈ wsX3_move := by decide +kernel
  have hf_9 := hts (.fieldLink RX3 9 "LentMargins$Script" "letters" "[I") (by decide +kernel)
  have hf_15 := hts (.fieldLink RX3 15 "LentMargins$Script" "lengths" "[I") (by decide +kernel)
  have hf_18 := hts (.fieldLink RX3 18 "LentMargins$Script" "bodies" "[I") (by decide +kernel)
  have hf_21 := hts (.fieldLink RX3 21 "LentMargins$Script" "ahead" "[I") (by decide +kernel)
  have hf_24 := hts (.fieldLink RX3 24 "LentMargins$Script" "behind" "[I") (by decide +kernel)
  have hf_27 := hts (.fieldLink RX3 27 "LentMargins$Script" "ends" "[Z") (by decide +kernel)
  refine lv_iload_n hx hb dX3_move_0 rfl (lv_at hl 1 rfl) ?_
  refine i_if_lt (tgt := 24) hx hb h.1 dX3_move_1 (by decide) (fun c1 => ?_) (fun c1 => ?_)
  · have h := h.2.1 c1
    exact hend _ _ _ _ _ _ (s_letters, s_lengths, s_bodies, s_ahead, s_behind, s_ends) hP hD hS h (Nat.le_of_ble_eq_true rfl) (Nat.le_of_ble_eq_true rfl) dX3_move_24
  · have h := h.2.2 c1
    refine lv_iload_n hx hb dX3_move_4 rfl (lv_at hl 2 rfl) ?_
    refine i_if_lt (tgt := 24) hx hb h.1 dX3_move_5 (by decide) (fun c2 => ?_) (fun c2 => ?_)
    · have h := h.2.1 c2
      exact hend _ _ _ _ _ _ (s_letters, s_lengths, s_bodies, s_ahead, s_behind, s_ends) hP hD hS h (Nat.le_of_ble_eq_true rfl) (Nat.le_of_ble_eq_true rfl) dX3_move_24
    · have h := h.2.2 c2
      refine lv_iload_n hx hb dX3_move_8 rfl (lv_at hl 3 rfl) ?_
      refine i_if_lt (tgt := 24) hx hb h.1 dX3_move_9 (by decide) (fun c3 => ?_) (fun c3 => ?_)
      · have h := h.2.1 c3
        exact hend _ _ _ _ _ _ (s_letters, s_lengths, s_bodies, s_ahead, s_behind, s_ends) hP hD hS h (Nat.le_of_ble_eq_true rfl) (Nat.le_of_ble_eq_true rfl) dX3_move_24
      · have h := h.2.2 c3
        refine lv_iload_n hx hb dX3_move_12 rfl (lv_at hl 1 rfl) ?_
        refine lv_iload_n hx hb dX3_move_13 rfl (lv_at hl 2 rfl) ?_
        refine i_mmax hx hb (hml.trans hl.1.symm) hown (hts (.methodLink RX3 70 Lib.Math.max.name) (by decide +kernel)) (hts (.static Lib.Math.max.name) (by decide +kernel)) (hts (.initialized "java/lang/Math") (by decide +kernel)) (hts (.code Lib.Math.max.name Lib.Math.max.code 2 (some .int)) (by decide +kernel)) (Nat.le_of_ble_eq_true rfl) (Nat.le_of_ble_eq_true rfl) (Nat.le_of_ble_eq_true rfl) (Nat.le_of_ble_eq_true rfl) h.1 h.2.1 dX3_move_14 ?_
        have h := h.2.2
        refine lv_iload_n hx hb dX3_move_17 rfl (lv_at hl 3 rfl) ?_
        refine i_add hx hb dX3_move_18 ?_
        refine lv_bipush (v := iI 60) hx hb dX3_move_19 (by decide +kernel) ?_
        refine i_cmp_le (tgt := 25) hx hb h.1 (inR_lit rfl) dX3_move_21 (by decide) (fun c4 => ?_) (fun c4 => ?_)
        · have h := h.2.1 c4
          refine lv_aload_n hx hb dX3_move_25 rfl (lv_at hl 0 rfl) ?_
          refine va_get (D := X.1) (ci := 3) (C := RX3) (T := TX3) (N := 9) hx hb hts hi_X3 hown hK hP 0 rfl rfl 1 (by decide) hf_9 (fun _ h9 => h9) rfl dX3_move_26 ?_
          refine lv_iload_n hx hb dX3_move_29 rfl (lv_at hl 1 rfl) ?_
          refine lv_bipush (v := iI 12) hx hb dX3_move_30 (by decide +kernel) ?_
          refine i_mul hx hb dX3_move_32 ?_
          refine lv_aload_n hx hb dX3_move_33 rfl (lv_at hl 0 rfl) ?_
          refine va_get (D := X.1) (ci := 3) (C := RX3) (T := TX3) (N := 9) hx hb hts hi_X3 hown hK hP 0 rfl rfl 1 (by decide) hf_9 (fun _ h9 => h9) rfl dX3_move_34 ?_
          refine lv_iload_n hx hb dX3_move_37 rfl (lv_at hl 2 rfl) ?_
          refine lv_bipush (v := iI 12) hx hb dX3_move_38 (by decide +kernel) ?_
          refine i_mul hx hb dX3_move_40 ?_
          refine lv_iload_n hx hb dX3_move_41 rfl (lv_at hl 3 rfl) ?_
          refine lv_bipush (v := iI 12) hx hb dX3_move_42 (by decide +kernel) ?_
          refine i_mul hx hb dX3_move_44 ?_
          refine i_cpyI hx hb (hml.trans hl.1.symm) hown (hts (.methodLink RX3 56 arraycopyName) (by decide +kernel)) (hts (.native arraycopyName) (by decide +kernel)) (hts (.static arraycopyName) (by decide +kernel)) (hts (.initialized "java/lang/System") (by decide +kernel)) hK hP hD hS 1 1 0 rfl rfl rfl h.1 h.2.1 h.2.2.1 h.2.2.2.1 h.2.2.2.2.1 rfl rfl (Nat.le_of_ble_eq_true rfl) (Nat.le_of_ble_eq_true rfl) (Nat.le_of_ble_eq_true rfl) (by decide +kernel) dX3_move_45 (fun H locs hP hD hS => ?_)
          have hP : va_P X.1 vwCl [(a_s, .inr (3, [.int (iI s_count), .ref a_s_letters, .ref a_s_lengths, .ref a_s_bodies, .ref a_s_ahead, .ref a_s_behind, .ref a_s_ends, .ref a_s_settings, .ref a_s_shares])), (a_s_letters, eI X 720 (cpyI s_letters s_letters (p1 * 12).toNat (p2 * 12).toNat (p3 * 12).toNat)), (a_s_lengths, eI X 60 s_lengths), (a_s_bodies, eI X 60 s_bodies), (a_s_ahead, eI X 60 s_ahead), (a_s_behind, eI X 60 s_behind), (a_s_ends, eZ X 60 s_ends), (a_s_settings, eI X 6 s_settings), (a_s_shares, eI X 8 s_shares)] H := hP
          have hD : va_D A [(a_s, .inr (3, [.int (iI s_count), .ref a_s_letters, .ref a_s_lengths, .ref a_s_bodies, .ref a_s_ahead, .ref a_s_behind, .ref a_s_ends, .ref a_s_settings, .ref a_s_shares])), (a_s_letters, eI X 720 (cpyI s_letters s_letters (p1 * 12).toNat (p2 * 12).toNat (p3 * 12).toNat)), (a_s_lengths, eI X 60 s_lengths), (a_s_bodies, eI X 60 s_bodies), (a_s_ahead, eI X 60 s_ahead), (a_s_behind, eI X 60 s_behind), (a_s_ends, eZ X 60 s_ends), (a_s_settings, eI X 6 s_settings), (a_s_shares, eI X 8 s_shares)] := hD
          have h := h.2.2.2.2.2
          refine lv_aload_n hx hb dX3_move_48 rfl (lv_at hl 0 rfl) ?_
          refine va_get (D := X.1) (ci := 3) (C := RX3) (T := TX3) (N := 9) hx hb hts hi_X3 hown hK hP 0 rfl rfl 2 (by decide) hf_15 (fun _ h9 => h9) rfl dX3_move_49 ?_
          refine lv_iload_n hx hb dX3_move_52 rfl (lv_at hl 1 rfl) ?_
          refine lv_aload_n hx hb dX3_move_53 rfl (lv_at hl 0 rfl) ?_
          refine va_get (D := X.1) (ci := 3) (C := RX3) (T := TX3) (N := 9) hx hb hts hi_X3 hown hK hP 0 rfl rfl 2 (by decide) hf_15 (fun _ h9 => h9) rfl dX3_move_54 ?_
          refine lv_iload_n hx hb dX3_move_57 rfl (lv_at hl 2 rfl) ?_
          refine lv_iload_n hx hb dX3_move_58 rfl (lv_at hl 3 rfl) ?_
          refine i_cpyI hx hb (hml.trans hl.1.symm) hown (hts (.methodLink RX3 56 arraycopyName) (by decide +kernel)) (hts (.native arraycopyName) (by decide +kernel)) (hts (.static arraycopyName) (by decide +kernel)) (hts (.initialized "java/lang/System") (by decide +kernel)) hK hP hD hS 2 2 0 rfl rfl rfl h.1 h.2.1 h.2.2.1 h.2.2.2.1 h.2.2.2.2.1 rfl rfl (Nat.le_of_ble_eq_true rfl) (Nat.le_of_ble_eq_true rfl) (Nat.le_of_ble_eq_true rfl) (by decide +kernel) dX3_move_59 (fun H locs hP hD hS => ?_)
          have hP : va_P X.1 vwCl [(a_s, .inr (3, [.int (iI s_count), .ref a_s_letters, .ref a_s_lengths, .ref a_s_bodies, .ref a_s_ahead, .ref a_s_behind, .ref a_s_ends, .ref a_s_settings, .ref a_s_shares])), (a_s_letters, eI X 720 (cpyI s_letters s_letters (p1 * 12).toNat (p2 * 12).toNat (p3 * 12).toNat)), (a_s_lengths, eI X 60 (cpyI s_lengths s_lengths (p1).toNat (p2).toNat (p3).toNat)), (a_s_bodies, eI X 60 s_bodies), (a_s_ahead, eI X 60 s_ahead), (a_s_behind, eI X 60 s_behind), (a_s_ends, eZ X 60 s_ends), (a_s_settings, eI X 6 s_settings), (a_s_shares, eI X 8 s_shares)] H := hP
          have hD : va_D A [(a_s, .inr (3, [.int (iI s_count), .ref a_s_letters, .ref a_s_lengths, .ref a_s_bodies, .ref a_s_ahead, .ref a_s_behind, .ref a_s_ends, .ref a_s_settings, .ref a_s_shares])), (a_s_letters, eI X 720 (cpyI s_letters s_letters (p1 * 12).toNat (p2 * 12).toNat (p3 * 12).toNat)), (a_s_lengths, eI X 60 (cpyI s_lengths s_lengths (p1).toNat (p2).toNat (p3).toNat)), (a_s_bodies, eI X 60 s_bodies), (a_s_ahead, eI X 60 s_ahead), (a_s_behind, eI X 60 s_behind), (a_s_ends, eZ X 60 s_ends), (a_s_settings, eI X 6 s_settings), (a_s_shares, eI X 8 s_shares)] := hD
          have h := h.2.2.2.2.2
          refine lv_aload_n hx hb dX3_move_62 rfl (lv_at hl 0 rfl) ?_
          refine va_get (D := X.1) (ci := 3) (C := RX3) (T := TX3) (N := 9) hx hb hts hi_X3 hown hK hP 0 rfl rfl 3 (by decide) hf_18 (fun _ h9 => h9) rfl dX3_move_63 ?_
          refine lv_iload_n hx hb dX3_move_66 rfl (lv_at hl 1 rfl) ?_
          refine lv_aload_n hx hb dX3_move_67 rfl (lv_at hl 0 rfl) ?_
          refine va_get (D := X.1) (ci := 3) (C := RX3) (T := TX3) (N := 9) hx hb hts hi_X3 hown hK hP 0 rfl rfl 3 (by decide) hf_18 (fun _ h9 => h9) rfl dX3_move_68 ?_
          refine lv_iload_n hx hb dX3_move_71 rfl (lv_at hl 2 rfl) ?_
          refine lv_iload_n hx hb dX3_move_72 rfl (lv_at hl 3 rfl) ?_
          refine i_cpyI hx hb (hml.trans hl.1.symm) hown (hts (.methodLink RX3 56 arraycopyName) (by decide +kernel)) (hts (.native arraycopyName) (by decide +kernel)) (hts (.static arraycopyName) (by decide +kernel)) (hts (.initialized "java/lang/System") (by decide +kernel)) hK hP hD hS 3 3 0 rfl rfl rfl h.1 h.2.1 h.2.2.1 h.2.2.2.1 h.2.2.2.2.1 rfl rfl (Nat.le_of_ble_eq_true rfl) (Nat.le_of_ble_eq_true rfl) (Nat.le_of_ble_eq_true rfl) (by decide +kernel) dX3_move_73 (fun H locs hP hD hS => ?_)
          have hP : va_P X.1 vwCl [(a_s, .inr (3, [.int (iI s_count), .ref a_s_letters, .ref a_s_lengths, .ref a_s_bodies, .ref a_s_ahead, .ref a_s_behind, .ref a_s_ends, .ref a_s_settings, .ref a_s_shares])), (a_s_letters, eI X 720 (cpyI s_letters s_letters (p1 * 12).toNat (p2 * 12).toNat (p3 * 12).toNat)), (a_s_lengths, eI X 60 (cpyI s_lengths s_lengths (p1).toNat (p2).toNat (p3).toNat)), (a_s_bodies, eI X 60 (cpyI s_bodies s_bodies (p1).toNat (p2).toNat (p3).toNat)), (a_s_ahead, eI X 60 s_ahead), (a_s_behind, eI X 60 s_behind), (a_s_ends, eZ X 60 s_ends), (a_s_settings, eI X 6 s_settings), (a_s_shares, eI X 8 s_shares)] H := hP
          have hD : va_D A [(a_s, .inr (3, [.int (iI s_count), .ref a_s_letters, .ref a_s_lengths, .ref a_s_bodies, .ref a_s_ahead, .ref a_s_behind, .ref a_s_ends, .ref a_s_settings, .ref a_s_shares])), (a_s_letters, eI X 720 (cpyI s_letters s_letters (p1 * 12).toNat (p2 * 12).toNat (p3 * 12).toNat)), (a_s_lengths, eI X 60 (cpyI s_lengths s_lengths (p1).toNat (p2).toNat (p3).toNat)), (a_s_bodies, eI X 60 (cpyI s_bodies s_bodies (p1).toNat (p2).toNat (p3).toNat)), (a_s_ahead, eI X 60 s_ahead), (a_s_behind, eI X 60 s_behind), (a_s_ends, eZ X 60 s_ends), (a_s_settings, eI X 6 s_settings), (a_s_shares, eI X 8 s_shares)] := hD
          have h := h.2.2.2.2.2
          refine lv_aload_n hx hb dX3_move_76 rfl (lv_at hl 0 rfl) ?_
          refine va_get (D := X.1) (ci := 3) (C := RX3) (T := TX3) (N := 9) hx hb hts hi_X3 hown hK hP 0 rfl rfl 4 (by decide) hf_21 (fun _ h9 => h9) rfl dX3_move_77 ?_
          refine lv_iload_n hx hb dX3_move_80 rfl (lv_at hl 1 rfl) ?_
          refine lv_aload_n hx hb dX3_move_81 rfl (lv_at hl 0 rfl) ?_
          refine va_get (D := X.1) (ci := 3) (C := RX3) (T := TX3) (N := 9) hx hb hts hi_X3 hown hK hP 0 rfl rfl 4 (by decide) hf_21 (fun _ h9 => h9) rfl dX3_move_82 ?_
          refine lv_iload_n hx hb dX3_move_85 rfl (lv_at hl 2 rfl) ?_
          refine lv_iload_n hx hb dX3_move_86 rfl (lv_at hl 3 rfl) ?_
          refine i_cpyI hx hb (hml.trans hl.1.symm) hown (hts (.methodLink RX3 56 arraycopyName) (by decide +kernel)) (hts (.native arraycopyName) (by decide +kernel)) (hts (.static arraycopyName) (by decide +kernel)) (hts (.initialized "java/lang/System") (by decide +kernel)) hK hP hD hS 4 4 0 rfl rfl rfl h.1 h.2.1 h.2.2.1 h.2.2.2.1 h.2.2.2.2.1 rfl rfl (Nat.le_of_ble_eq_true rfl) (Nat.le_of_ble_eq_true rfl) (Nat.le_of_ble_eq_true rfl) (by decide +kernel) dX3_move_87 (fun H locs hP hD hS => ?_)
          have hP : va_P X.1 vwCl [(a_s, .inr (3, [.int (iI s_count), .ref a_s_letters, .ref a_s_lengths, .ref a_s_bodies, .ref a_s_ahead, .ref a_s_behind, .ref a_s_ends, .ref a_s_settings, .ref a_s_shares])), (a_s_letters, eI X 720 (cpyI s_letters s_letters (p1 * 12).toNat (p2 * 12).toNat (p3 * 12).toNat)), (a_s_lengths, eI X 60 (cpyI s_lengths s_lengths (p1).toNat (p2).toNat (p3).toNat)), (a_s_bodies, eI X 60 (cpyI s_bodies s_bodies (p1).toNat (p2).toNat (p3).toNat)), (a_s_ahead, eI X 60 (cpyI s_ahead s_ahead (p1).toNat (p2).toNat (p3).toNat)), (a_s_behind, eI X 60 s_behind), (a_s_ends, eZ X 60 s_ends), (a_s_settings, eI X 6 s_settings), (a_s_shares, eI X 8 s_shares)] H := hP
          have hD : va_D A [(a_s, .inr (3, [.int (iI s_count), .ref a_s_letters, .ref a_s_lengths, .ref a_s_bodies, .ref a_s_ahead, .ref a_s_behind, .ref a_s_ends, .ref a_s_settings, .ref a_s_shares])), (a_s_letters, eI X 720 (cpyI s_letters s_letters (p1 * 12).toNat (p2 * 12).toNat (p3 * 12).toNat)), (a_s_lengths, eI X 60 (cpyI s_lengths s_lengths (p1).toNat (p2).toNat (p3).toNat)), (a_s_bodies, eI X 60 (cpyI s_bodies s_bodies (p1).toNat (p2).toNat (p3).toNat)), (a_s_ahead, eI X 60 (cpyI s_ahead s_ahead (p1).toNat (p2).toNat (p3).toNat)), (a_s_behind, eI X 60 s_behind), (a_s_ends, eZ X 60 s_ends), (a_s_settings, eI X 6 s_settings), (a_s_shares, eI X 8 s_shares)] := hD
          have h := h.2.2.2.2.2
          refine lv_aload_n hx hb dX3_move_90 rfl (lv_at hl 0 rfl) ?_
          refine va_get (D := X.1) (ci := 3) (C := RX3) (T := TX3) (N := 9) hx hb hts hi_X3 hown hK hP 0 rfl rfl 5 (by decide) hf_24 (fun _ h9 => h9) rfl dX3_move_91 ?_
          refine lv_iload_n hx hb dX3_move_94 rfl (lv_at hl 1 rfl) ?_
          refine lv_aload_n hx hb dX3_move_95 rfl (lv_at hl 0 rfl) ?_
          refine va_get (D := X.1) (ci := 3) (C := RX3) (T := TX3) (N := 9) hx hb hts hi_X3 hown hK hP 0 rfl rfl 5 (by decide) hf_24 (fun _ h9 => h9) rfl dX3_move_96 ?_
          refine lv_iload_n hx hb dX3_move_99 rfl (lv_at hl 2 rfl) ?_
          refine lv_iload_n hx hb dX3_move_100 rfl (lv_at hl 3 rfl) ?_
          refine i_cpyI hx hb (hml.trans hl.1.symm) hown (hts (.methodLink RX3 56 arraycopyName) (by decide +kernel)) (hts (.native arraycopyName) (by decide +kernel)) (hts (.static arraycopyName) (by decide +kernel)) (hts (.initialized "java/lang/System") (by decide +kernel)) hK hP hD hS 5 5 0 rfl rfl rfl h.1 h.2.1 h.2.2.1 h.2.2.2.1 h.2.2.2.2.1 rfl rfl (Nat.le_of_ble_eq_true rfl) (Nat.le_of_ble_eq_true rfl) (Nat.le_of_ble_eq_true rfl) (by decide +kernel) dX3_move_101 (fun H locs hP hD hS => ?_)
          have hP : va_P X.1 vwCl [(a_s, .inr (3, [.int (iI s_count), .ref a_s_letters, .ref a_s_lengths, .ref a_s_bodies, .ref a_s_ahead, .ref a_s_behind, .ref a_s_ends, .ref a_s_settings, .ref a_s_shares])), (a_s_letters, eI X 720 (cpyI s_letters s_letters (p1 * 12).toNat (p2 * 12).toNat (p3 * 12).toNat)), (a_s_lengths, eI X 60 (cpyI s_lengths s_lengths (p1).toNat (p2).toNat (p3).toNat)), (a_s_bodies, eI X 60 (cpyI s_bodies s_bodies (p1).toNat (p2).toNat (p3).toNat)), (a_s_ahead, eI X 60 (cpyI s_ahead s_ahead (p1).toNat (p2).toNat (p3).toNat)), (a_s_behind, eI X 60 (cpyI s_behind s_behind (p1).toNat (p2).toNat (p3).toNat)), (a_s_ends, eZ X 60 s_ends), (a_s_settings, eI X 6 s_settings), (a_s_shares, eI X 8 s_shares)] H := hP
          have hD : va_D A [(a_s, .inr (3, [.int (iI s_count), .ref a_s_letters, .ref a_s_lengths, .ref a_s_bodies, .ref a_s_ahead, .ref a_s_behind, .ref a_s_ends, .ref a_s_settings, .ref a_s_shares])), (a_s_letters, eI X 720 (cpyI s_letters s_letters (p1 * 12).toNat (p2 * 12).toNat (p3 * 12).toNat)), (a_s_lengths, eI X 60 (cpyI s_lengths s_lengths (p1).toNat (p2).toNat (p3).toNat)), (a_s_bodies, eI X 60 (cpyI s_bodies s_bodies (p1).toNat (p2).toNat (p3).toNat)), (a_s_ahead, eI X 60 (cpyI s_ahead s_ahead (p1).toNat (p2).toNat (p3).toNat)), (a_s_behind, eI X 60 (cpyI s_behind s_behind (p1).toNat (p2).toNat (p3).toNat)), (a_s_ends, eZ X 60 s_ends), (a_s_settings, eI X 6 s_settings), (a_s_shares, eI X 8 s_shares)] := hD
          have h := h.2.2.2.2.2
          refine lv_aload_n hx hb dX3_move_104 rfl (lv_at hl 0 rfl) ?_
          refine va_get (D := X.1) (ci := 3) (C := RX3) (T := TX3) (N := 9) hx hb hts hi_X3 hown hK hP 0 rfl rfl 6 (by decide) hf_27 (fun _ h9 => h9) rfl dX3_move_105 ?_
          refine lv_iload_n hx hb dX3_move_108 rfl (lv_at hl 1 rfl) ?_
          refine lv_aload_n hx hb dX3_move_109 rfl (lv_at hl 0 rfl) ?_
          refine va_get (D := X.1) (ci := 3) (C := RX3) (T := TX3) (N := 9) hx hb hts hi_X3 hown hK hP 0 rfl rfl 6 (by decide) hf_27 (fun _ h9 => h9) rfl dX3_move_110 ?_
          refine lv_iload_n hx hb dX3_move_113 rfl (lv_at hl 2 rfl) ?_
          refine lv_iload_n hx hb dX3_move_114 rfl (lv_at hl 3 rfl) ?_
          refine i_cpyZ hx hb (hml.trans hl.1.symm) hown (hts (.methodLink RX3 56 arraycopyName) (by decide +kernel)) (hts (.native arraycopyName) (by decide +kernel)) (hts (.static arraycopyName) (by decide +kernel)) (hts (.initialized "java/lang/System") (by decide +kernel)) hK hP hD hS 6 6 1 rfl rfl rfl h.1 h.2.1 h.2.2.1 h.2.2.2.1 h.2.2.2.2.1 rfl rfl h.2.2.2.2.2.1 (Nat.le_of_ble_eq_true rfl) (Nat.le_of_ble_eq_true rfl) (Nat.le_of_ble_eq_true rfl) (by decide +kernel) dX3_move_115 (fun H locs hP hD hS => ?_)
          have hP : va_P X.1 vwCl [(a_s, .inr (3, [.int (iI s_count), .ref a_s_letters, .ref a_s_lengths, .ref a_s_bodies, .ref a_s_ahead, .ref a_s_behind, .ref a_s_ends, .ref a_s_settings, .ref a_s_shares])), (a_s_letters, eI X 720 (cpyI s_letters s_letters (p1 * 12).toNat (p2 * 12).toNat (p3 * 12).toNat)), (a_s_lengths, eI X 60 (cpyI s_lengths s_lengths (p1).toNat (p2).toNat (p3).toNat)), (a_s_bodies, eI X 60 (cpyI s_bodies s_bodies (p1).toNat (p2).toNat (p3).toNat)), (a_s_ahead, eI X 60 (cpyI s_ahead s_ahead (p1).toNat (p2).toNat (p3).toNat)), (a_s_behind, eI X 60 (cpyI s_behind s_behind (p1).toNat (p2).toNat (p3).toNat)), (a_s_ends, eZ X 60 (cpyI s_ends s_ends (p1).toNat (p2).toNat (p3).toNat)), (a_s_settings, eI X 6 s_settings), (a_s_shares, eI X 8 s_shares)] H := hP
          have hD : va_D A [(a_s, .inr (3, [.int (iI s_count), .ref a_s_letters, .ref a_s_lengths, .ref a_s_bodies, .ref a_s_ahead, .ref a_s_behind, .ref a_s_ends, .ref a_s_settings, .ref a_s_shares])), (a_s_letters, eI X 720 (cpyI s_letters s_letters (p1 * 12).toNat (p2 * 12).toNat (p3 * 12).toNat)), (a_s_lengths, eI X 60 (cpyI s_lengths s_lengths (p1).toNat (p2).toNat (p3).toNat)), (a_s_bodies, eI X 60 (cpyI s_bodies s_bodies (p1).toNat (p2).toNat (p3).toNat)), (a_s_ahead, eI X 60 (cpyI s_ahead s_ahead (p1).toNat (p2).toNat (p3).toNat)), (a_s_behind, eI X 60 (cpyI s_behind s_behind (p1).toNat (p2).toNat (p3).toNat)), (a_s_ends, eZ X 60 (cpyI s_ends s_ends (p1).toNat (p2).toNat (p3).toNat)), (a_s_settings, eI X 6 s_settings), (a_s_shares, eI X 8 s_shares)] := hD
          have h := h.2.2.2.2.2.2
          exact hend _ _ _ _ _ _ ((cpyI s_letters s_letters (p1 * 12).toNat (p2 * 12).toNat (p3 * 12).toNat), (cpyI s_lengths s_lengths (p1).toNat (p2).toNat (p3).toNat), (cpyI s_bodies s_bodies (p1).toNat (p2).toNat (p3).toNat), (cpyI s_ahead s_ahead (p1).toNat (p2).toNat (p3).toNat), (cpyI s_behind s_behind (p1).toNat (p2).toNat (p3).toNat), (cpyI s_ends s_ends (p1).toNat (p2).toNat (p3).toNat)) hP hD hS h (Nat.le_of_ble_eq_true rfl) (Nat.le_of_ble_eq_true rfl) dX3_move_118
        · have h := h.2.2 c4
          exact hend _ _ _ _ _ _ (s_letters, s_lengths, s_bodies, s_ahead, s_behind, s_ends) hP hD hS h (Nat.le_of_ble_eq_true rfl) (Nat.le_of_ble_eq_true rfl) dX3_move_24
abbrev rmX3_open : Room := { frames := 2, cells := 0, slots := 0, locals := 63 }
set_option maxHeartbeats 4000000 in
set_option maxRecDepth 100000 in
theorem kX3_open (l : Launch) (X : XD) (a_s a_s_letters a_s_lengths a_s_bodies a_s_ahead a_s_behind a_s_ends a_s_settings a_s_shares : Nat) (s_count : Int) (s_letters : Nat → Int) (s_lengths : Nat → Int) (s_bodies : Nat → Int) (s_ahead : Nat → Int) (s_behind : Nat → Int) (s_ends : Nat → Int) (s_settings : Nat → Int) (s_shares : Nat → Int) (p1 : Int) (post : Int → (Nat → Int) → (Nat → Int) → (Nat → Int) → (Nat → Int) → (Nat → Int) → (Nat → Int) → Prop) (h : wpX3_open s_count s_letters s_lengths s_bodies s_ahead s_behind s_ends p1 post) : MCv l yX3_open wsX3_open rmX3_open X [.ref a_s, .int (iI p1)] [(a_s, .inr (3, [.int (iI s_count), .ref a_s_letters, .ref a_s_lengths, .ref a_s_bodies, .ref a_s_ahead, .ref a_s_behind, .ref a_s_ends, .ref a_s_settings, .ref a_s_shares])), (a_s_letters, eI X 720 s_letters), (a_s_lengths, eI X 60 s_lengths), (a_s_bodies, eI X 60 s_bodies), (a_s_ahead, eI X 60 s_ahead), (a_s_behind, eI X 60 s_behind), (a_s_ends, eZ X 60 s_ends), (a_s_settings, eI X 6 s_settings), (a_s_shares, eI X 8 s_shares)] (S := Int × (Nat → Int) × (Nat → Int) × (Nat → Int) × (Nat → Int) × (Nat → Int) × (Nat → Int)) (fun u => [(a_s, .inr (3, [.int (iI u.1), .ref a_s_letters, .ref a_s_lengths, .ref a_s_bodies, .ref a_s_ahead, .ref a_s_behind, .ref a_s_ends, .ref a_s_settings, .ref a_s_shares])), (a_s_letters, eI X 720 u.2.1), (a_s_lengths, eI X 60 u.2.2.1), (a_s_bodies, eI X 60 u.2.2.2.1), (a_s_ahead, eI X 60 u.2.2.2.2.1), (a_s_behind, eI X 60 u.2.2.2.2.2.1), (a_s_ends, eZ X 60 u.2.2.2.2.2.2), (a_s_settings, eI X 6 s_settings), (a_s_shares, eI X 8 s_shares)]) (fun u => post u.1 u.2.1 u.2.2.1 u.2.2.2.1 u.2.2.2.2.1 u.2.2.2.2.2.1 u.2.2.2.2.2.2) 0 0 := by
  refine MCv.of (cc := cX3_open) (maxL := 2) (by decide +kernel) rfl rfl ?_
  intro p e s m args below meth c A ls Q hE0 hP hD hS hl hend
  obtain ⟨hx, hb, hr, hml, hlocks, hown, hts, hK, hE, hA, hnm⟩ := hE0
  have hl : lv_has ls 2 [(0, .ref a_s), (1, .int (iI p1))] := hl
  have hi_X3 : ∀ w ∈ wsX30, w ∈ wsX3_open := by decide +kernel
  have hf_15 := hts (.fieldLink RX3 15 "LentMargins$Script" "lengths" "[I") (by decide +kernel)
  have hf_18 := hts (.fieldLink RX3 18 "LentMargins$Script" "bodies" "[I") (by decide +kernel)
  have hf_21 := hts (.fieldLink RX3 21 "LentMargins$Script" "ahead" "[I") (by decide +kernel)
  have hf_24 := hts (.fieldLink RX3 24 "LentMargins$Script" "behind" "[I") (by decide +kernel)
  have hf_27 := hts (.fieldLink RX3 27 "LentMargins$Script" "ends" "[Z") (by decide +kernel)
  have hf_48 := hts (.fieldLink RX3 48 "LentMargins$Script" "count" "I") (by decide +kernel)
  refine lv_iload_n hx hb dX3_open_0 rfl (lv_at hl 1 rfl) ?_
  refine i_if_lt (tgt := 21) hx hb h.1 dX3_open_1 (by decide) (fun c1 => ?_) (fun c1 => ?_)
  · have h := h.2.1 c1
    exact hend _ _ _ _ _ _ (s_count, s_letters, s_lengths, s_bodies, s_ahead, s_behind, s_ends) hP hD hS h (Nat.le_of_ble_eq_true rfl) (Nat.le_of_ble_eq_true rfl) dX3_open_21
  · have h := h.2.2 c1
    refine lv_iload_n hx hb dX3_open_4 rfl (lv_at hl 1 rfl) ?_
    refine lv_aload_n hx hb dX3_open_5 rfl (lv_at hl 0 rfl) ?_
    refine va_get (D := X.1) (ci := 3) (C := RX3) (T := TX3) (N := 9) hx hb hts hi_X3 hown hK hP 0 rfl rfl 0 (by decide) hf_48 (fun _ h9 => h9) rfl dX3_open_6 ?_
    refine i_cmp_gt (tgt := 21) hx hb h.1 h.2.1 dX3_open_9 (by decide) (fun c2 => ?_) (fun c2 => ?_)
    · have h := h.2.2.1 c2
      exact hend _ _ _ _ _ _ (s_count, s_letters, s_lengths, s_bodies, s_ahead, s_behind, s_ends) hP hD hS h (Nat.le_of_ble_eq_true rfl) (Nat.le_of_ble_eq_true rfl) dX3_open_21
    · have h := h.2.2.2 c2
      refine lv_aload_n hx hb dX3_open_12 rfl (lv_at hl 0 rfl) ?_
      refine va_get (D := X.1) (ci := 3) (C := RX3) (T := TX3) (N := 9) hx hb hts hi_X3 hown hK hP 0 rfl rfl 0 (by decide) hf_48 (fun _ h9 => h9) rfl dX3_open_13 ?_
      refine lv_bipush (v := iI 60) hx hb dX3_open_16 (by decide +kernel) ?_
      refine i_cmp_lt (tgt := 22) hx hb h.1 (inR_lit rfl) dX3_open_18 (by decide) (fun c3 => ?_) (fun c3 => ?_)
      · have h := h.2.1 c3
        refine lv_aload_n hx hb dX3_open_22 rfl (lv_at hl 0 rfl) ?_
        refine lv_iload_n hx hb dX3_open_23 rfl (lv_at hl 1 rfl) ?_
        refine lv_iload_n hx hb dX3_open_24 rfl (lv_at hl 1 rfl) ?_
        refine lv_iconst (v := iI 1) hx hb dX3_open_25 rfl ?_
        refine i_add hx hb dX3_open_26 ?_
        refine lv_aload_n hx hb dX3_open_27 rfl (lv_at hl 0 rfl) ?_
        refine va_get (D := X.1) (ci := 3) (C := RX3) (T := TX3) (N := 9) hx hb hts hi_X3 hown hK hP 0 rfl rfl 0 (by decide) hf_48 (fun _ h9 => h9) rfl dX3_open_28 ?_
        refine lv_iload_n hx hb dX3_open_31 rfl (lv_at hl 1 rfl) ?_
        refine i_sub hx hb dX3_open_32 ?_
        refine k_v (isC := [0, 1, 2, 3, 4, 5, 6, 7, 8]) (isR := []) (va_runV (As := [.int (iI p1), .int (iI (p1 + 1)), .int (iI (s_count - p1))]) (rest := []) ⟨hx, hb, hml, hown, hts⟩ (kX3_move l X a_s a_s_letters a_s_lengths a_s_bodies a_s_ahead a_s_behind a_s_ends a_s_settings a_s_shares s_count s_letters s_lengths s_bodies s_ahead s_behind s_ends s_settings s_shares p1 (p1 + 1) (s_count - p1) _ h _) (cwV 3 hts gX3_open_X3_move rfl rfl rfl (by decide +kernel) ⟨(Nat.le_of_ble_eq_true rfl), (Nat.le_of_ble_eq_true rfl)⟩) ⟨pre_blind, va_recv hK hP (ci := 3) (q0 := 0) rfl rfl, pre_cut hE hK hA hP hD hS (isC := [0, 1, 2, 3, 4, 5, 6, 7, 8]) rfl rfl⟩ rfl rfl hl.1 rfl (lv_room (Nat.le_of_ble_eq_true rfl)) dX3_open_33 ⟨(Nat.le_of_ble_eq_true rfl), (Nat.le_of_ble_eq_true rfl)⟩) hA hP hD hS rfl rfl rfl (by decide +kernel) (fun u4 H locs h hP hD hS => ?_)
        obtain ⟨s_letters_4, s_lengths_4, s_bodies_4, s_ahead_4, s_behind_4, s_ends_4⟩ := u4
        have hP := hP.sub (ws' := [(a_s, .inr (3, [.int (iI s_count), .ref a_s_letters, .ref a_s_lengths, .ref a_s_bodies, .ref a_s_ahead, .ref a_s_behind, .ref a_s_ends, .ref a_s_settings, .ref a_s_shares])), (a_s_letters, eI X 720 s_letters_4), (a_s_lengths, eI X 60 s_lengths_4), (a_s_bodies, eI X 60 s_bodies_4), (a_s_ahead, eI X 60 s_ahead_4), (a_s_behind, eI X 60 s_behind_4), (a_s_ends, eZ X 60 s_ends_4), (a_s_settings, eI X 6 s_settings), (a_s_shares, eI X 8 s_shares)]) [0, 1, 2, 3, 4, 5, 6, 7, 8] rfl
        have hD := hD.sub (ws' := [(a_s, .inr (3, [.int (iI s_count), .ref a_s_letters, .ref a_s_lengths, .ref a_s_bodies, .ref a_s_ahead, .ref a_s_behind, .ref a_s_ends, .ref a_s_settings, .ref a_s_shares])), (a_s_letters, eI X 720 s_letters_4), (a_s_lengths, eI X 60 s_lengths_4), (a_s_bodies, eI X 60 s_bodies_4), (a_s_ahead, eI X 60 s_ahead_4), (a_s_behind, eI X 60 s_behind_4), (a_s_ends, eZ X 60 s_ends_4), (a_s_settings, eI X 6 s_settings), (a_s_shares, eI X 8 s_shares)]) [0, 1, 2, 3, 4, 5, 6, 7, 8] (by decide +kernel) rfl
        refine lv_aload_n hx hb dX3_open_36 rfl (lv_at hl 0 rfl) ?_
        refine lv_dup hx hb dX3_open_37 rfl ?_
        refine va_get (D := X.1) (ci := 3) (C := RX3) (T := TX3) (N := 9) hx hb hts hi_X3 hown hK hP 0 rfl rfl 0 (by decide) hf_48 (fun _ h9 => h9) rfl dX3_open_38 ?_
        refine lv_iconst (v := iI 1) hx hb dX3_open_41 rfl ?_
        refine i_add hx hb dX3_open_42 ?_
        refine va_put (D := X.1) (ci := 3) (v := .int (iI (s_count + 1))) (ty := .int) (C := RX3) (T := TX3) (N := 9) hx hb hts hi_X3 tyX3 tyX3_ok nmX3 hown hK hP hD hS 0 rfl rfl 0 (by decide) hf_48 (fun _ h9 => h9) rfl (by decide +kernel) rfl rfl (Nat.le_of_ble_eq_true rfl) dX3_open_43 (fun H locs hP hD hS => ?_)
        have hP : va_P X.1 vwCl [(a_s, .inr (3, [.int (iI (s_count + 1)), .ref a_s_letters, .ref a_s_lengths, .ref a_s_bodies, .ref a_s_ahead, .ref a_s_behind, .ref a_s_ends, .ref a_s_settings, .ref a_s_shares])), (a_s_letters, eI X 720 s_letters_4), (a_s_lengths, eI X 60 s_lengths_4), (a_s_bodies, eI X 60 s_bodies_4), (a_s_ahead, eI X 60 s_ahead_4), (a_s_behind, eI X 60 s_behind_4), (a_s_ends, eZ X 60 s_ends_4), (a_s_settings, eI X 6 s_settings), (a_s_shares, eI X 8 s_shares)] H := hP
        have hD : va_D A [(a_s, .inr (3, [.int (iI (s_count + 1)), .ref a_s_letters, .ref a_s_lengths, .ref a_s_bodies, .ref a_s_ahead, .ref a_s_behind, .ref a_s_ends, .ref a_s_settings, .ref a_s_shares])), (a_s_letters, eI X 720 s_letters_4), (a_s_lengths, eI X 60 s_lengths_4), (a_s_bodies, eI X 60 s_bodies_4), (a_s_ahead, eI X 60 s_ahead_4), (a_s_behind, eI X 60 s_behind_4), (a_s_ends, eZ X 60 s_ends_4), (a_s_settings, eI X 6 s_settings), (a_s_shares, eI X 8 s_shares)] := hD
        refine lv_aload_n hx hb dX3_open_46 rfl (lv_at hl 0 rfl) ?_
        refine va_get (D := X.1) (ci := 3) (C := RX3) (T := TX3) (N := 9) hx hb hts hi_X3 hown hK hP 0 rfl rfl 2 (by decide) hf_15 (fun _ h9 => h9) rfl dX3_open_47 ?_
        refine lv_iload_n hx hb dX3_open_50 rfl (lv_at hl 1 rfl) ?_
        refine lv_iconst (v := iI 0) hx hb dX3_open_51 rfl ?_
        refine i_ast hx hb hK hP hD hS 2 0 rfl rfl h.1 h.2.1 rfl (Nat.le_of_ble_eq_true rfl) dX3_open_52 (fun H locs hP hD hS => ?_)
        have hP : va_P X.1 vwCl [(a_s, .inr (3, [.int (iI (s_count + 1)), .ref a_s_letters, .ref a_s_lengths, .ref a_s_bodies, .ref a_s_ahead, .ref a_s_behind, .ref a_s_ends, .ref a_s_settings, .ref a_s_shares])), (a_s_letters, eI X 720 s_letters_4), (a_s_lengths, eI X 60 (updI s_lengths_4 (p1).toNat 0)), (a_s_bodies, eI X 60 s_bodies_4), (a_s_ahead, eI X 60 s_ahead_4), (a_s_behind, eI X 60 s_behind_4), (a_s_ends, eZ X 60 s_ends_4), (a_s_settings, eI X 6 s_settings), (a_s_shares, eI X 8 s_shares)] H := hP
        have hD : va_D A [(a_s, .inr (3, [.int (iI (s_count + 1)), .ref a_s_letters, .ref a_s_lengths, .ref a_s_bodies, .ref a_s_ahead, .ref a_s_behind, .ref a_s_ends, .ref a_s_settings, .ref a_s_shares])), (a_s_letters, eI X 720 s_letters_4), (a_s_lengths, eI X 60 (updI s_lengths_4 (p1).toNat 0)), (a_s_bodies, eI X 60 s_bodies_4), (a_s_ahead, eI X 60 s_ahead_4), (a_s_behind, eI X 60 s_behind_4), (a_s_ends, eZ X 60 s_ends_4), (a_s_settings, eI X 6 s_settings), (a_s_shares, eI X 8 s_shares)] := hD
        have h := h.2.2
        refine lv_aload_n hx hb dX3_open_53 rfl (lv_at hl 0 rfl) ?_
        refine va_get (D := X.1) (ci := 3) (C := RX3) (T := TX3) (N := 9) hx hb hts hi_X3 hown hK hP 0 rfl rfl 3 (by decide) hf_18 (fun _ h9 => h9) rfl dX3_open_54 ?_
        refine lv_iload_n hx hb dX3_open_57 rfl (lv_at hl 1 rfl) ?_
        refine lv_iconst (v := iI 0) hx hb dX3_open_58 rfl ?_
        refine i_ast hx hb hK hP hD hS 3 0 rfl rfl h.1 h.2.1 rfl (Nat.le_of_ble_eq_true rfl) dX3_open_59 (fun H locs hP hD hS => ?_)
        have hP : va_P X.1 vwCl [(a_s, .inr (3, [.int (iI (s_count + 1)), .ref a_s_letters, .ref a_s_lengths, .ref a_s_bodies, .ref a_s_ahead, .ref a_s_behind, .ref a_s_ends, .ref a_s_settings, .ref a_s_shares])), (a_s_letters, eI X 720 s_letters_4), (a_s_lengths, eI X 60 (updI s_lengths_4 (p1).toNat 0)), (a_s_bodies, eI X 60 (updI s_bodies_4 (p1).toNat 0)), (a_s_ahead, eI X 60 s_ahead_4), (a_s_behind, eI X 60 s_behind_4), (a_s_ends, eZ X 60 s_ends_4), (a_s_settings, eI X 6 s_settings), (a_s_shares, eI X 8 s_shares)] H := hP
        have hD : va_D A [(a_s, .inr (3, [.int (iI (s_count + 1)), .ref a_s_letters, .ref a_s_lengths, .ref a_s_bodies, .ref a_s_ahead, .ref a_s_behind, .ref a_s_ends, .ref a_s_settings, .ref a_s_shares])), (a_s_letters, eI X 720 s_letters_4), (a_s_lengths, eI X 60 (updI s_lengths_4 (p1).toNat 0)), (a_s_bodies, eI X 60 (updI s_bodies_4 (p1).toNat 0)), (a_s_ahead, eI X 60 s_ahead_4), (a_s_behind, eI X 60 s_behind_4), (a_s_ends, eZ X 60 s_ends_4), (a_s_settings, eI X 6 s_settings), (a_s_shares, eI X 8 s_shares)] := hD
        have h := h.2.2
        refine lv_aload_n hx hb dX3_open_60 rfl (lv_at hl 0 rfl) ?_
        refine va_get (D := X.1) (ci := 3) (C := RX3) (T := TX3) (N := 9) hx hb hts hi_X3 hown hK hP 0 rfl rfl 4 (by decide) hf_21 (fun _ h9 => h9) rfl dX3_open_61 ?_
        refine lv_iload_n hx hb dX3_open_64 rfl (lv_at hl 1 rfl) ?_
        refine lv_iconst (v := iI (-1)) hx hb dX3_open_65 rfl ?_
        refine i_ast hx hb hK hP hD hS 4 0 rfl rfl h.1 h.2.1 rfl (Nat.le_of_ble_eq_true rfl) dX3_open_66 (fun H locs hP hD hS => ?_)
        have hP : va_P X.1 vwCl [(a_s, .inr (3, [.int (iI (s_count + 1)), .ref a_s_letters, .ref a_s_lengths, .ref a_s_bodies, .ref a_s_ahead, .ref a_s_behind, .ref a_s_ends, .ref a_s_settings, .ref a_s_shares])), (a_s_letters, eI X 720 s_letters_4), (a_s_lengths, eI X 60 (updI s_lengths_4 (p1).toNat 0)), (a_s_bodies, eI X 60 (updI s_bodies_4 (p1).toNat 0)), (a_s_ahead, eI X 60 (updI s_ahead_4 (p1).toNat (-1))), (a_s_behind, eI X 60 s_behind_4), (a_s_ends, eZ X 60 s_ends_4), (a_s_settings, eI X 6 s_settings), (a_s_shares, eI X 8 s_shares)] H := hP
        have hD : va_D A [(a_s, .inr (3, [.int (iI (s_count + 1)), .ref a_s_letters, .ref a_s_lengths, .ref a_s_bodies, .ref a_s_ahead, .ref a_s_behind, .ref a_s_ends, .ref a_s_settings, .ref a_s_shares])), (a_s_letters, eI X 720 s_letters_4), (a_s_lengths, eI X 60 (updI s_lengths_4 (p1).toNat 0)), (a_s_bodies, eI X 60 (updI s_bodies_4 (p1).toNat 0)), (a_s_ahead, eI X 60 (updI s_ahead_4 (p1).toNat (-1))), (a_s_behind, eI X 60 s_behind_4), (a_s_ends, eZ X 60 s_ends_4), (a_s_settings, eI X 6 s_settings), (a_s_shares, eI X 8 s_shares)] := hD
        have h := h.2.2
        refine lv_aload_n hx hb dX3_open_67 rfl (lv_at hl 0 rfl) ?_
        refine va_get (D := X.1) (ci := 3) (C := RX3) (T := TX3) (N := 9) hx hb hts hi_X3 hown hK hP 0 rfl rfl 5 (by decide) hf_24 (fun _ h9 => h9) rfl dX3_open_68 ?_
        refine lv_iload_n hx hb dX3_open_71 rfl (lv_at hl 1 rfl) ?_
        refine lv_iconst (v := iI (-1)) hx hb dX3_open_72 rfl ?_
        refine i_ast hx hb hK hP hD hS 5 0 rfl rfl h.1 h.2.1 rfl (Nat.le_of_ble_eq_true rfl) dX3_open_73 (fun H locs hP hD hS => ?_)
        have hP : va_P X.1 vwCl [(a_s, .inr (3, [.int (iI (s_count + 1)), .ref a_s_letters, .ref a_s_lengths, .ref a_s_bodies, .ref a_s_ahead, .ref a_s_behind, .ref a_s_ends, .ref a_s_settings, .ref a_s_shares])), (a_s_letters, eI X 720 s_letters_4), (a_s_lengths, eI X 60 (updI s_lengths_4 (p1).toNat 0)), (a_s_bodies, eI X 60 (updI s_bodies_4 (p1).toNat 0)), (a_s_ahead, eI X 60 (updI s_ahead_4 (p1).toNat (-1))), (a_s_behind, eI X 60 (updI s_behind_4 (p1).toNat (-1))), (a_s_ends, eZ X 60 s_ends_4), (a_s_settings, eI X 6 s_settings), (a_s_shares, eI X 8 s_shares)] H := hP
        have hD : va_D A [(a_s, .inr (3, [.int (iI (s_count + 1)), .ref a_s_letters, .ref a_s_lengths, .ref a_s_bodies, .ref a_s_ahead, .ref a_s_behind, .ref a_s_ends, .ref a_s_settings, .ref a_s_shares])), (a_s_letters, eI X 720 s_letters_4), (a_s_lengths, eI X 60 (updI s_lengths_4 (p1).toNat 0)), (a_s_bodies, eI X 60 (updI s_bodies_4 (p1).toNat 0)), (a_s_ahead, eI X 60 (updI s_ahead_4 (p1).toNat (-1))), (a_s_behind, eI X 60 (updI s_behind_4 (p1).toNat (-1))), (a_s_ends, eZ X 60 s_ends_4), (a_s_settings, eI X 6 s_settings), (a_s_shares, eI X 8 s_shares)] := hD
        have h := h.2.2
        refine lv_aload_n hx hb dX3_open_74 rfl (lv_at hl 0 rfl) ?_
        refine va_get (D := X.1) (ci := 3) (C := RX3) (T := TX3) (N := 9) hx hb hts hi_X3 hown hK hP 0 rfl rfl 6 (by decide) hf_27 (fun _ h9 => h9) rfl dX3_open_75 ?_
        refine lv_iload_n hx hb dX3_open_78 rfl (lv_at hl 1 rfl) ?_
        refine lv_iconst (v := iI 0) hx hb dX3_open_79 rfl ?_
        refine i_zst hx hb hK hP hD hS 6 1 rfl rfl h.1 h.2.1 rfl (by decide) (Nat.le_of_ble_eq_true rfl) dX3_open_80 (fun H locs hP hD hS => ?_)
        have hP : va_P X.1 vwCl [(a_s, .inr (3, [.int (iI (s_count + 1)), .ref a_s_letters, .ref a_s_lengths, .ref a_s_bodies, .ref a_s_ahead, .ref a_s_behind, .ref a_s_ends, .ref a_s_settings, .ref a_s_shares])), (a_s_letters, eI X 720 s_letters_4), (a_s_lengths, eI X 60 (updI s_lengths_4 (p1).toNat 0)), (a_s_bodies, eI X 60 (updI s_bodies_4 (p1).toNat 0)), (a_s_ahead, eI X 60 (updI s_ahead_4 (p1).toNat (-1))), (a_s_behind, eI X 60 (updI s_behind_4 (p1).toNat (-1))), (a_s_ends, eZ X 60 (updI s_ends_4 (p1).toNat 0)), (a_s_settings, eI X 6 s_settings), (a_s_shares, eI X 8 s_shares)] H := hP
        have hD : va_D A [(a_s, .inr (3, [.int (iI (s_count + 1)), .ref a_s_letters, .ref a_s_lengths, .ref a_s_bodies, .ref a_s_ahead, .ref a_s_behind, .ref a_s_ends, .ref a_s_settings, .ref a_s_shares])), (a_s_letters, eI X 720 s_letters_4), (a_s_lengths, eI X 60 (updI s_lengths_4 (p1).toNat 0)), (a_s_bodies, eI X 60 (updI s_bodies_4 (p1).toNat 0)), (a_s_ahead, eI X 60 (updI s_ahead_4 (p1).toNat (-1))), (a_s_behind, eI X 60 (updI s_behind_4 (p1).toNat (-1))), (a_s_ends, eZ X 60 (updI s_ends_4 (p1).toNat 0)), (a_s_settings, eI X 6 s_settings), (a_s_shares, eI X 8 s_shares)] := hD
        have h := h.2.2
        exact hend _ _ _ _ _ _ ((s_count + 1), s_letters_4, (updI s_lengths_4 (p1).toNat 0), (updI s_bodies_4 (p1).toNat 0), (updI s_ahead_4 (p1).toNat (-1)), (updI s_behind_4 (p1).toNat (-1)), (updI s_ends_4 (p1).toNat 0)) hP hD hS h (Nat.le_of_ble_eq_true rfl) (Nat.le_of_ble_eq_true rfl) dX3_open_81
      · have h := h.2.2 c3
        exact hend _ _ _ _ _ _ (s_count, s_letters, s_lengths, s_bodies, s_ahead, s_behind, s_ends) hP hD hS h (Nat.le_of_ble_eq_true rfl) (Nat.le_of_ble_eq_true rfl) dX3_open_21
abbrev rmX3_close : Room := { frames := 2, cells := 0, slots := 0, locals := 63 }
set_option maxHeartbeats 4000000 in
set_option maxRecDepth 100000 in
theorem kX3_close (l : Launch) (X : XD) (a_s a_s_letters a_s_lengths a_s_bodies a_s_ahead a_s_behind a_s_ends a_s_settings a_s_shares : Nat) (s_count : Int) (s_letters : Nat → Int) (s_lengths : Nat → Int) (s_bodies : Nat → Int) (s_ahead : Nat → Int) (s_behind : Nat → Int) (s_ends : Nat → Int) (s_settings : Nat → Int) (s_shares : Nat → Int) (p1 : Int) (post : Int → (Nat → Int) → (Nat → Int) → (Nat → Int) → (Nat → Int) → (Nat → Int) → (Nat → Int) → Prop) (h : wpX3_close s_count s_letters s_lengths s_bodies s_ahead s_behind s_ends p1 post) : MCv l yX3_close wsX3_close rmX3_close X [.ref a_s, .int (iI p1)] [(a_s, .inr (3, [.int (iI s_count), .ref a_s_letters, .ref a_s_lengths, .ref a_s_bodies, .ref a_s_ahead, .ref a_s_behind, .ref a_s_ends, .ref a_s_settings, .ref a_s_shares])), (a_s_letters, eI X 720 s_letters), (a_s_lengths, eI X 60 s_lengths), (a_s_bodies, eI X 60 s_bodies), (a_s_ahead, eI X 60 s_ahead), (a_s_behind, eI X 60 s_behind), (a_s_ends, eZ X 60 s_ends), (a_s_settings, eI X 6 s_settings), (a_s_shares, eI X 8 s_shares)] (S := Int × (Nat → Int) × (Nat → Int) × (Nat → Int) × (Nat → Int) × (Nat → Int) × (Nat → Int)) (fun u => [(a_s, .inr (3, [.int (iI u.1), .ref a_s_letters, .ref a_s_lengths, .ref a_s_bodies, .ref a_s_ahead, .ref a_s_behind, .ref a_s_ends, .ref a_s_settings, .ref a_s_shares])), (a_s_letters, eI X 720 u.2.1), (a_s_lengths, eI X 60 u.2.2.1), (a_s_bodies, eI X 60 u.2.2.2.1), (a_s_ahead, eI X 60 u.2.2.2.2.1), (a_s_behind, eI X 60 u.2.2.2.2.2.1), (a_s_ends, eZ X 60 u.2.2.2.2.2.2), (a_s_settings, eI X 6 s_settings), (a_s_shares, eI X 8 s_shares)]) (fun u => post u.1 u.2.1 u.2.2.1 u.2.2.2.1 u.2.2.2.2.1 u.2.2.2.2.2.1 u.2.2.2.2.2.2) 0 0 := by
  refine MCv.of (cc := cX3_close) (maxL := 2) (by decide +kernel) rfl rfl ?_
  intro p e s m args below meth c A ls Q hE0 hP hD hS hl hend
  obtain ⟨hx, hb, hr, hml, hlocks, hown, hts, hK, hE, hA, hnm⟩ := hE0
  have hl : lv_has ls 2 [(0, .ref a_s), (1, .int (iI p1))] := hl
  have hi_X3 : ∀ w ∈ wsX30, w ∈ wsX3_close := by decide +kernel
  have hf_48 := hts (.fieldLink RX3 48 "LentMargins$Script" "count" "I") (by decide +kernel)
  refine lv_aload_n hx hb dX3_close_0 rfl (lv_at hl 0 rfl) ?_
  refine lv_iload_n hx hb dX3_close_1 rfl (lv_at hl 1 rfl) ?_
  refine k_i (isC := [0, 1, 2, 3, 4, 5, 6, 7, 8]) (isR := []) (va_runV (As := [.int (iI p1)]) (rest := []) ⟨hx, hb, hml, hown, hts⟩ (kX3_has l X a_s a_s_letters a_s_lengths a_s_bodies a_s_ahead a_s_behind a_s_ends a_s_settings a_s_shares s_count s_letters s_lengths s_bodies s_ahead s_behind s_ends s_settings s_shares p1 _ h _) (cwV 1 hts gX3_close_X3_has rfl rfl rfl (by decide +kernel) ⟨(Nat.le_of_ble_eq_true rfl), (Nat.le_of_ble_eq_true rfl)⟩) ⟨pre_blind, va_recv hK hP (ci := 3) (q0 := 0) rfl rfl, pre_cut hE hK hA hP hD hS (isC := [0, 1, 2, 3, 4, 5, 6, 7, 8]) rfl rfl⟩ rfl rfl hl.1 rfl (lv_room (Nat.le_of_ble_eq_true rfl)) dX3_close_2 ⟨(Nat.le_of_ble_eq_true rfl), (Nat.le_of_ble_eq_true rfl)⟩) hA hP hD hS rfl rfl rfl (by decide +kernel) (fun z1 u1 H locs h hP hD hS => ?_)
  have hP := hP.sub (ws' := [(a_s, .inr (3, [.int (iI s_count), .ref a_s_letters, .ref a_s_lengths, .ref a_s_bodies, .ref a_s_ahead, .ref a_s_behind, .ref a_s_ends, .ref a_s_settings, .ref a_s_shares])), (a_s_letters, eI X 720 s_letters), (a_s_lengths, eI X 60 s_lengths), (a_s_bodies, eI X 60 s_bodies), (a_s_ahead, eI X 60 s_ahead), (a_s_behind, eI X 60 s_behind), (a_s_ends, eZ X 60 s_ends), (a_s_settings, eI X 6 s_settings), (a_s_shares, eI X 8 s_shares)]) [0, 1, 2, 3, 4, 5, 6, 7, 8] rfl
  have hD := hD.sub (ws' := [(a_s, .inr (3, [.int (iI s_count), .ref a_s_letters, .ref a_s_lengths, .ref a_s_bodies, .ref a_s_ahead, .ref a_s_behind, .ref a_s_ends, .ref a_s_settings, .ref a_s_shares])), (a_s_letters, eI X 720 s_letters), (a_s_lengths, eI X 60 s_lengths), (a_s_bodies, eI X 60 s_bodies), (a_s_ahead, eI X 60 s_ahead), (a_s_behind, eI X 60 s_behind), (a_s_ends, eZ X 60 s_ends), (a_s_settings, eI X 6 s_settings), (a_s_shares, eI X 8 s_shares)]) [0, 1, 2, 3, 4, 5, 6, 7, 8] (by decide +kernel) rfl
  refine i_if_ne (tgt := 9) hx hb h.1 dX3_close_5 (by decide) (fun c2 => ?_) (fun c2 => ?_)
  · have h := h.2.1 c2
    refine lv_aload_n hx hb dX3_close_9 rfl (lv_at hl 0 rfl) ?_
    refine lv_iload_n hx hb dX3_close_10 rfl (lv_at hl 1 rfl) ?_
    refine lv_iconst (v := iI 1) hx hb dX3_close_11 rfl ?_
    refine i_add hx hb dX3_close_12 ?_
    refine lv_iload_n hx hb dX3_close_13 rfl (lv_at hl 1 rfl) ?_
    refine lv_aload_n hx hb dX3_close_14 rfl (lv_at hl 0 rfl) ?_
    refine va_get (D := X.1) (ci := 3) (C := RX3) (T := TX3) (N := 9) hx hb hts hi_X3 hown hK hP 0 rfl rfl 0 (by decide) hf_48 (fun _ h9 => h9) rfl dX3_close_15 ?_
    refine lv_iload_n hx hb dX3_close_18 rfl (lv_at hl 1 rfl) ?_
    refine i_sub hx hb dX3_close_19 ?_
    refine lv_iconst (v := iI 1) hx hb dX3_close_20 rfl ?_
    refine i_sub hx hb dX3_close_21 ?_
    refine k_v (isC := [0, 1, 2, 3, 4, 5, 6, 7, 8]) (isR := []) (va_runV (As := [.int (iI (p1 + 1)), .int (iI p1), .int (iI ((s_count - p1) - 1))]) (rest := []) ⟨hx, hb, hml, hown, hts⟩ (kX3_move l X a_s a_s_letters a_s_lengths a_s_bodies a_s_ahead a_s_behind a_s_ends a_s_settings a_s_shares s_count s_letters s_lengths s_bodies s_ahead s_behind s_ends s_settings s_shares (p1 + 1) p1 ((s_count - p1) - 1) _ h _) (cwV 3 hts gX3_close_X3_move rfl rfl rfl (by decide +kernel) ⟨(Nat.le_of_ble_eq_true rfl), (Nat.le_of_ble_eq_true rfl)⟩) ⟨pre_blind, va_recv hK hP (ci := 3) (q0 := 0) rfl rfl, pre_cut hE hK hA hP hD hS (isC := [0, 1, 2, 3, 4, 5, 6, 7, 8]) rfl rfl⟩ rfl rfl hl.1 rfl (lv_room (Nat.le_of_ble_eq_true rfl)) dX3_close_22 ⟨(Nat.le_of_ble_eq_true rfl), (Nat.le_of_ble_eq_true rfl)⟩) hA hP hD hS rfl rfl rfl (by decide +kernel) (fun u3 H locs h hP hD hS => ?_)
    obtain ⟨s_letters_3, s_lengths_3, s_bodies_3, s_ahead_3, s_behind_3, s_ends_3⟩ := u3
    have hP := hP.sub (ws' := [(a_s, .inr (3, [.int (iI s_count), .ref a_s_letters, .ref a_s_lengths, .ref a_s_bodies, .ref a_s_ahead, .ref a_s_behind, .ref a_s_ends, .ref a_s_settings, .ref a_s_shares])), (a_s_letters, eI X 720 s_letters_3), (a_s_lengths, eI X 60 s_lengths_3), (a_s_bodies, eI X 60 s_bodies_3), (a_s_ahead, eI X 60 s_ahead_3), (a_s_behind, eI X 60 s_behind_3), (a_s_ends, eZ X 60 s_ends_3), (a_s_settings, eI X 6 s_settings), (a_s_shares, eI X 8 s_shares)]) [0, 1, 2, 3, 4, 5, 6, 7, 8] rfl
    have hD := hD.sub (ws' := [(a_s, .inr (3, [.int (iI s_count), .ref a_s_letters, .ref a_s_lengths, .ref a_s_bodies, .ref a_s_ahead, .ref a_s_behind, .ref a_s_ends, .ref a_s_settings, .ref a_s_shares])), (a_s_letters, eI X 720 s_letters_3), (a_s_lengths, eI X 60 s_lengths_3), (a_s_bodies, eI X 60 s_bodies_3), (a_s_ahead, eI X 60 s_ahead_3), (a_s_behind, eI X 60 s_behind_3), (a_s_ends, eZ X 60 s_ends_3), (a_s_settings, eI X 6 s_settings), (a_s_shares, eI X 8 s_shares)]) [0, 1, 2, 3, 4, 5, 6, 7, 8] (by decide +kernel) rfl
    refine lv_aload_n hx hb dX3_close_25 rfl (lv_at hl 0 rfl) ?_
    refine lv_dup hx hb dX3_close_26 rfl ?_
    refine va_get (D := X.1) (ci := 3) (C := RX3) (T := TX3) (N := 9) hx hb hts hi_X3 hown hK hP 0 rfl rfl 0 (by decide) hf_48 (fun _ h9 => h9) rfl dX3_close_27 ?_
    refine lv_iconst (v := iI 1) hx hb dX3_close_30 rfl ?_
    refine i_sub hx hb dX3_close_31 ?_
    refine va_put (D := X.1) (ci := 3) (v := .int (iI (s_count - 1))) (ty := .int) (C := RX3) (T := TX3) (N := 9) hx hb hts hi_X3 tyX3 tyX3_ok nmX3 hown hK hP hD hS 0 rfl rfl 0 (by decide) hf_48 (fun _ h9 => h9) rfl (by decide +kernel) rfl rfl (Nat.le_of_ble_eq_true rfl) dX3_close_32 (fun H locs hP hD hS => ?_)
    have hP : va_P X.1 vwCl [(a_s, .inr (3, [.int (iI (s_count - 1)), .ref a_s_letters, .ref a_s_lengths, .ref a_s_bodies, .ref a_s_ahead, .ref a_s_behind, .ref a_s_ends, .ref a_s_settings, .ref a_s_shares])), (a_s_letters, eI X 720 s_letters_3), (a_s_lengths, eI X 60 s_lengths_3), (a_s_bodies, eI X 60 s_bodies_3), (a_s_ahead, eI X 60 s_ahead_3), (a_s_behind, eI X 60 s_behind_3), (a_s_ends, eZ X 60 s_ends_3), (a_s_settings, eI X 6 s_settings), (a_s_shares, eI X 8 s_shares)] H := hP
    have hD : va_D A [(a_s, .inr (3, [.int (iI (s_count - 1)), .ref a_s_letters, .ref a_s_lengths, .ref a_s_bodies, .ref a_s_ahead, .ref a_s_behind, .ref a_s_ends, .ref a_s_settings, .ref a_s_shares])), (a_s_letters, eI X 720 s_letters_3), (a_s_lengths, eI X 60 s_lengths_3), (a_s_bodies, eI X 60 s_bodies_3), (a_s_ahead, eI X 60 s_ahead_3), (a_s_behind, eI X 60 s_behind_3), (a_s_ends, eZ X 60 s_ends_3), (a_s_settings, eI X 6 s_settings), (a_s_shares, eI X 8 s_shares)] := hD
    exact hend _ _ _ _ _ _ ((s_count - 1), s_letters_3, s_lengths_3, s_bodies_3, s_ahead_3, s_behind_3, s_ends_3) hP hD hS h (Nat.le_of_ble_eq_true rfl) (Nat.le_of_ble_eq_true rfl) dX3_close_35
  · have h := h.2.2 c2
    exact hend _ _ _ _ _ _ (s_count, s_letters, s_lengths, s_bodies, s_ahead, s_behind, s_ends) hP hD hS h (Nat.le_of_ble_eq_true rfl) (Nat.le_of_ble_eq_true rfl) dX3_close_8
abbrev rmX3_addLetter : Room := { frames := 1, cells := 0, slots := 0, locals := 21 }
set_option maxHeartbeats 4000000 in
set_option maxRecDepth 100000 in
theorem kX3_addLetter (l : Launch) (X : XD) (a_s a_s_letters a_s_lengths a_s_bodies a_s_ahead a_s_behind a_s_ends a_s_settings a_s_shares : Nat) (s_count : Int) (s_letters : Nat → Int) (s_lengths : Nat → Int) (s_bodies : Nat → Int) (s_ahead : Nat → Int) (s_behind : Nat → Int) (s_ends : Nat → Int) (s_settings : Nat → Int) (s_shares : Nat → Int) (p1 : Int) (p2 : Int) (post : Int → (Nat → Int) → (Nat → Int) → (Nat → Int) → Prop) (h : wpX3_addLetter s_count s_letters s_lengths s_bodies p1 p2 post) : MCi l yX3_addLetter wsX3_addLetter rmX3_addLetter X [.ref a_s, .int (iI p1), .int (iI p2)] [(a_s, .inr (3, [.int (iI s_count), .ref a_s_letters, .ref a_s_lengths, .ref a_s_bodies, .ref a_s_ahead, .ref a_s_behind, .ref a_s_ends, .ref a_s_settings, .ref a_s_shares])), (a_s_letters, eI X 720 s_letters), (a_s_lengths, eI X 60 s_lengths), (a_s_bodies, eI X 60 s_bodies), (a_s_ahead, eI X 60 s_ahead), (a_s_behind, eI X 60 s_behind), (a_s_ends, eZ X 60 s_ends), (a_s_settings, eI X 6 s_settings), (a_s_shares, eI X 8 s_shares)] (S := (Nat → Int) × (Nat → Int) × (Nat → Int)) (fun u => [(a_s, .inr (3, [.int (iI s_count), .ref a_s_letters, .ref a_s_lengths, .ref a_s_bodies, .ref a_s_ahead, .ref a_s_behind, .ref a_s_ends, .ref a_s_settings, .ref a_s_shares])), (a_s_letters, eI X 720 u.1), (a_s_lengths, eI X 60 u.2.1), (a_s_bodies, eI X 60 u.2.2), (a_s_ahead, eI X 60 s_ahead), (a_s_behind, eI X 60 s_behind), (a_s_ends, eZ X 60 s_ends), (a_s_settings, eI X 6 s_settings), (a_s_shares, eI X 8 s_shares)]) (fun z u => post z u.1 u.2.1 u.2.2) 0 0 := by
  refine MCz.of (cc := cX3_addLetter) (maxL := 4) (by decide +kernel) rfl rfl ?_
  intro p e s m args below meth c A ls Q hE0 hP hD hS hl hend
  obtain ⟨hx, hb, hr, hml, hlocks, hown, hts, hK, hE, hA, hnm⟩ := hE0
  have hl : lv_has ls 4 [(0, .ref a_s), (1, .int (iI p1)), (2, .int (iI p2))] := hl
  have hi_X3 : ∀ w ∈ wsX30, w ∈ wsX3_addLetter := by decide +kernel
  have hf_9 := hts (.fieldLink RX3 9 "LentMargins$Script" "letters" "[I") (by decide +kernel)
  have hf_15 := hts (.fieldLink RX3 15 "LentMargins$Script" "lengths" "[I") (by decide +kernel)
  have hf_18 := hts (.fieldLink RX3 18 "LentMargins$Script" "bodies" "[I") (by decide +kernel)
  obtain ⟨t_LETTER_WIDTH, hZ_LETTER_WIDTH, hT_LETTER_WIDTH, hC_LETTER_WIDTH⟩ := hE.2.1 _ (List.mem_of_getElem? (l := st_arrs) (i := 5) rfl)
  refine lv_aload_n hx hb dX3_addLetter_0 rfl (lv_at hl 0 rfl) ?_
  refine lv_iload_n hx hb dX3_addLetter_1 rfl (lv_at hl 1 rfl) ?_
  refine k_i (isC := [0, 1, 2, 3, 4, 5, 6, 7, 8]) (isR := []) (va_runV (As := [.int (iI p1)]) (rest := []) ⟨hx, hb, hml, hown, hts⟩ (kX3_has l X a_s a_s_letters a_s_lengths a_s_bodies a_s_ahead a_s_behind a_s_ends a_s_settings a_s_shares s_count s_letters s_lengths s_bodies s_ahead s_behind s_ends s_settings s_shares p1 _ h _) (cwV 1 hts gX3_addLetter_X3_has rfl rfl rfl (by decide +kernel) ⟨(Nat.le_of_ble_eq_true rfl), (Nat.le_of_ble_eq_true rfl)⟩) ⟨pre_blind, va_recv hK hP (ci := 3) (q0 := 0) rfl rfl, pre_cut hE hK hA hP hD hS (isC := [0, 1, 2, 3, 4, 5, 6, 7, 8]) rfl rfl⟩ rfl rfl hl.1 rfl (lv_room (Nat.le_of_ble_eq_true rfl)) dX3_addLetter_2 ⟨(Nat.le_of_ble_eq_true rfl), (Nat.le_of_ble_eq_true rfl)⟩) hA hP hD hS rfl rfl rfl (by decide +kernel) (fun z1 u1 H locs h hP hD hS => ?_)
  have hP := hP.sub (ws' := [(a_s, .inr (3, [.int (iI s_count), .ref a_s_letters, .ref a_s_lengths, .ref a_s_bodies, .ref a_s_ahead, .ref a_s_behind, .ref a_s_ends, .ref a_s_settings, .ref a_s_shares])), (a_s_letters, eI X 720 s_letters), (a_s_lengths, eI X 60 s_lengths), (a_s_bodies, eI X 60 s_bodies), (a_s_ahead, eI X 60 s_ahead), (a_s_behind, eI X 60 s_behind), (a_s_ends, eZ X 60 s_ends), (a_s_settings, eI X 6 s_settings), (a_s_shares, eI X 8 s_shares)]) [0, 1, 2, 3, 4, 5, 6, 7, 8] rfl
  have hD := hD.sub (ws' := [(a_s, .inr (3, [.int (iI s_count), .ref a_s_letters, .ref a_s_lengths, .ref a_s_bodies, .ref a_s_ahead, .ref a_s_behind, .ref a_s_ends, .ref a_s_settings, .ref a_s_shares])), (a_s_letters, eI X 720 s_letters), (a_s_lengths, eI X 60 s_lengths), (a_s_bodies, eI X 60 s_bodies), (a_s_ahead, eI X 60 s_ahead), (a_s_behind, eI X 60 s_behind), (a_s_ends, eZ X 60 s_ends), (a_s_settings, eI X 6 s_settings), (a_s_shares, eI X 8 s_shares)]) [0, 1, 2, 3, 4, 5, 6, 7, 8] (by decide +kernel) rfl
  refine i_if_eq (tgt := 18) hx hb h.1 dX3_addLetter_5 (by decide) (fun c2 => ?_) (fun c2 => ?_)
  · have h := h.2.1 c2
    refine lv_iconst (v := iI 0) hx hb dX3_addLetter_18 rfl ?_
    exact hend _ _ _ _ _ _ 0 (s_letters, s_lengths, s_bodies) hP hD hS (Or.inl rfl) h (Nat.le_of_ble_eq_true rfl) (Nat.le_of_ble_eq_true rfl) dX3_addLetter_19
  · have h := h.2.2 c2
    refine lv_iload_n hx hb dX3_addLetter_8 rfl (lv_at hl 2 rfl) ?_
    refine i_if_lt (tgt := 18) hx hb h.1 dX3_addLetter_9 (by decide) (fun c3 => ?_) (fun c3 => ?_)
    · have h := h.2.1 c3
      refine lv_iconst (v := iI 0) hx hb dX3_addLetter_18 rfl ?_
      exact hend _ _ _ _ _ _ 0 (s_letters, s_lengths, s_bodies) hP hD hS (Or.inl rfl) h (Nat.le_of_ble_eq_true rfl) (Nat.le_of_ble_eq_true rfl) dX3_addLetter_19
    · have h := h.2.2 c3
      refine lv_iload_n hx hb dX3_addLetter_12 rfl (lv_at hl 2 rfl) ?_
      refine lv_bipush (v := iI 26) hx hb dX3_addLetter_13 (by decide +kernel) ?_
      refine i_cmp_lt (tgt := 20) hx hb h.1 (inR_lit rfl) dX3_addLetter_15 (by decide) (fun c4 => ?_) (fun c4 => ?_)
      · have h := h.2.1 c4
        refine lv_aload_n hx hb dX3_addLetter_20 rfl (lv_at hl 0 rfl) ?_
        refine va_get (D := X.1) (ci := 3) (C := RX3) (T := TX3) (N := 9) hx hb hts hi_X3 hown hK hP 0 rfl rfl 2 (by decide) hf_15 (fun _ h9 => h9) rfl dX3_addLetter_21 ?_
        refine lv_iload_n hx hb dX3_addLetter_24 rfl (lv_at hl 1 rfl) ?_
        refine i_ald hx hb hK hP 2 0 rfl rfl h.1 h.2.1 rfl (Nat.le_of_ble_eq_true rfl) dX3_addLetter_25 ?_
        have h := h.2.2
        refine lv_istore_n (lv' := [(3, .int (iI (s_lengths (p1).toNat))), (0, .ref a_s), (1, .int (iI p1)), (2, .int (iI p2))]) hx hb dX3_addLetter_26 rfl hl (by decide) rfl (fun ls hl => ?_)
        refine lv_iload_n hx hb dX3_addLetter_27 rfl (lv_at hl 0 rfl) ?_
        refine i_if_lt (tgt := 37) hx hb h.1 dX3_addLetter_28 (by decide) (fun c5 => ?_) (fun c5 => ?_)
        · have h := h.2.1 c5
          refine lv_iconst (v := iI 0) hx hb dX3_addLetter_37 rfl ?_
          exact hend _ _ _ _ _ _ 0 (s_letters, s_lengths, s_bodies) hP hD hS (Or.inl rfl) h (Nat.le_of_ble_eq_true rfl) (Nat.le_of_ble_eq_true rfl) dX3_addLetter_38
        · have h := h.2.2 c5
          refine lv_iload_n hx hb dX3_addLetter_31 rfl (lv_at hl 0 rfl) ?_
          refine lv_bipush (v := iI 12) hx hb dX3_addLetter_32 (by decide +kernel) ?_
          refine i_cmp_lt (tgt := 39) hx hb h.1 (inR_lit rfl) dX3_addLetter_34 (by decide) (fun c6 => ?_) (fun c6 => ?_)
          · have h := h.2.1 c6
            refine lv_aload_n hx hb dX3_addLetter_39 rfl (lv_at hl 1 rfl) ?_
            refine va_get (D := X.1) (ci := 3) (C := RX3) (T := TX3) (N := 9) hx hb hts hi_X3 hown hK hP 0 rfl rfl 1 (by decide) hf_9 (fun _ h9 => h9) rfl dX3_addLetter_40 ?_
            refine lv_iload_n hx hb dX3_addLetter_43 rfl (lv_at hl 2 rfl) ?_
            refine lv_bipush (v := iI 12) hx hb dX3_addLetter_44 (by decide +kernel) ?_
            refine i_mul hx hb dX3_addLetter_46 ?_
            refine lv_iload_n hx hb dX3_addLetter_47 rfl (lv_at hl 0 rfl) ?_
            refine i_add hx hb dX3_addLetter_48 ?_
            refine lv_iload_n hx hb dX3_addLetter_49 rfl (lv_at hl 3 rfl) ?_
            refine i_ast hx hb hK hP hD hS 1 0 rfl rfl h.1 h.2.1 rfl (Nat.le_of_ble_eq_true rfl) dX3_addLetter_50 (fun H locs hP hD hS => ?_)
            have hP : va_P X.1 vwCl [(a_s, .inr (3, [.int (iI s_count), .ref a_s_letters, .ref a_s_lengths, .ref a_s_bodies, .ref a_s_ahead, .ref a_s_behind, .ref a_s_ends, .ref a_s_settings, .ref a_s_shares])), (a_s_letters, eI X 720 (updI s_letters ((p1 * 12) + s_lengths (p1).toNat).toNat p2)), (a_s_lengths, eI X 60 s_lengths), (a_s_bodies, eI X 60 s_bodies), (a_s_ahead, eI X 60 s_ahead), (a_s_behind, eI X 60 s_behind), (a_s_ends, eZ X 60 s_ends), (a_s_settings, eI X 6 s_settings), (a_s_shares, eI X 8 s_shares)] H := hP
            have hD : va_D A [(a_s, .inr (3, [.int (iI s_count), .ref a_s_letters, .ref a_s_lengths, .ref a_s_bodies, .ref a_s_ahead, .ref a_s_behind, .ref a_s_ends, .ref a_s_settings, .ref a_s_shares])), (a_s_letters, eI X 720 (updI s_letters ((p1 * 12) + s_lengths (p1).toNat).toNat p2)), (a_s_lengths, eI X 60 s_lengths), (a_s_bodies, eI X 60 s_bodies), (a_s_ahead, eI X 60 s_ahead), (a_s_behind, eI X 60 s_behind), (a_s_ends, eZ X 60 s_ends), (a_s_settings, eI X 6 s_settings), (a_s_shares, eI X 8 s_shares)] := hD
            have h := h.2.2
            refine lv_aload_n hx hb dX3_addLetter_51 rfl (lv_at hl 1 rfl) ?_
            refine va_get (D := X.1) (ci := 3) (C := RX3) (T := TX3) (N := 9) hx hb hts hi_X3 hown hK hP 0 rfl rfl 2 (by decide) hf_15 (fun _ h9 => h9) rfl dX3_addLetter_52 ?_
            refine lv_iload_n hx hb dX3_addLetter_55 rfl (lv_at hl 2 rfl) ?_
            refine lv_iload_n hx hb dX3_addLetter_56 rfl (lv_at hl 0 rfl) ?_
            refine lv_iconst (v := iI 1) hx hb dX3_addLetter_57 rfl ?_
            refine i_add hx hb dX3_addLetter_58 ?_
            refine i_ast hx hb hK hP hD hS 2 0 rfl rfl h.1 h.2.1 rfl (Nat.le_of_ble_eq_true rfl) dX3_addLetter_59 (fun H locs hP hD hS => ?_)
            have hP : va_P X.1 vwCl [(a_s, .inr (3, [.int (iI s_count), .ref a_s_letters, .ref a_s_lengths, .ref a_s_bodies, .ref a_s_ahead, .ref a_s_behind, .ref a_s_ends, .ref a_s_settings, .ref a_s_shares])), (a_s_letters, eI X 720 (updI s_letters ((p1 * 12) + s_lengths (p1).toNat).toNat p2)), (a_s_lengths, eI X 60 (updI s_lengths (p1).toNat (s_lengths (p1).toNat + 1))), (a_s_bodies, eI X 60 s_bodies), (a_s_ahead, eI X 60 s_ahead), (a_s_behind, eI X 60 s_behind), (a_s_ends, eZ X 60 s_ends), (a_s_settings, eI X 6 s_settings), (a_s_shares, eI X 8 s_shares)] H := hP
            have hD : va_D A [(a_s, .inr (3, [.int (iI s_count), .ref a_s_letters, .ref a_s_lengths, .ref a_s_bodies, .ref a_s_ahead, .ref a_s_behind, .ref a_s_ends, .ref a_s_settings, .ref a_s_shares])), (a_s_letters, eI X 720 (updI s_letters ((p1 * 12) + s_lengths (p1).toNat).toNat p2)), (a_s_lengths, eI X 60 (updI s_lengths (p1).toNat (s_lengths (p1).toNat + 1))), (a_s_bodies, eI X 60 s_bodies), (a_s_ahead, eI X 60 s_ahead), (a_s_behind, eI X 60 s_behind), (a_s_ends, eZ X 60 s_ends), (a_s_settings, eI X 6 s_settings), (a_s_shares, eI X 8 s_shares)] := hD
            have h := h.2.2
            refine lv_aload_n hx hb dX3_addLetter_60 rfl (lv_at hl 1 rfl) ?_
            refine va_get (D := X.1) (ci := 3) (C := RX3) (T := TX3) (N := 9) hx hb hts hi_X3 hown hK hP 0 rfl rfl 3 (by decide) hf_18 (fun _ h9 => h9) rfl dX3_addLetter_61 ?_
            refine lv_iload_n hx hb dX3_addLetter_64 rfl (lv_at hl 2 rfl) ?_
            refine lv_dup2_11 hx hb dX3_addLetter_65 rfl rfl ?_
            refine i_ald hx hb hK hP 3 0 rfl rfl h.1 h.2.1 rfl (Nat.le_of_ble_eq_true rfl) dX3_addLetter_66 ?_
            have h := h.2.2
            refine va_getsN hx hb hZ_LETTER_WIDTH hS hown (va_Nw.use rfl (hE.1.2.1 _ (List.mem_of_getElem? (l := st_nf) (i := 2) rfl))) (fun _ h9 => h9) dX3_addLetter_67 ?_
            refine lv_iload_n hx hb dX3_addLetter_70 rfl (lv_at hl 3 rfl) ?_
            refine i_tld hx hb hT_LETTER_WIDTH hS h.1 h.2.1 rfl (Nat.le_of_ble_eq_true rfl) dX3_addLetter_71 ?_
            have h := h.2.2
            refine i_add hx hb dX3_addLetter_72 ?_
            refine i_ast hx hb hK hP hD hS 3 0 rfl rfl h.1 h.2.1 rfl (Nat.le_of_ble_eq_true rfl) dX3_addLetter_73 (fun H locs hP hD hS => ?_)
            have hP : va_P X.1 vwCl [(a_s, .inr (3, [.int (iI s_count), .ref a_s_letters, .ref a_s_lengths, .ref a_s_bodies, .ref a_s_ahead, .ref a_s_behind, .ref a_s_ends, .ref a_s_settings, .ref a_s_shares])), (a_s_letters, eI X 720 (updI s_letters ((p1 * 12) + s_lengths (p1).toNat).toNat p2)), (a_s_lengths, eI X 60 (updI s_lengths (p1).toNat (s_lengths (p1).toNat + 1))), (a_s_bodies, eI X 60 (updI s_bodies (p1).toNat (s_bodies (p1).toNat + tb_LETTER_WIDTH (p2).toNat))), (a_s_ahead, eI X 60 s_ahead), (a_s_behind, eI X 60 s_behind), (a_s_ends, eZ X 60 s_ends), (a_s_settings, eI X 6 s_settings), (a_s_shares, eI X 8 s_shares)] H := hP
            have hD : va_D A [(a_s, .inr (3, [.int (iI s_count), .ref a_s_letters, .ref a_s_lengths, .ref a_s_bodies, .ref a_s_ahead, .ref a_s_behind, .ref a_s_ends, .ref a_s_settings, .ref a_s_shares])), (a_s_letters, eI X 720 (updI s_letters ((p1 * 12) + s_lengths (p1).toNat).toNat p2)), (a_s_lengths, eI X 60 (updI s_lengths (p1).toNat (s_lengths (p1).toNat + 1))), (a_s_bodies, eI X 60 (updI s_bodies (p1).toNat (s_bodies (p1).toNat + tb_LETTER_WIDTH (p2).toNat))), (a_s_ahead, eI X 60 s_ahead), (a_s_behind, eI X 60 s_behind), (a_s_ends, eZ X 60 s_ends), (a_s_settings, eI X 6 s_settings), (a_s_shares, eI X 8 s_shares)] := hD
            have h := h.2.2
            refine lv_iconst (v := iI 1) hx hb dX3_addLetter_74 rfl ?_
            exact hend _ _ _ _ _ _ 1 ((updI s_letters ((p1 * 12) + s_lengths (p1).toNat).toNat p2), (updI s_lengths (p1).toNat (s_lengths (p1).toNat + 1)), (updI s_bodies (p1).toNat (s_bodies (p1).toNat + tb_LETTER_WIDTH (p2).toNat))) hP hD hS (Or.inr rfl) h (Nat.le_of_ble_eq_true rfl) (Nat.le_of_ble_eq_true rfl) dX3_addLetter_75
          · have h := h.2.2 c6
            refine lv_iconst (v := iI 0) hx hb dX3_addLetter_37 rfl ?_
            exact hend _ _ _ _ _ _ 0 (s_letters, s_lengths, s_bodies) hP hD hS (Or.inl rfl) h (Nat.le_of_ble_eq_true rfl) (Nat.le_of_ble_eq_true rfl) dX3_addLetter_38
      · have h := h.2.2 c4
        refine lv_iconst (v := iI 0) hx hb dX3_addLetter_18 rfl ?_
        exact hend _ _ _ _ _ _ 0 (s_letters, s_lengths, s_bodies) hP hD hS (Or.inl rfl) h (Nat.le_of_ble_eq_true rfl) (Nat.le_of_ble_eq_true rfl) dX3_addLetter_19
abbrev rmX3_putSigns : Room := { frames := 1, cells := 0, slots := 0, locals := 21 }
set_option maxHeartbeats 4000000 in
set_option maxRecDepth 100000 in
theorem kX3_putSigns (l : Launch) (X : XD) (a_s a_s_letters a_s_lengths a_s_bodies a_s_ahead a_s_behind a_s_ends a_s_settings a_s_shares : Nat) (s_count : Int) (s_letters : Nat → Int) (s_lengths : Nat → Int) (s_bodies : Nat → Int) (s_ahead : Nat → Int) (s_behind : Nat → Int) (s_ends : Nat → Int) (s_settings : Nat → Int) (s_shares : Nat → Int) (p1 : Int) (p2 : Int) (p3 : Int) (post : (Nat → Int) → (Nat → Int) → Prop) (h : wpX3_putSigns s_count s_ahead s_behind p1 p2 p3 post) : MCv l yX3_putSigns wsX3_putSigns rmX3_putSigns X [.ref a_s, .int (iI p1), .int (iI p2), .int (iI p3)] [(a_s, .inr (3, [.int (iI s_count), .ref a_s_letters, .ref a_s_lengths, .ref a_s_bodies, .ref a_s_ahead, .ref a_s_behind, .ref a_s_ends, .ref a_s_settings, .ref a_s_shares])), (a_s_letters, eI X 720 s_letters), (a_s_lengths, eI X 60 s_lengths), (a_s_bodies, eI X 60 s_bodies), (a_s_ahead, eI X 60 s_ahead), (a_s_behind, eI X 60 s_behind), (a_s_ends, eZ X 60 s_ends), (a_s_settings, eI X 6 s_settings), (a_s_shares, eI X 8 s_shares)] (S := (Nat → Int) × (Nat → Int)) (fun u => [(a_s, .inr (3, [.int (iI s_count), .ref a_s_letters, .ref a_s_lengths, .ref a_s_bodies, .ref a_s_ahead, .ref a_s_behind, .ref a_s_ends, .ref a_s_settings, .ref a_s_shares])), (a_s_letters, eI X 720 s_letters), (a_s_lengths, eI X 60 s_lengths), (a_s_bodies, eI X 60 s_bodies), (a_s_ahead, eI X 60 u.1), (a_s_behind, eI X 60 u.2), (a_s_ends, eZ X 60 s_ends), (a_s_settings, eI X 6 s_settings), (a_s_shares, eI X 8 s_shares)]) (fun u => post u.1 u.2) 0 0 := by
  refine MCv.of (cc := cX3_putSigns) (maxL := 4) (by decide +kernel) rfl rfl ?_
  intro p e s m args below meth c A ls Q hE0 hP hD hS hl hend
  obtain ⟨hx, hb, hr, hml, hlocks, hown, hts, hK, hE, hA, hnm⟩ := hE0
  have hl : lv_has ls 4 [(0, .ref a_s), (1, .int (iI p1)), (2, .int (iI p2)), (3, .int (iI p3))] := hl
  have hi_X3 : ∀ w ∈ wsX30, w ∈ wsX3_putSigns := by decide +kernel
  have hf_21 := hts (.fieldLink RX3 21 "LentMargins$Script" "ahead" "[I") (by decide +kernel)
  have hf_24 := hts (.fieldLink RX3 24 "LentMargins$Script" "behind" "[I") (by decide +kernel)
  refine lv_aload_n hx hb dX3_putSigns_0 rfl (lv_at hl 0 rfl) ?_
  refine lv_iload_n hx hb dX3_putSigns_1 rfl (lv_at hl 1 rfl) ?_
  refine k_i (isC := [0, 1, 2, 3, 4, 5, 6, 7, 8]) (isR := []) (va_runV (As := [.int (iI p1)]) (rest := []) ⟨hx, hb, hml, hown, hts⟩ (kX3_has l X a_s a_s_letters a_s_lengths a_s_bodies a_s_ahead a_s_behind a_s_ends a_s_settings a_s_shares s_count s_letters s_lengths s_bodies s_ahead s_behind s_ends s_settings s_shares p1 _ h _) (cwV 1 hts gX3_putSigns_X3_has rfl rfl rfl (by decide +kernel) ⟨(Nat.le_of_ble_eq_true rfl), (Nat.le_of_ble_eq_true rfl)⟩) ⟨pre_blind, va_recv hK hP (ci := 3) (q0 := 0) rfl rfl, pre_cut hE hK hA hP hD hS (isC := [0, 1, 2, 3, 4, 5, 6, 7, 8]) rfl rfl⟩ rfl rfl hl.1 rfl (lv_room (Nat.le_of_ble_eq_true rfl)) dX3_putSigns_2 ⟨(Nat.le_of_ble_eq_true rfl), (Nat.le_of_ble_eq_true rfl)⟩) hA hP hD hS rfl rfl rfl (by decide +kernel) (fun z1 u1 H locs h hP hD hS => ?_)
  have hP := hP.sub (ws' := [(a_s, .inr (3, [.int (iI s_count), .ref a_s_letters, .ref a_s_lengths, .ref a_s_bodies, .ref a_s_ahead, .ref a_s_behind, .ref a_s_ends, .ref a_s_settings, .ref a_s_shares])), (a_s_letters, eI X 720 s_letters), (a_s_lengths, eI X 60 s_lengths), (a_s_bodies, eI X 60 s_bodies), (a_s_ahead, eI X 60 s_ahead), (a_s_behind, eI X 60 s_behind), (a_s_ends, eZ X 60 s_ends), (a_s_settings, eI X 6 s_settings), (a_s_shares, eI X 8 s_shares)]) [0, 1, 2, 3, 4, 5, 6, 7, 8] rfl
  have hD := hD.sub (ws' := [(a_s, .inr (3, [.int (iI s_count), .ref a_s_letters, .ref a_s_lengths, .ref a_s_bodies, .ref a_s_ahead, .ref a_s_behind, .ref a_s_ends, .ref a_s_settings, .ref a_s_shares])), (a_s_letters, eI X 720 s_letters), (a_s_lengths, eI X 60 s_lengths), (a_s_bodies, eI X 60 s_bodies), (a_s_ahead, eI X 60 s_ahead), (a_s_behind, eI X 60 s_behind), (a_s_ends, eZ X 60 s_ends), (a_s_settings, eI X 6 s_settings), (a_s_shares, eI X 8 s_shares)]) [0, 1, 2, 3, 4, 5, 6, 7, 8] (by decide +kernel) rfl
  refine i_if_eq (tgt := 22) hx hb h.1 dX3_putSigns_5 (by decide) (fun c2 => ?_) (fun c2 => ?_)
  · have h := h.2.1 c2
    exact hend _ _ _ _ _ _ (s_ahead, s_behind) hP hD hS h (Nat.le_of_ble_eq_true rfl) (Nat.le_of_ble_eq_true rfl) dX3_putSigns_22
  · have h := h.2.2 c2
    refine lv_aload_n hx hb dX3_putSigns_8 rfl (lv_at hl 0 rfl) ?_
    refine va_get (D := X.1) (ci := 3) (C := RX3) (T := TX3) (N := 9) hx hb hts hi_X3 hown hK hP 0 rfl rfl 4 (by decide) hf_21 (fun _ h9 => h9) rfl dX3_putSigns_9 ?_
    refine lv_iload_n hx hb dX3_putSigns_12 rfl (lv_at hl 1 rfl) ?_
    refine lv_iload_n hx hb dX3_putSigns_13 rfl (lv_at hl 2 rfl) ?_
    refine i_ast hx hb hK hP hD hS 4 0 rfl rfl h.1 h.2.1 rfl (Nat.le_of_ble_eq_true rfl) dX3_putSigns_14 (fun H locs hP hD hS => ?_)
    have hP : va_P X.1 vwCl [(a_s, .inr (3, [.int (iI s_count), .ref a_s_letters, .ref a_s_lengths, .ref a_s_bodies, .ref a_s_ahead, .ref a_s_behind, .ref a_s_ends, .ref a_s_settings, .ref a_s_shares])), (a_s_letters, eI X 720 s_letters), (a_s_lengths, eI X 60 s_lengths), (a_s_bodies, eI X 60 s_bodies), (a_s_ahead, eI X 60 (updI s_ahead (p1).toNat p2)), (a_s_behind, eI X 60 s_behind), (a_s_ends, eZ X 60 s_ends), (a_s_settings, eI X 6 s_settings), (a_s_shares, eI X 8 s_shares)] H := hP
    have hD : va_D A [(a_s, .inr (3, [.int (iI s_count), .ref a_s_letters, .ref a_s_lengths, .ref a_s_bodies, .ref a_s_ahead, .ref a_s_behind, .ref a_s_ends, .ref a_s_settings, .ref a_s_shares])), (a_s_letters, eI X 720 s_letters), (a_s_lengths, eI X 60 s_lengths), (a_s_bodies, eI X 60 s_bodies), (a_s_ahead, eI X 60 (updI s_ahead (p1).toNat p2)), (a_s_behind, eI X 60 s_behind), (a_s_ends, eZ X 60 s_ends), (a_s_settings, eI X 6 s_settings), (a_s_shares, eI X 8 s_shares)] := hD
    have h := h.2.2
    refine lv_aload_n hx hb dX3_putSigns_15 rfl (lv_at hl 0 rfl) ?_
    refine va_get (D := X.1) (ci := 3) (C := RX3) (T := TX3) (N := 9) hx hb hts hi_X3 hown hK hP 0 rfl rfl 5 (by decide) hf_24 (fun _ h9 => h9) rfl dX3_putSigns_16 ?_
    refine lv_iload_n hx hb dX3_putSigns_19 rfl (lv_at hl 1 rfl) ?_
    refine lv_iload_n hx hb dX3_putSigns_20 rfl (lv_at hl 3 rfl) ?_
    refine i_ast hx hb hK hP hD hS 5 0 rfl rfl h.1 h.2.1 rfl (Nat.le_of_ble_eq_true rfl) dX3_putSigns_21 (fun H locs hP hD hS => ?_)
    have hP : va_P X.1 vwCl [(a_s, .inr (3, [.int (iI s_count), .ref a_s_letters, .ref a_s_lengths, .ref a_s_bodies, .ref a_s_ahead, .ref a_s_behind, .ref a_s_ends, .ref a_s_settings, .ref a_s_shares])), (a_s_letters, eI X 720 s_letters), (a_s_lengths, eI X 60 s_lengths), (a_s_bodies, eI X 60 s_bodies), (a_s_ahead, eI X 60 (updI s_ahead (p1).toNat p2)), (a_s_behind, eI X 60 (updI s_behind (p1).toNat p3)), (a_s_ends, eZ X 60 s_ends), (a_s_settings, eI X 6 s_settings), (a_s_shares, eI X 8 s_shares)] H := hP
    have hD : va_D A [(a_s, .inr (3, [.int (iI s_count), .ref a_s_letters, .ref a_s_lengths, .ref a_s_bodies, .ref a_s_ahead, .ref a_s_behind, .ref a_s_ends, .ref a_s_settings, .ref a_s_shares])), (a_s_letters, eI X 720 s_letters), (a_s_lengths, eI X 60 s_lengths), (a_s_bodies, eI X 60 s_bodies), (a_s_ahead, eI X 60 (updI s_ahead (p1).toNat p2)), (a_s_behind, eI X 60 (updI s_behind (p1).toNat p3)), (a_s_ends, eZ X 60 s_ends), (a_s_settings, eI X 6 s_settings), (a_s_shares, eI X 8 s_shares)] := hD
    have h := h.2.2
    exact hend _ _ _ _ _ _ ((updI s_ahead (p1).toNat p2), (updI s_behind (p1).toNat p3)) hP hD hS h (Nat.le_of_ble_eq_true rfl) (Nat.le_of_ble_eq_true rfl) dX3_putSigns_22
abbrev rmX3_putEnd : Room := { frames := 1, cells := 0, slots := 0, locals := 21 }
set_option maxHeartbeats 4000000 in
set_option maxRecDepth 100000 in
theorem kX3_putEnd (l : Launch) (X : XD) (a_s a_s_letters a_s_lengths a_s_bodies a_s_ahead a_s_behind a_s_ends a_s_settings a_s_shares : Nat) (s_count : Int) (s_letters : Nat → Int) (s_lengths : Nat → Int) (s_bodies : Nat → Int) (s_ahead : Nat → Int) (s_behind : Nat → Int) (s_ends : Nat → Int) (s_settings : Nat → Int) (s_shares : Nat → Int) (p1 : Int) (p2 : Int) (post : (Nat → Int) → Prop) (h : wpX3_putEnd s_count s_ends p1 p2 post) : MCv l yX3_putEnd wsX3_putEnd rmX3_putEnd X [.ref a_s, .int (iI p1), .int (iI p2)] [(a_s, .inr (3, [.int (iI s_count), .ref a_s_letters, .ref a_s_lengths, .ref a_s_bodies, .ref a_s_ahead, .ref a_s_behind, .ref a_s_ends, .ref a_s_settings, .ref a_s_shares])), (a_s_letters, eI X 720 s_letters), (a_s_lengths, eI X 60 s_lengths), (a_s_bodies, eI X 60 s_bodies), (a_s_ahead, eI X 60 s_ahead), (a_s_behind, eI X 60 s_behind), (a_s_ends, eZ X 60 s_ends), (a_s_settings, eI X 6 s_settings), (a_s_shares, eI X 8 s_shares)] (S := Nat → Int) (fun u => [(a_s, .inr (3, [.int (iI s_count), .ref a_s_letters, .ref a_s_lengths, .ref a_s_bodies, .ref a_s_ahead, .ref a_s_behind, .ref a_s_ends, .ref a_s_settings, .ref a_s_shares])), (a_s_letters, eI X 720 s_letters), (a_s_lengths, eI X 60 s_lengths), (a_s_bodies, eI X 60 s_bodies), (a_s_ahead, eI X 60 s_ahead), (a_s_behind, eI X 60 s_behind), (a_s_ends, eZ X 60 u), (a_s_settings, eI X 6 s_settings), (a_s_shares, eI X 8 s_shares)]) (fun u => post u) 0 0 := by
  refine MCv.of (cc := cX3_putEnd) (maxL := 3) (by decide +kernel) rfl rfl ?_
  intro p e s m args below meth c A ls Q hE0 hP hD hS hl hend
  obtain ⟨hx, hb, hr, hml, hlocks, hown, hts, hK, hE, hA, hnm⟩ := hE0
  have hl : lv_has ls 3 [(0, .ref a_s), (1, .int (iI p1)), (2, .int (iI p2))] := hl
  have hi_X3 : ∀ w ∈ wsX30, w ∈ wsX3_putEnd := by decide +kernel
  have hf_27 := hts (.fieldLink RX3 27 "LentMargins$Script" "ends" "[Z") (by decide +kernel)
  refine lv_aload_n hx hb dX3_putEnd_0 rfl (lv_at hl 0 rfl) ?_
  refine lv_iload_n hx hb dX3_putEnd_1 rfl (lv_at hl 1 rfl) ?_
  refine k_i (isC := [0, 1, 2, 3, 4, 5, 6, 7, 8]) (isR := []) (va_runV (As := [.int (iI p1)]) (rest := []) ⟨hx, hb, hml, hown, hts⟩ (kX3_has l X a_s a_s_letters a_s_lengths a_s_bodies a_s_ahead a_s_behind a_s_ends a_s_settings a_s_shares s_count s_letters s_lengths s_bodies s_ahead s_behind s_ends s_settings s_shares p1 _ h _) (cwV 1 hts gX3_putEnd_X3_has rfl rfl rfl (by decide +kernel) ⟨(Nat.le_of_ble_eq_true rfl), (Nat.le_of_ble_eq_true rfl)⟩) ⟨pre_blind, va_recv hK hP (ci := 3) (q0 := 0) rfl rfl, pre_cut hE hK hA hP hD hS (isC := [0, 1, 2, 3, 4, 5, 6, 7, 8]) rfl rfl⟩ rfl rfl hl.1 rfl (lv_room (Nat.le_of_ble_eq_true rfl)) dX3_putEnd_2 ⟨(Nat.le_of_ble_eq_true rfl), (Nat.le_of_ble_eq_true rfl)⟩) hA hP hD hS rfl rfl rfl (by decide +kernel) (fun z1 u1 H locs h hP hD hS => ?_)
  have hP := hP.sub (ws' := [(a_s, .inr (3, [.int (iI s_count), .ref a_s_letters, .ref a_s_lengths, .ref a_s_bodies, .ref a_s_ahead, .ref a_s_behind, .ref a_s_ends, .ref a_s_settings, .ref a_s_shares])), (a_s_letters, eI X 720 s_letters), (a_s_lengths, eI X 60 s_lengths), (a_s_bodies, eI X 60 s_bodies), (a_s_ahead, eI X 60 s_ahead), (a_s_behind, eI X 60 s_behind), (a_s_ends, eZ X 60 s_ends), (a_s_settings, eI X 6 s_settings), (a_s_shares, eI X 8 s_shares)]) [0, 1, 2, 3, 4, 5, 6, 7, 8] rfl
  have hD := hD.sub (ws' := [(a_s, .inr (3, [.int (iI s_count), .ref a_s_letters, .ref a_s_lengths, .ref a_s_bodies, .ref a_s_ahead, .ref a_s_behind, .ref a_s_ends, .ref a_s_settings, .ref a_s_shares])), (a_s_letters, eI X 720 s_letters), (a_s_lengths, eI X 60 s_lengths), (a_s_bodies, eI X 60 s_bodies), (a_s_ahead, eI X 60 s_ahead), (a_s_behind, eI X 60 s_behind), (a_s_ends, eZ X 60 s_ends), (a_s_settings, eI X 6 s_settings), (a_s_shares, eI X 8 s_shares)]) [0, 1, 2, 3, 4, 5, 6, 7, 8] (by decide +kernel) rfl
  refine i_if_eq (tgt := 15) hx hb h.1 dX3_putEnd_5 (by decide) (fun c2 => ?_) (fun c2 => ?_)
  · have h := h.2.1 c2
    exact hend _ _ _ _ _ _ s_ends hP hD hS h (Nat.le_of_ble_eq_true rfl) (Nat.le_of_ble_eq_true rfl) dX3_putEnd_15
  · have h := h.2.2 c2
    refine lv_aload_n hx hb dX3_putEnd_8 rfl (lv_at hl 0 rfl) ?_
    refine va_get (D := X.1) (ci := 3) (C := RX3) (T := TX3) (N := 9) hx hb hts hi_X3 hown hK hP 0 rfl rfl 6 (by decide) hf_27 (fun _ h9 => h9) rfl dX3_putEnd_9 ?_
    refine lv_iload_n hx hb dX3_putEnd_12 rfl (lv_at hl 1 rfl) ?_
    refine lv_iload_n hx hb dX3_putEnd_13 rfl (lv_at hl 2 rfl) ?_
    refine i_zst hx hb hK hP hD hS 6 1 rfl rfl h.1 h.2.1 rfl h.2.2.1 (Nat.le_of_ble_eq_true rfl) dX3_putEnd_14 (fun H locs hP hD hS => ?_)
    have hP : va_P X.1 vwCl [(a_s, .inr (3, [.int (iI s_count), .ref a_s_letters, .ref a_s_lengths, .ref a_s_bodies, .ref a_s_ahead, .ref a_s_behind, .ref a_s_ends, .ref a_s_settings, .ref a_s_shares])), (a_s_letters, eI X 720 s_letters), (a_s_lengths, eI X 60 s_lengths), (a_s_bodies, eI X 60 s_bodies), (a_s_ahead, eI X 60 s_ahead), (a_s_behind, eI X 60 s_behind), (a_s_ends, eZ X 60 (updI s_ends (p1).toNat p2)), (a_s_settings, eI X 6 s_settings), (a_s_shares, eI X 8 s_shares)] H := hP
    have hD : va_D A [(a_s, .inr (3, [.int (iI s_count), .ref a_s_letters, .ref a_s_lengths, .ref a_s_bodies, .ref a_s_ahead, .ref a_s_behind, .ref a_s_ends, .ref a_s_settings, .ref a_s_shares])), (a_s_letters, eI X 720 s_letters), (a_s_lengths, eI X 60 s_lengths), (a_s_bodies, eI X 60 s_bodies), (a_s_ahead, eI X 60 s_ahead), (a_s_behind, eI X 60 s_behind), (a_s_ends, eZ X 60 (updI s_ends (p1).toNat p2)), (a_s_settings, eI X 6 s_settings), (a_s_shares, eI X 8 s_shares)] := hD
    have h := h.2.2.2
    exact hend _ _ _ _ _ _ (updI s_ends (p1).toNat p2) hP hD hS h (Nat.le_of_ble_eq_true rfl) (Nat.le_of_ble_eq_true rfl) dX3_putEnd_15
abbrev rmX3_takeWords : Room := { frames := 1, cells := 0, slots := 0, locals := 40 }
set_option maxHeartbeats 4000000 in
set_option maxRecDepth 100000 in
theorem kX3_takeWords (l : Launch) (X : XD) (a_s a_s_letters a_s_lengths a_s_bodies a_s_ahead a_s_behind a_s_ends a_s_settings a_s_shares a_o a_o_letters a_o_lengths a_o_bodies a_o_ahead a_o_behind a_o_ends a_o_settings a_o_shares : Nat) (s_count : Int) (s_letters : Nat → Int) (s_lengths : Nat → Int) (s_bodies : Nat → Int) (s_ahead : Nat → Int) (s_behind : Nat → Int) (s_ends : Nat → Int) (s_settings : Nat → Int) (s_shares : Nat → Int) (o_count : Int) (o_letters : Nat → Int) (o_lengths : Nat → Int) (o_bodies : Nat → Int) (o_ahead : Nat → Int) (o_behind : Nat → Int) (o_ends : Nat → Int) (o_settings : Nat → Int) (o_shares : Nat → Int) (post : Int → (Nat → Int) → (Nat → Int) → (Nat → Int) → (Nat → Int) → (Nat → Int) → (Nat → Int) → Prop) (h : wpX3_takeWords s_count s_letters s_lengths s_bodies s_ahead s_behind s_ends o_count o_letters o_lengths o_bodies o_ahead o_behind o_ends post) : MCv l yX3_takeWords wsX3_takeWords rmX3_takeWords X [.ref a_s, .ref a_o] [(a_s, .inr (3, [.int (iI s_count), .ref a_s_letters, .ref a_s_lengths, .ref a_s_bodies, .ref a_s_ahead, .ref a_s_behind, .ref a_s_ends, .ref a_s_settings, .ref a_s_shares])), (a_s_letters, eI X 720 s_letters), (a_s_lengths, eI X 60 s_lengths), (a_s_bodies, eI X 60 s_bodies), (a_s_ahead, eI X 60 s_ahead), (a_s_behind, eI X 60 s_behind), (a_s_ends, eZ X 60 s_ends), (a_s_settings, eI X 6 s_settings), (a_s_shares, eI X 8 s_shares), (a_o, .inr (3, [.int (iI o_count), .ref a_o_letters, .ref a_o_lengths, .ref a_o_bodies, .ref a_o_ahead, .ref a_o_behind, .ref a_o_ends, .ref a_o_settings, .ref a_o_shares])), (a_o_letters, eI X 720 o_letters), (a_o_lengths, eI X 60 o_lengths), (a_o_bodies, eI X 60 o_bodies), (a_o_ahead, eI X 60 o_ahead), (a_o_behind, eI X 60 o_behind), (a_o_ends, eZ X 60 o_ends), (a_o_settings, eI X 6 o_settings), (a_o_shares, eI X 8 o_shares)] (S := Int × (Nat → Int) × (Nat → Int) × (Nat → Int) × (Nat → Int) × (Nat → Int) × (Nat → Int)) (fun u => [(a_s, .inr (3, [.int (iI u.1), .ref a_s_letters, .ref a_s_lengths, .ref a_s_bodies, .ref a_s_ahead, .ref a_s_behind, .ref a_s_ends, .ref a_s_settings, .ref a_s_shares])), (a_s_letters, eI X 720 u.2.1), (a_s_lengths, eI X 60 u.2.2.1), (a_s_bodies, eI X 60 u.2.2.2.1), (a_s_ahead, eI X 60 u.2.2.2.2.1), (a_s_behind, eI X 60 u.2.2.2.2.2.1), (a_s_ends, eZ X 60 u.2.2.2.2.2.2), (a_s_settings, eI X 6 s_settings), (a_s_shares, eI X 8 s_shares), (a_o, .inr (3, [.int (iI o_count), .ref a_o_letters, .ref a_o_lengths, .ref a_o_bodies, .ref a_o_ahead, .ref a_o_behind, .ref a_o_ends, .ref a_o_settings, .ref a_o_shares])), (a_o_letters, eI X 720 o_letters), (a_o_lengths, eI X 60 o_lengths), (a_o_bodies, eI X 60 o_bodies), (a_o_ahead, eI X 60 o_ahead), (a_o_behind, eI X 60 o_behind), (a_o_ends, eZ X 60 o_ends), (a_o_settings, eI X 6 o_settings), (a_o_shares, eI X 8 o_shares)]) (fun u => post u.1 u.2.1 u.2.2.1 u.2.2.2.1 u.2.2.2.2.1 u.2.2.2.2.2.1 u.2.2.2.2.2.2) 0 0 := by
  refine MCv.of (cc := cX3_takeWords) (maxL := 2) (by decide +kernel) rfl rfl ?_
  intro p e s m args below meth c A ls Q hE0 hP hD hS hl hend
  obtain ⟨hx, hb, hr, hml, hlocks, hown, hts, hK, hE, hA, hnm⟩ := hE0
  have hl : lv_has ls 2 [(0, .ref a_s), (1, .ref a_o)] := hl
  have hi_X3 : ∀ w ∈ wsX30, w ∈ wsX3_takeWords := by decide +kernel
  have hf_9 := hts (.fieldLink RX3 9 "LentMargins$Script" "letters" "[I") (by decide +kernel)
  have hf_15 := hts (.fieldLink RX3 15 "LentMargins$Script" "lengths" "[I") (by decide +kernel)
  have hf_18 := hts (.fieldLink RX3 18 "LentMargins$Script" "bodies" "[I") (by decide +kernel)
  have hf_21 := hts (.fieldLink RX3 21 "LentMargins$Script" "ahead" "[I") (by decide +kernel)
  have hf_24 := hts (.fieldLink RX3 24 "LentMargins$Script" "behind" "[I") (by decide +kernel)
  have hf_27 := hts (.fieldLink RX3 27 "LentMargins$Script" "ends" "[Z") (by decide +kernel)
  have hf_48 := hts (.fieldLink RX3 48 "LentMargins$Script" "count" "I") (by decide +kernel)
  refine lv_aload_n hx hb dX3_takeWords_0 rfl (lv_at hl 0 rfl) ?_
  refine lv_aload_n hx hb dX3_takeWords_1 rfl (lv_at hl 1 rfl) ?_
  refine va_get (D := X.1) (ci := 3) (C := RX3) (T := TX3) (N := 9) hx hb hts hi_X3 hown hK hP 9 rfl rfl 0 (by decide) hf_48 (fun _ h9 => h9) rfl dX3_takeWords_2 ?_
  refine va_put (D := X.1) (ci := 3) (v := .int (iI o_count)) (ty := .int) (C := RX3) (T := TX3) (N := 9) hx hb hts hi_X3 tyX3 tyX3_ok nmX3 hown hK hP hD hS 0 rfl rfl 0 (by decide) hf_48 (fun _ h9 => h9) rfl (by decide +kernel) rfl rfl (Nat.le_of_ble_eq_true rfl) dX3_takeWords_5 (fun H locs hP hD hS => ?_)
  have hP : va_P X.1 vwCl [(a_s, .inr (3, [.int (iI o_count), .ref a_s_letters, .ref a_s_lengths, .ref a_s_bodies, .ref a_s_ahead, .ref a_s_behind, .ref a_s_ends, .ref a_s_settings, .ref a_s_shares])), (a_s_letters, eI X 720 s_letters), (a_s_lengths, eI X 60 s_lengths), (a_s_bodies, eI X 60 s_bodies), (a_s_ahead, eI X 60 s_ahead), (a_s_behind, eI X 60 s_behind), (a_s_ends, eZ X 60 s_ends), (a_s_settings, eI X 6 s_settings), (a_s_shares, eI X 8 s_shares), (a_o, .inr (3, [.int (iI o_count), .ref a_o_letters, .ref a_o_lengths, .ref a_o_bodies, .ref a_o_ahead, .ref a_o_behind, .ref a_o_ends, .ref a_o_settings, .ref a_o_shares])), (a_o_letters, eI X 720 o_letters), (a_o_lengths, eI X 60 o_lengths), (a_o_bodies, eI X 60 o_bodies), (a_o_ahead, eI X 60 o_ahead), (a_o_behind, eI X 60 o_behind), (a_o_ends, eZ X 60 o_ends), (a_o_settings, eI X 6 o_settings), (a_o_shares, eI X 8 o_shares)] H := hP
  have hD : va_D A [(a_s, .inr (3, [.int (iI o_count), .ref a_s_letters, .ref a_s_lengths, .ref a_s_bodies, .ref a_s_ahead, .ref a_s_behind, .ref a_s_ends, .ref a_s_settings, .ref a_s_shares])), (a_s_letters, eI X 720 s_letters), (a_s_lengths, eI X 60 s_lengths), (a_s_bodies, eI X 60 s_bodies), (a_s_ahead, eI X 60 s_ahead), (a_s_behind, eI X 60 s_behind), (a_s_ends, eZ X 60 s_ends), (a_s_settings, eI X 6 s_settings), (a_s_shares, eI X 8 s_shares), (a_o, .inr (3, [.int (iI o_count), .ref a_o_letters, .ref a_o_lengths, .ref a_o_bodies, .ref a_o_ahead, .ref a_o_behind, .ref a_o_ends, .ref a_o_settings, .ref a_o_shares])), (a_o_letters, eI X 720 o_letters), (a_o_lengths, eI X 60 o_lengths), (a_o_bodies, eI X 60 o_bodies), (a_o_ahead, eI X 60 o_ahead), (a_o_behind, eI X 60 o_behind), (a_o_ends, eZ X 60 o_ends), (a_o_settings, eI X 6 o_settings), (a_o_shares, eI X 8 o_shares)] := hD
  refine lv_aload_n hx hb dX3_takeWords_8 rfl (lv_at hl 1 rfl) ?_
  refine va_get (D := X.1) (ci := 3) (C := RX3) (T := TX3) (N := 9) hx hb hts hi_X3 hown hK hP 9 rfl rfl 1 (by decide) hf_9 (fun _ h9 => h9) rfl dX3_takeWords_9 ?_
  refine lv_iconst (v := iI 0) hx hb dX3_takeWords_12 rfl ?_
  refine lv_aload_n hx hb dX3_takeWords_13 rfl (lv_at hl 0 rfl) ?_
  refine va_get (D := X.1) (ci := 3) (C := RX3) (T := TX3) (N := 9) hx hb hts hi_X3 hown hK hP 0 rfl rfl 1 (by decide) hf_9 (fun _ h9 => h9) rfl dX3_takeWords_14 ?_
  refine lv_iconst (v := iI 0) hx hb dX3_takeWords_17 rfl ?_
  refine lv_sipush (v := iI 720) hx hb dX3_takeWords_18 (by decide +kernel) ?_
  refine i_cpyIF hx hb (hml.trans hl.1.symm) hown (hts (.methodLink RX3 56 arraycopyName) (by decide +kernel)) (hts (.native arraycopyName) (by decide +kernel)) (hts (.static arraycopyName) (by decide +kernel)) (hts (.initialized "java/lang/System") (by decide +kernel)) hK hP hD hS 10 1 0 rfl rfl rfl (by decide) (by decide) (by decide) (by decide) (by decide) rfl rfl (Nat.le_of_ble_eq_true rfl) (Nat.le_of_ble_eq_true rfl) (Nat.le_of_ble_eq_true rfl) (by decide +kernel) dX3_takeWords_21 rfl (fun H locs hP hD hS => ?_)
  have hP : va_P X.1 vwCl [(a_s, .inr (3, [.int (iI o_count), .ref a_s_letters, .ref a_s_lengths, .ref a_s_bodies, .ref a_s_ahead, .ref a_s_behind, .ref a_s_ends, .ref a_s_settings, .ref a_s_shares])), (a_s_letters, eI X 720 o_letters), (a_s_lengths, eI X 60 s_lengths), (a_s_bodies, eI X 60 s_bodies), (a_s_ahead, eI X 60 s_ahead), (a_s_behind, eI X 60 s_behind), (a_s_ends, eZ X 60 s_ends), (a_s_settings, eI X 6 s_settings), (a_s_shares, eI X 8 s_shares), (a_o, .inr (3, [.int (iI o_count), .ref a_o_letters, .ref a_o_lengths, .ref a_o_bodies, .ref a_o_ahead, .ref a_o_behind, .ref a_o_ends, .ref a_o_settings, .ref a_o_shares])), (a_o_letters, eI X 720 o_letters), (a_o_lengths, eI X 60 o_lengths), (a_o_bodies, eI X 60 o_bodies), (a_o_ahead, eI X 60 o_ahead), (a_o_behind, eI X 60 o_behind), (a_o_ends, eZ X 60 o_ends), (a_o_settings, eI X 6 o_settings), (a_o_shares, eI X 8 o_shares)] H := hP
  have hD : va_D A [(a_s, .inr (3, [.int (iI o_count), .ref a_s_letters, .ref a_s_lengths, .ref a_s_bodies, .ref a_s_ahead, .ref a_s_behind, .ref a_s_ends, .ref a_s_settings, .ref a_s_shares])), (a_s_letters, eI X 720 o_letters), (a_s_lengths, eI X 60 s_lengths), (a_s_bodies, eI X 60 s_bodies), (a_s_ahead, eI X 60 s_ahead), (a_s_behind, eI X 60 s_behind), (a_s_ends, eZ X 60 s_ends), (a_s_settings, eI X 6 s_settings), (a_s_shares, eI X 8 s_shares), (a_o, .inr (3, [.int (iI o_count), .ref a_o_letters, .ref a_o_lengths, .ref a_o_bodies, .ref a_o_ahead, .ref a_o_behind, .ref a_o_ends, .ref a_o_settings, .ref a_o_shares])), (a_o_letters, eI X 720 o_letters), (a_o_lengths, eI X 60 o_lengths), (a_o_bodies, eI X 60 o_bodies), (a_o_ahead, eI X 60 o_ahead), (a_o_behind, eI X 60 o_behind), (a_o_ends, eZ X 60 o_ends), (a_o_settings, eI X 6 o_settings), (a_o_shares, eI X 8 o_shares)] := hD
  refine lv_aload_n hx hb dX3_takeWords_24 rfl (lv_at hl 1 rfl) ?_
  refine va_get (D := X.1) (ci := 3) (C := RX3) (T := TX3) (N := 9) hx hb hts hi_X3 hown hK hP 9 rfl rfl 2 (by decide) hf_15 (fun _ h9 => h9) rfl dX3_takeWords_25 ?_
  refine lv_iconst (v := iI 0) hx hb dX3_takeWords_28 rfl ?_
  refine lv_aload_n hx hb dX3_takeWords_29 rfl (lv_at hl 0 rfl) ?_
  refine va_get (D := X.1) (ci := 3) (C := RX3) (T := TX3) (N := 9) hx hb hts hi_X3 hown hK hP 0 rfl rfl 2 (by decide) hf_15 (fun _ h9 => h9) rfl dX3_takeWords_30 ?_
  refine lv_iconst (v := iI 0) hx hb dX3_takeWords_33 rfl ?_
  refine lv_bipush (v := iI 60) hx hb dX3_takeWords_34 (by decide +kernel) ?_
  refine i_cpyIF hx hb (hml.trans hl.1.symm) hown (hts (.methodLink RX3 56 arraycopyName) (by decide +kernel)) (hts (.native arraycopyName) (by decide +kernel)) (hts (.static arraycopyName) (by decide +kernel)) (hts (.initialized "java/lang/System") (by decide +kernel)) hK hP hD hS 11 2 0 rfl rfl rfl (by decide) (by decide) (by decide) (by decide) (by decide) rfl rfl (Nat.le_of_ble_eq_true rfl) (Nat.le_of_ble_eq_true rfl) (Nat.le_of_ble_eq_true rfl) (by decide +kernel) dX3_takeWords_36 rfl (fun H locs hP hD hS => ?_)
  have hP : va_P X.1 vwCl [(a_s, .inr (3, [.int (iI o_count), .ref a_s_letters, .ref a_s_lengths, .ref a_s_bodies, .ref a_s_ahead, .ref a_s_behind, .ref a_s_ends, .ref a_s_settings, .ref a_s_shares])), (a_s_letters, eI X 720 o_letters), (a_s_lengths, eI X 60 o_lengths), (a_s_bodies, eI X 60 s_bodies), (a_s_ahead, eI X 60 s_ahead), (a_s_behind, eI X 60 s_behind), (a_s_ends, eZ X 60 s_ends), (a_s_settings, eI X 6 s_settings), (a_s_shares, eI X 8 s_shares), (a_o, .inr (3, [.int (iI o_count), .ref a_o_letters, .ref a_o_lengths, .ref a_o_bodies, .ref a_o_ahead, .ref a_o_behind, .ref a_o_ends, .ref a_o_settings, .ref a_o_shares])), (a_o_letters, eI X 720 o_letters), (a_o_lengths, eI X 60 o_lengths), (a_o_bodies, eI X 60 o_bodies), (a_o_ahead, eI X 60 o_ahead), (a_o_behind, eI X 60 o_behind), (a_o_ends, eZ X 60 o_ends), (a_o_settings, eI X 6 o_settings), (a_o_shares, eI X 8 o_shares)] H := hP
  have hD : va_D A [(a_s, .inr (3, [.int (iI o_count), .ref a_s_letters, .ref a_s_lengths, .ref a_s_bodies, .ref a_s_ahead, .ref a_s_behind, .ref a_s_ends, .ref a_s_settings, .ref a_s_shares])), (a_s_letters, eI X 720 o_letters), (a_s_lengths, eI X 60 o_lengths), (a_s_bodies, eI X 60 s_bodies), (a_s_ahead, eI X 60 s_ahead), (a_s_behind, eI X 60 s_behind), (a_s_ends, eZ X 60 s_ends), (a_s_settings, eI X 6 s_settings), (a_s_shares, eI X 8 s_shares), (a_o, .inr (3, [.int (iI o_count), .ref a_o_letters, .ref a_o_lengths, .ref a_o_bodies, .ref a_o_ahead, .ref a_o_behind, .ref a_o_ends, .ref a_o_settings, .ref a_o_shares])), (a_o_letters, eI X 720 o_letters), (a_o_lengths, eI X 60 o_lengths), (a_o_bodies, eI X 60 o_bodies), (a_o_ahead, eI X 60 o_ahead), (a_o_behind, eI X 60 o_behind), (a_o_ends, eZ X 60 o_ends), (a_o_settings, eI X 6 o_settings), (a_o_shares, eI X 8 o_shares)] := hD
  refine lv_aload_n hx hb dX3_takeWords_39 rfl (lv_at hl 1 rfl) ?_
  refine va_get (D := X.1) (ci := 3) (C := RX3) (T := TX3) (N := 9) hx hb hts hi_X3 hown hK hP 9 rfl rfl 3 (by decide) hf_18 (fun _ h9 => h9) rfl dX3_takeWords_40 ?_
  refine lv_iconst (v := iI 0) hx hb dX3_takeWords_43 rfl ?_
  refine lv_aload_n hx hb dX3_takeWords_44 rfl (lv_at hl 0 rfl) ?_
  refine va_get (D := X.1) (ci := 3) (C := RX3) (T := TX3) (N := 9) hx hb hts hi_X3 hown hK hP 0 rfl rfl 3 (by decide) hf_18 (fun _ h9 => h9) rfl dX3_takeWords_45 ?_
  refine lv_iconst (v := iI 0) hx hb dX3_takeWords_48 rfl ?_
  refine lv_bipush (v := iI 60) hx hb dX3_takeWords_49 (by decide +kernel) ?_
  refine i_cpyIF hx hb (hml.trans hl.1.symm) hown (hts (.methodLink RX3 56 arraycopyName) (by decide +kernel)) (hts (.native arraycopyName) (by decide +kernel)) (hts (.static arraycopyName) (by decide +kernel)) (hts (.initialized "java/lang/System") (by decide +kernel)) hK hP hD hS 12 3 0 rfl rfl rfl (by decide) (by decide) (by decide) (by decide) (by decide) rfl rfl (Nat.le_of_ble_eq_true rfl) (Nat.le_of_ble_eq_true rfl) (Nat.le_of_ble_eq_true rfl) (by decide +kernel) dX3_takeWords_51 rfl (fun H locs hP hD hS => ?_)
  have hP : va_P X.1 vwCl [(a_s, .inr (3, [.int (iI o_count), .ref a_s_letters, .ref a_s_lengths, .ref a_s_bodies, .ref a_s_ahead, .ref a_s_behind, .ref a_s_ends, .ref a_s_settings, .ref a_s_shares])), (a_s_letters, eI X 720 o_letters), (a_s_lengths, eI X 60 o_lengths), (a_s_bodies, eI X 60 o_bodies), (a_s_ahead, eI X 60 s_ahead), (a_s_behind, eI X 60 s_behind), (a_s_ends, eZ X 60 s_ends), (a_s_settings, eI X 6 s_settings), (a_s_shares, eI X 8 s_shares), (a_o, .inr (3, [.int (iI o_count), .ref a_o_letters, .ref a_o_lengths, .ref a_o_bodies, .ref a_o_ahead, .ref a_o_behind, .ref a_o_ends, .ref a_o_settings, .ref a_o_shares])), (a_o_letters, eI X 720 o_letters), (a_o_lengths, eI X 60 o_lengths), (a_o_bodies, eI X 60 o_bodies), (a_o_ahead, eI X 60 o_ahead), (a_o_behind, eI X 60 o_behind), (a_o_ends, eZ X 60 o_ends), (a_o_settings, eI X 6 o_settings), (a_o_shares, eI X 8 o_shares)] H := hP
  have hD : va_D A [(a_s, .inr (3, [.int (iI o_count), .ref a_s_letters, .ref a_s_lengths, .ref a_s_bodies, .ref a_s_ahead, .ref a_s_behind, .ref a_s_ends, .ref a_s_settings, .ref a_s_shares])), (a_s_letters, eI X 720 o_letters), (a_s_lengths, eI X 60 o_lengths), (a_s_bodies, eI X 60 o_bodies), (a_s_ahead, eI X 60 s_ahead), (a_s_behind, eI X 60 s_behind), (a_s_ends, eZ X 60 s_ends), (a_s_settings, eI X 6 s_settings), (a_s_shares, eI X 8 s_shares), (a_o, .inr (3, [.int (iI o_count), .ref a_o_letters, .ref a_o_lengths, .ref a_o_bodies, .ref a_o_ahead, .ref a_o_behind, .ref a_o_ends, .ref a_o_settings, .ref a_o_shares])), (a_o_letters, eI X 720 o_letters), (a_o_lengths, eI X 60 o_lengths), (a_o_bodies, eI X 60 o_bodies), (a_o_ahead, eI X 60 o_ahead), (a_o_behind, eI X 60 o_behind), (a_o_ends, eZ X 60 o_ends), (a_o_settings, eI X 6 o_settings), (a_o_shares, eI X 8 o_shares)] := hD
  refine lv_aload_n hx hb dX3_takeWords_54 rfl (lv_at hl 1 rfl) ?_
  refine va_get (D := X.1) (ci := 3) (C := RX3) (T := TX3) (N := 9) hx hb hts hi_X3 hown hK hP 9 rfl rfl 4 (by decide) hf_21 (fun _ h9 => h9) rfl dX3_takeWords_55 ?_
  refine lv_iconst (v := iI 0) hx hb dX3_takeWords_58 rfl ?_
  refine lv_aload_n hx hb dX3_takeWords_59 rfl (lv_at hl 0 rfl) ?_
  refine va_get (D := X.1) (ci := 3) (C := RX3) (T := TX3) (N := 9) hx hb hts hi_X3 hown hK hP 0 rfl rfl 4 (by decide) hf_21 (fun _ h9 => h9) rfl dX3_takeWords_60 ?_
  refine lv_iconst (v := iI 0) hx hb dX3_takeWords_63 rfl ?_
  refine lv_bipush (v := iI 60) hx hb dX3_takeWords_64 (by decide +kernel) ?_
  refine i_cpyIF hx hb (hml.trans hl.1.symm) hown (hts (.methodLink RX3 56 arraycopyName) (by decide +kernel)) (hts (.native arraycopyName) (by decide +kernel)) (hts (.static arraycopyName) (by decide +kernel)) (hts (.initialized "java/lang/System") (by decide +kernel)) hK hP hD hS 13 4 0 rfl rfl rfl (by decide) (by decide) (by decide) (by decide) (by decide) rfl rfl (Nat.le_of_ble_eq_true rfl) (Nat.le_of_ble_eq_true rfl) (Nat.le_of_ble_eq_true rfl) (by decide +kernel) dX3_takeWords_66 rfl (fun H locs hP hD hS => ?_)
  have hP : va_P X.1 vwCl [(a_s, .inr (3, [.int (iI o_count), .ref a_s_letters, .ref a_s_lengths, .ref a_s_bodies, .ref a_s_ahead, .ref a_s_behind, .ref a_s_ends, .ref a_s_settings, .ref a_s_shares])), (a_s_letters, eI X 720 o_letters), (a_s_lengths, eI X 60 o_lengths), (a_s_bodies, eI X 60 o_bodies), (a_s_ahead, eI X 60 o_ahead), (a_s_behind, eI X 60 s_behind), (a_s_ends, eZ X 60 s_ends), (a_s_settings, eI X 6 s_settings), (a_s_shares, eI X 8 s_shares), (a_o, .inr (3, [.int (iI o_count), .ref a_o_letters, .ref a_o_lengths, .ref a_o_bodies, .ref a_o_ahead, .ref a_o_behind, .ref a_o_ends, .ref a_o_settings, .ref a_o_shares])), (a_o_letters, eI X 720 o_letters), (a_o_lengths, eI X 60 o_lengths), (a_o_bodies, eI X 60 o_bodies), (a_o_ahead, eI X 60 o_ahead), (a_o_behind, eI X 60 o_behind), (a_o_ends, eZ X 60 o_ends), (a_o_settings, eI X 6 o_settings), (a_o_shares, eI X 8 o_shares)] H := hP
  have hD : va_D A [(a_s, .inr (3, [.int (iI o_count), .ref a_s_letters, .ref a_s_lengths, .ref a_s_bodies, .ref a_s_ahead, .ref a_s_behind, .ref a_s_ends, .ref a_s_settings, .ref a_s_shares])), (a_s_letters, eI X 720 o_letters), (a_s_lengths, eI X 60 o_lengths), (a_s_bodies, eI X 60 o_bodies), (a_s_ahead, eI X 60 o_ahead), (a_s_behind, eI X 60 s_behind), (a_s_ends, eZ X 60 s_ends), (a_s_settings, eI X 6 s_settings), (a_s_shares, eI X 8 s_shares), (a_o, .inr (3, [.int (iI o_count), .ref a_o_letters, .ref a_o_lengths, .ref a_o_bodies, .ref a_o_ahead, .ref a_o_behind, .ref a_o_ends, .ref a_o_settings, .ref a_o_shares])), (a_o_letters, eI X 720 o_letters), (a_o_lengths, eI X 60 o_lengths), (a_o_bodies, eI X 60 o_bodies), (a_o_ahead, eI X 60 o_ahead), (a_o_behind, eI X 60 o_behind), (a_o_ends, eZ X 60 o_ends), (a_o_settings, eI X 6 o_settings), (a_o_shares, eI X 8 o_shares)] := hD
  refine lv_aload_n hx hb dX3_takeWords_69 rfl (lv_at hl 1 rfl) ?_
  refine va_get (D := X.1) (ci := 3) (C := RX3) (T := TX3) (N := 9) hx hb hts hi_X3 hown hK hP 9 rfl rfl 5 (by decide) hf_24 (fun _ h9 => h9) rfl dX3_takeWords_70 ?_
  refine lv_iconst (v := iI 0) hx hb dX3_takeWords_73 rfl ?_
  refine lv_aload_n hx hb dX3_takeWords_74 rfl (lv_at hl 0 rfl) ?_
  refine va_get (D := X.1) (ci := 3) (C := RX3) (T := TX3) (N := 9) hx hb hts hi_X3 hown hK hP 0 rfl rfl 5 (by decide) hf_24 (fun _ h9 => h9) rfl dX3_takeWords_75 ?_
  refine lv_iconst (v := iI 0) hx hb dX3_takeWords_78 rfl ?_
  refine lv_bipush (v := iI 60) hx hb dX3_takeWords_79 (by decide +kernel) ?_
  refine i_cpyIF hx hb (hml.trans hl.1.symm) hown (hts (.methodLink RX3 56 arraycopyName) (by decide +kernel)) (hts (.native arraycopyName) (by decide +kernel)) (hts (.static arraycopyName) (by decide +kernel)) (hts (.initialized "java/lang/System") (by decide +kernel)) hK hP hD hS 14 5 0 rfl rfl rfl (by decide) (by decide) (by decide) (by decide) (by decide) rfl rfl (Nat.le_of_ble_eq_true rfl) (Nat.le_of_ble_eq_true rfl) (Nat.le_of_ble_eq_true rfl) (by decide +kernel) dX3_takeWords_81 rfl (fun H locs hP hD hS => ?_)
  have hP : va_P X.1 vwCl [(a_s, .inr (3, [.int (iI o_count), .ref a_s_letters, .ref a_s_lengths, .ref a_s_bodies, .ref a_s_ahead, .ref a_s_behind, .ref a_s_ends, .ref a_s_settings, .ref a_s_shares])), (a_s_letters, eI X 720 o_letters), (a_s_lengths, eI X 60 o_lengths), (a_s_bodies, eI X 60 o_bodies), (a_s_ahead, eI X 60 o_ahead), (a_s_behind, eI X 60 o_behind), (a_s_ends, eZ X 60 s_ends), (a_s_settings, eI X 6 s_settings), (a_s_shares, eI X 8 s_shares), (a_o, .inr (3, [.int (iI o_count), .ref a_o_letters, .ref a_o_lengths, .ref a_o_bodies, .ref a_o_ahead, .ref a_o_behind, .ref a_o_ends, .ref a_o_settings, .ref a_o_shares])), (a_o_letters, eI X 720 o_letters), (a_o_lengths, eI X 60 o_lengths), (a_o_bodies, eI X 60 o_bodies), (a_o_ahead, eI X 60 o_ahead), (a_o_behind, eI X 60 o_behind), (a_o_ends, eZ X 60 o_ends), (a_o_settings, eI X 6 o_settings), (a_o_shares, eI X 8 o_shares)] H := hP
  have hD : va_D A [(a_s, .inr (3, [.int (iI o_count), .ref a_s_letters, .ref a_s_lengths, .ref a_s_bodies, .ref a_s_ahead, .ref a_s_behind, .ref a_s_ends, .ref a_s_settings, .ref a_s_shares])), (a_s_letters, eI X 720 o_letters), (a_s_lengths, eI X 60 o_lengths), (a_s_bodies, eI X 60 o_bodies), (a_s_ahead, eI X 60 o_ahead), (a_s_behind, eI X 60 o_behind), (a_s_ends, eZ X 60 s_ends), (a_s_settings, eI X 6 s_settings), (a_s_shares, eI X 8 s_shares), (a_o, .inr (3, [.int (iI o_count), .ref a_o_letters, .ref a_o_lengths, .ref a_o_bodies, .ref a_o_ahead, .ref a_o_behind, .ref a_o_ends, .ref a_o_settings, .ref a_o_shares])), (a_o_letters, eI X 720 o_letters), (a_o_lengths, eI X 60 o_lengths), (a_o_bodies, eI X 60 o_bodies), (a_o_ahead, eI X 60 o_ahead), (a_o_behind, eI X 60 o_behind), (a_o_ends, eZ X 60 o_ends), (a_o_settings, eI X 6 o_settings), (a_o_shares, eI X 8 o_shares)] := hD
  refine lv_aload_n hx hb dX3_takeWords_84 rfl (lv_at hl 1 rfl) ?_
  refine va_get (D := X.1) (ci := 3) (C := RX3) (T := TX3) (N := 9) hx hb hts hi_X3 hown hK hP 9 rfl rfl 6 (by decide) hf_27 (fun _ h9 => h9) rfl dX3_takeWords_85 ?_
  refine lv_iconst (v := iI 0) hx hb dX3_takeWords_88 rfl ?_
  refine lv_aload_n hx hb dX3_takeWords_89 rfl (lv_at hl 0 rfl) ?_
  refine va_get (D := X.1) (ci := 3) (C := RX3) (T := TX3) (N := 9) hx hb hts hi_X3 hown hK hP 0 rfl rfl 6 (by decide) hf_27 (fun _ h9 => h9) rfl dX3_takeWords_90 ?_
  refine lv_iconst (v := iI 0) hx hb dX3_takeWords_93 rfl ?_
  refine lv_bipush (v := iI 60) hx hb dX3_takeWords_94 (by decide +kernel) ?_
  refine i_cpyZF hx hb (hml.trans hl.1.symm) hown (hts (.methodLink RX3 56 arraycopyName) (by decide +kernel)) (hts (.native arraycopyName) (by decide +kernel)) (hts (.static arraycopyName) (by decide +kernel)) (hts (.initialized "java/lang/System") (by decide +kernel)) hK hP hD hS 15 6 1 rfl rfl rfl (by decide) (by decide) (by decide) (by decide) (by decide) rfl rfl h.1 (Nat.le_of_ble_eq_true rfl) (Nat.le_of_ble_eq_true rfl) (Nat.le_of_ble_eq_true rfl) (by decide +kernel) dX3_takeWords_96 rfl (fun H locs hP hD hS => ?_)
  have hP : va_P X.1 vwCl [(a_s, .inr (3, [.int (iI o_count), .ref a_s_letters, .ref a_s_lengths, .ref a_s_bodies, .ref a_s_ahead, .ref a_s_behind, .ref a_s_ends, .ref a_s_settings, .ref a_s_shares])), (a_s_letters, eI X 720 o_letters), (a_s_lengths, eI X 60 o_lengths), (a_s_bodies, eI X 60 o_bodies), (a_s_ahead, eI X 60 o_ahead), (a_s_behind, eI X 60 o_behind), (a_s_ends, eZ X 60 o_ends), (a_s_settings, eI X 6 s_settings), (a_s_shares, eI X 8 s_shares), (a_o, .inr (3, [.int (iI o_count), .ref a_o_letters, .ref a_o_lengths, .ref a_o_bodies, .ref a_o_ahead, .ref a_o_behind, .ref a_o_ends, .ref a_o_settings, .ref a_o_shares])), (a_o_letters, eI X 720 o_letters), (a_o_lengths, eI X 60 o_lengths), (a_o_bodies, eI X 60 o_bodies), (a_o_ahead, eI X 60 o_ahead), (a_o_behind, eI X 60 o_behind), (a_o_ends, eZ X 60 o_ends), (a_o_settings, eI X 6 o_settings), (a_o_shares, eI X 8 o_shares)] H := hP
  have hD : va_D A [(a_s, .inr (3, [.int (iI o_count), .ref a_s_letters, .ref a_s_lengths, .ref a_s_bodies, .ref a_s_ahead, .ref a_s_behind, .ref a_s_ends, .ref a_s_settings, .ref a_s_shares])), (a_s_letters, eI X 720 o_letters), (a_s_lengths, eI X 60 o_lengths), (a_s_bodies, eI X 60 o_bodies), (a_s_ahead, eI X 60 o_ahead), (a_s_behind, eI X 60 o_behind), (a_s_ends, eZ X 60 o_ends), (a_s_settings, eI X 6 s_settings), (a_s_shares, eI X 8 s_shares), (a_o, .inr (3, [.int (iI o_count), .ref a_o_letters, .ref a_o_lengths, .ref a_o_bodies, .ref a_o_ahead, .ref a_o_behind, .ref a_o_ends, .ref a_o_settings, .ref a_o_shares])), (a_o_letters, eI X 720 o_letters), (a_o_lengths, eI X 60 o_lengths), (a_o_bodies, eI X 60 o_bodies), (a_o_ahead, eI X 60 o_ahead), (a_o_behind, eI X 60 o_behind), (a_o_ends, eZ X 60 o_ends), (a_o_settings, eI X 6 o_settings), (a_o_shares, eI X 8 o_shares)] := hD
  have h := h.2
  exact hend _ _ _ _ _ _ (o_count, o_letters, o_lengths, o_bodies, o_ahead, o_behind, o_ends) hP hD hS h (Nat.le_of_ble_eq_true rfl) (Nat.le_of_ble_eq_true rfl) dX3_takeWords_99
abbrev rmX3_takeAll : Room := { frames := 2, cells := 0, slots := 0, locals := 61 }
set_option maxHeartbeats 4000000 in
set_option maxRecDepth 100000 in
theorem kX3_takeAll (l : Launch) (X : XD) (a_s a_s_letters a_s_lengths a_s_bodies a_s_ahead a_s_behind a_s_ends a_s_settings a_s_shares a_o a_o_letters a_o_lengths a_o_bodies a_o_ahead a_o_behind a_o_ends a_o_settings a_o_shares : Nat) (s_count : Int) (s_letters : Nat → Int) (s_lengths : Nat → Int) (s_bodies : Nat → Int) (s_ahead : Nat → Int) (s_behind : Nat → Int) (s_ends : Nat → Int) (s_settings : Nat → Int) (s_shares : Nat → Int) (o_count : Int) (o_letters : Nat → Int) (o_lengths : Nat → Int) (o_bodies : Nat → Int) (o_ahead : Nat → Int) (o_behind : Nat → Int) (o_ends : Nat → Int) (o_settings : Nat → Int) (o_shares : Nat → Int) (post : Int → (Nat → Int) → (Nat → Int) → (Nat → Int) → (Nat → Int) → (Nat → Int) → (Nat → Int) → (Nat → Int) → (Nat → Int) → Prop) (h : wpX3_takeAll s_count s_letters s_lengths s_bodies s_ahead s_behind s_ends s_settings s_shares o_count o_letters o_lengths o_bodies o_ahead o_behind o_ends o_settings o_shares post) : MCv l yX3_takeAll wsX3_takeAll rmX3_takeAll X [.ref a_s, .ref a_o] [(a_s, .inr (3, [.int (iI s_count), .ref a_s_letters, .ref a_s_lengths, .ref a_s_bodies, .ref a_s_ahead, .ref a_s_behind, .ref a_s_ends, .ref a_s_settings, .ref a_s_shares])), (a_s_letters, eI X 720 s_letters), (a_s_lengths, eI X 60 s_lengths), (a_s_bodies, eI X 60 s_bodies), (a_s_ahead, eI X 60 s_ahead), (a_s_behind, eI X 60 s_behind), (a_s_ends, eZ X 60 s_ends), (a_s_settings, eI X 6 s_settings), (a_s_shares, eI X 8 s_shares), (a_o, .inr (3, [.int (iI o_count), .ref a_o_letters, .ref a_o_lengths, .ref a_o_bodies, .ref a_o_ahead, .ref a_o_behind, .ref a_o_ends, .ref a_o_settings, .ref a_o_shares])), (a_o_letters, eI X 720 o_letters), (a_o_lengths, eI X 60 o_lengths), (a_o_bodies, eI X 60 o_bodies), (a_o_ahead, eI X 60 o_ahead), (a_o_behind, eI X 60 o_behind), (a_o_ends, eZ X 60 o_ends), (a_o_settings, eI X 6 o_settings), (a_o_shares, eI X 8 o_shares)] (S := Int × (Nat → Int) × (Nat → Int) × (Nat → Int) × (Nat → Int) × (Nat → Int) × (Nat → Int) × (Nat → Int) × (Nat → Int)) (fun u => [(a_s, .inr (3, [.int (iI u.1), .ref a_s_letters, .ref a_s_lengths, .ref a_s_bodies, .ref a_s_ahead, .ref a_s_behind, .ref a_s_ends, .ref a_s_settings, .ref a_s_shares])), (a_s_letters, eI X 720 u.2.1), (a_s_lengths, eI X 60 u.2.2.1), (a_s_bodies, eI X 60 u.2.2.2.1), (a_s_ahead, eI X 60 u.2.2.2.2.1), (a_s_behind, eI X 60 u.2.2.2.2.2.1), (a_s_ends, eZ X 60 u.2.2.2.2.2.2.1), (a_s_settings, eI X 6 u.2.2.2.2.2.2.2.1), (a_s_shares, eI X 8 u.2.2.2.2.2.2.2.2), (a_o, .inr (3, [.int (iI o_count), .ref a_o_letters, .ref a_o_lengths, .ref a_o_bodies, .ref a_o_ahead, .ref a_o_behind, .ref a_o_ends, .ref a_o_settings, .ref a_o_shares])), (a_o_letters, eI X 720 o_letters), (a_o_lengths, eI X 60 o_lengths), (a_o_bodies, eI X 60 o_bodies), (a_o_ahead, eI X 60 o_ahead), (a_o_behind, eI X 60 o_behind), (a_o_ends, eZ X 60 o_ends), (a_o_settings, eI X 6 o_settings), (a_o_shares, eI X 8 o_shares)]) (fun u => post u.1 u.2.1 u.2.2.1 u.2.2.2.1 u.2.2.2.2.1 u.2.2.2.2.2.1 u.2.2.2.2.2.2.1 u.2.2.2.2.2.2.2.1 u.2.2.2.2.2.2.2.2) 0 0 := by
  refine MCv.of (cc := cX3_takeAll) (maxL := 2) (by decide +kernel) rfl rfl ?_
  intro p e s m args below meth c A ls Q hE0 hP hD hS hl hend
  obtain ⟨hx, hb, hr, hml, hlocks, hown, hts, hK, hE, hA, hnm⟩ := hE0
  have hl : lv_has ls 2 [(0, .ref a_s), (1, .ref a_o)] := hl
  have hi_X3 : ∀ w ∈ wsX30, w ∈ wsX3_takeAll := by decide +kernel
  have hf_39 := hts (.fieldLink RX3 39 "LentMargins$Script" "settings" "[I") (by decide +kernel)
  have hf_45 := hts (.fieldLink RX3 45 "LentMargins$Script" "shares" "[I") (by decide +kernel)
  refine lv_aload_n hx hb dX3_takeAll_0 rfl (lv_at hl 0 rfl) ?_
  refine lv_aload_n hx hb dX3_takeAll_1 rfl (lv_at hl 1 rfl) ?_
  refine k_v (isC := [0, 1, 2, 3, 4, 5, 6, 7, 8, 9, 10, 11, 12, 13, 14, 15, 16, 17]) (isR := []) (va_runV (As := [.ref a_o]) (rest := []) ⟨hx, hb, hml, hown, hts⟩ (kX3_takeWords l X a_s a_s_letters a_s_lengths a_s_bodies a_s_ahead a_s_behind a_s_ends a_s_settings a_s_shares a_o a_o_letters a_o_lengths a_o_bodies a_o_ahead a_o_behind a_o_ends a_o_settings a_o_shares s_count s_letters s_lengths s_bodies s_ahead s_behind s_ends s_settings s_shares o_count o_letters o_lengths o_bodies o_ahead o_behind o_ends o_settings o_shares _ h _) (cwV 1 hts gX3_takeAll_X3_takeWords rfl rfl rfl (by decide +kernel) ⟨(Nat.le_of_ble_eq_true rfl), (Nat.le_of_ble_eq_true rfl)⟩) ⟨pre_blind, va_recv hK hP (ci := 3) (q0 := 0) rfl rfl, pre_cut hE hK hA hP hD hS (isC := [0, 1, 2, 3, 4, 5, 6, 7, 8, 9, 10, 11, 12, 13, 14, 15, 16, 17]) rfl rfl⟩ rfl rfl hl.1 rfl (lv_room (Nat.le_of_ble_eq_true rfl)) dX3_takeAll_2 ⟨(Nat.le_of_ble_eq_true rfl), (Nat.le_of_ble_eq_true rfl)⟩) hA hP hD hS rfl rfl rfl (by decide +kernel) (fun u1 H locs h hP hD hS => ?_)
  obtain ⟨s_count_1, s_letters_1, s_lengths_1, s_bodies_1, s_ahead_1, s_behind_1, s_ends_1⟩ := u1
  have hP := hP.sub (ws' := [(a_s, .inr (3, [.int (iI s_count_1), .ref a_s_letters, .ref a_s_lengths, .ref a_s_bodies, .ref a_s_ahead, .ref a_s_behind, .ref a_s_ends, .ref a_s_settings, .ref a_s_shares])), (a_s_letters, eI X 720 s_letters_1), (a_s_lengths, eI X 60 s_lengths_1), (a_s_bodies, eI X 60 s_bodies_1), (a_s_ahead, eI X 60 s_ahead_1), (a_s_behind, eI X 60 s_behind_1), (a_s_ends, eZ X 60 s_ends_1), (a_s_settings, eI X 6 s_settings), (a_s_shares, eI X 8 s_shares), (a_o, .inr (3, [.int (iI o_count), .ref a_o_letters, .ref a_o_lengths, .ref a_o_bodies, .ref a_o_ahead, .ref a_o_behind, .ref a_o_ends, .ref a_o_settings, .ref a_o_shares])), (a_o_letters, eI X 720 o_letters), (a_o_lengths, eI X 60 o_lengths), (a_o_bodies, eI X 60 o_bodies), (a_o_ahead, eI X 60 o_ahead), (a_o_behind, eI X 60 o_behind), (a_o_ends, eZ X 60 o_ends), (a_o_settings, eI X 6 o_settings), (a_o_shares, eI X 8 o_shares)]) [0, 1, 2, 3, 4, 5, 6, 7, 8, 9, 10, 11, 12, 13, 14, 15, 16, 17] rfl
  have hD := hD.sub (ws' := [(a_s, .inr (3, [.int (iI s_count_1), .ref a_s_letters, .ref a_s_lengths, .ref a_s_bodies, .ref a_s_ahead, .ref a_s_behind, .ref a_s_ends, .ref a_s_settings, .ref a_s_shares])), (a_s_letters, eI X 720 s_letters_1), (a_s_lengths, eI X 60 s_lengths_1), (a_s_bodies, eI X 60 s_bodies_1), (a_s_ahead, eI X 60 s_ahead_1), (a_s_behind, eI X 60 s_behind_1), (a_s_ends, eZ X 60 s_ends_1), (a_s_settings, eI X 6 s_settings), (a_s_shares, eI X 8 s_shares), (a_o, .inr (3, [.int (iI o_count), .ref a_o_letters, .ref a_o_lengths, .ref a_o_bodies, .ref a_o_ahead, .ref a_o_behind, .ref a_o_ends, .ref a_o_settings, .ref a_o_shares])), (a_o_letters, eI X 720 o_letters), (a_o_lengths, eI X 60 o_lengths), (a_o_bodies, eI X 60 o_bodies), (a_o_ahead, eI X 60 o_ahead), (a_o_behind, eI X 60 o_behind), (a_o_ends, eZ X 60 o_ends), (a_o_settings, eI X 6 o_settings), (a_o_shares, eI X 8 o_shares)]) [0, 1, 2, 3, 4, 5, 6, 7, 8, 9, 10, 11, 12, 13, 14, 15, 16, 17] (by decide +kernel) rfl
  refine lv_aload_n hx hb dX3_takeAll_5 rfl (lv_at hl 1 rfl) ?_
  refine va_get (D := X.1) (ci := 3) (C := RX3) (T := TX3) (N := 9) hx hb hts hi_X3 hown hK hP 9 rfl rfl 7 (by decide) hf_39 (fun _ h9 => h9) rfl dX3_takeAll_6 ?_
  refine lv_iconst (v := iI 0) hx hb dX3_takeAll_9 rfl ?_
  refine lv_aload_n hx hb dX3_takeAll_10 rfl (lv_at hl 0 rfl) ?_
  refine va_get (D := X.1) (ci := 3) (C := RX3) (T := TX3) (N := 9) hx hb hts hi_X3 hown hK hP 0 rfl rfl 7 (by decide) hf_39 (fun _ h9 => h9) rfl dX3_takeAll_11 ?_
  refine lv_iconst (v := iI 0) hx hb dX3_takeAll_14 rfl ?_
  refine lv_bipush (v := iI 6) hx hb dX3_takeAll_15 (by decide +kernel) ?_
  refine i_cpyIF hx hb (hml.trans hl.1.symm) hown (hts (.methodLink RX3 56 arraycopyName) (by decide +kernel)) (hts (.native arraycopyName) (by decide +kernel)) (hts (.static arraycopyName) (by decide +kernel)) (hts (.initialized "java/lang/System") (by decide +kernel)) hK hP hD hS 16 7 0 rfl rfl rfl (by decide) (by decide) (by decide) (by decide) (by decide) rfl rfl (Nat.le_of_ble_eq_true rfl) (Nat.le_of_ble_eq_true rfl) (Nat.le_of_ble_eq_true rfl) (by decide +kernel) dX3_takeAll_17 rfl (fun H locs hP hD hS => ?_)
  have hP : va_P X.1 vwCl [(a_s, .inr (3, [.int (iI s_count_1), .ref a_s_letters, .ref a_s_lengths, .ref a_s_bodies, .ref a_s_ahead, .ref a_s_behind, .ref a_s_ends, .ref a_s_settings, .ref a_s_shares])), (a_s_letters, eI X 720 s_letters_1), (a_s_lengths, eI X 60 s_lengths_1), (a_s_bodies, eI X 60 s_bodies_1), (a_s_ahead, eI X 60 s_ahead_1), (a_s_behind, eI X 60 s_behind_1), (a_s_ends, eZ X 60 s_ends_1), (a_s_settings, eI X 6 o_settings), (a_s_shares, eI X 8 s_shares), (a_o, .inr (3, [.int (iI o_count), .ref a_o_letters, .ref a_o_lengths, .ref a_o_bodies, .ref a_o_ahead, .ref a_o_behind, .ref a_o_ends, .ref a_o_settings, .ref a_o_shares])), (a_o_letters, eI X 720 o_letters), (a_o_lengths, eI X 60 o_lengths), (a_o_bodies, eI X 60 o_bodies), (a_o_ahead, eI X 60 o_ahead), (a_o_behind, eI X 60 o_behind), (a_o_ends, eZ X 60 o_ends), (a_o_settings, eI X 6 o_settings), (a_o_shares, eI X 8 o_shares)] H := hP
  have hD : va_D A [(a_s, .inr (3, [.int (iI s_count_1), .ref a_s_letters, .ref a_s_lengths, .ref a_s_bodies, .ref a_s_ahead, .ref a_s_behind, .ref a_s_ends, .ref a_s_settings, .ref a_s_shares])), (a_s_letters, eI X 720 s_letters_1), (a_s_lengths, eI X 60 s_lengths_1), (a_s_bodies, eI X 60 s_bodies_1), (a_s_ahead, eI X 60 s_ahead_1), (a_s_behind, eI X 60 s_behind_1), (a_s_ends, eZ X 60 s_ends_1), (a_s_settings, eI X 6 o_settings), (a_s_shares, eI X 8 s_shares), (a_o, .inr (3, [.int (iI o_count), .ref a_o_letters, .ref a_o_lengths, .ref a_o_bodies, .ref a_o_ahead, .ref a_o_behind, .ref a_o_ends, .ref a_o_settings, .ref a_o_shares])), (a_o_letters, eI X 720 o_letters), (a_o_lengths, eI X 60 o_lengths), (a_o_bodies, eI X 60 o_bodies), (a_o_ahead, eI X 60 o_ahead), (a_o_behind, eI X 60 o_behind), (a_o_ends, eZ X 60 o_ends), (a_o_settings, eI X 6 o_settings), (a_o_shares, eI X 8 o_shares)] := hD
  refine lv_aload_n hx hb dX3_takeAll_20 rfl (lv_at hl 1 rfl) ?_
  refine va_get (D := X.1) (ci := 3) (C := RX3) (T := TX3) (N := 9) hx hb hts hi_X3 hown hK hP 9 rfl rfl 8 (by decide) hf_45 (fun _ h9 => h9) rfl dX3_takeAll_21 ?_
  refine lv_iconst (v := iI 0) hx hb dX3_takeAll_24 rfl ?_
  refine lv_aload_n hx hb dX3_takeAll_25 rfl (lv_at hl 0 rfl) ?_
  refine va_get (D := X.1) (ci := 3) (C := RX3) (T := TX3) (N := 9) hx hb hts hi_X3 hown hK hP 0 rfl rfl 8 (by decide) hf_45 (fun _ h9 => h9) rfl dX3_takeAll_26 ?_
  refine lv_iconst (v := iI 0) hx hb dX3_takeAll_29 rfl ?_
  refine lv_bipush (v := iI 8) hx hb dX3_takeAll_30 (by decide +kernel) ?_
  refine i_cpyIF hx hb (hml.trans hl.1.symm) hown (hts (.methodLink RX3 56 arraycopyName) (by decide +kernel)) (hts (.native arraycopyName) (by decide +kernel)) (hts (.static arraycopyName) (by decide +kernel)) (hts (.initialized "java/lang/System") (by decide +kernel)) hK hP hD hS 17 8 0 rfl rfl rfl (by decide) (by decide) (by decide) (by decide) (by decide) rfl rfl (Nat.le_of_ble_eq_true rfl) (Nat.le_of_ble_eq_true rfl) (Nat.le_of_ble_eq_true rfl) (by decide +kernel) dX3_takeAll_32 rfl (fun H locs hP hD hS => ?_)
  have hP : va_P X.1 vwCl [(a_s, .inr (3, [.int (iI s_count_1), .ref a_s_letters, .ref a_s_lengths, .ref a_s_bodies, .ref a_s_ahead, .ref a_s_behind, .ref a_s_ends, .ref a_s_settings, .ref a_s_shares])), (a_s_letters, eI X 720 s_letters_1), (a_s_lengths, eI X 60 s_lengths_1), (a_s_bodies, eI X 60 s_bodies_1), (a_s_ahead, eI X 60 s_ahead_1), (a_s_behind, eI X 60 s_behind_1), (a_s_ends, eZ X 60 s_ends_1), (a_s_settings, eI X 6 o_settings), (a_s_shares, eI X 8 o_shares), (a_o, .inr (3, [.int (iI o_count), .ref a_o_letters, .ref a_o_lengths, .ref a_o_bodies, .ref a_o_ahead, .ref a_o_behind, .ref a_o_ends, .ref a_o_settings, .ref a_o_shares])), (a_o_letters, eI X 720 o_letters), (a_o_lengths, eI X 60 o_lengths), (a_o_bodies, eI X 60 o_bodies), (a_o_ahead, eI X 60 o_ahead), (a_o_behind, eI X 60 o_behind), (a_o_ends, eZ X 60 o_ends), (a_o_settings, eI X 6 o_settings), (a_o_shares, eI X 8 o_shares)] H := hP
  have hD : va_D A [(a_s, .inr (3, [.int (iI s_count_1), .ref a_s_letters, .ref a_s_lengths, .ref a_s_bodies, .ref a_s_ahead, .ref a_s_behind, .ref a_s_ends, .ref a_s_settings, .ref a_s_shares])), (a_s_letters, eI X 720 s_letters_1), (a_s_lengths, eI X 60 s_lengths_1), (a_s_bodies, eI X 60 s_bodies_1), (a_s_ahead, eI X 60 s_ahead_1), (a_s_behind, eI X 60 s_behind_1), (a_s_ends, eZ X 60 s_ends_1), (a_s_settings, eI X 6 o_settings), (a_s_shares, eI X 8 o_shares), (a_o, .inr (3, [.int (iI o_count), .ref a_o_letters, .ref a_o_lengths, .ref a_o_bodies, .ref a_o_ahead, .ref a_o_behind, .ref a_o_ends, .ref a_o_settings, .ref a_o_shares])), (a_o_letters, eI X 720 o_letters), (a_o_lengths, eI X 60 o_lengths), (a_o_bodies, eI X 60 o_bodies), (a_o_ahead, eI X 60 o_ahead), (a_o_behind, eI X 60 o_behind), (a_o_ends, eZ X 60 o_ends), (a_o_settings, eI X 6 o_settings), (a_o_shares, eI X 8 o_shares)] := hD
  exact hend _ _ _ _ _ _ (s_count_1, s_letters_1, s_lengths_1, s_bodies_1, s_ahead_1, s_behind_1, s_ends_1, o_settings, o_shares) hP hD hS h (Nat.le_of_ble_eq_true rfl) (Nat.le_of_ble_eq_true rfl) dX3_takeAll_35

