theorem lineIs_ext {lv lv1 lv2 : Nat → Int} {L : Nat} {P first words nat own left right paid debt wide ends : Int} (h1 : ∀ k : Nat, k < 12 * L ∨ 12 * L + 12 ≤ k → lv1 k = lv k) (h2 : ∀ k : Nat, k < 12 * L ∨ 12 * L + 12 ≤ k → lv2 k = lv k) (l1 : lineIs lv1 L P first words nat own left right paid debt wide ends) (l2 : lineIs lv2 L P first words nat own left right paid debt wide ends) : lv2 = lv1 := by
  funext j
  by_cases cj : 12 * L ≤ j ∧ j < 12 * L + 12
  · obtain ⟨i, hi, rfl⟩ : ∃ i : Nat, i < 12 ∧ j = 12 * L + i := ⟨j - 12 * L, by omega, by omega⟩
    obtain ⟨m0, m1, m2, m3, m4, m5, m6, m7, m8, m9, m10, m11⟩ := l2
    obtain ⟨p0, p1, p2, p3, p4, p5, p6, p7, p8, p9, p10, p11⟩ := l1
    have hi2 : i = 0 ∨ i = 1 ∨ i = 2 ∨ i = 3 ∨ i = 4 ∨ i = 5 ∨ i = 6 ∨ i = 7 ∨ i = 8 ∨ i = 9 ∨ i = 10 ∨ i = 11 := by omega
    rcases hi2 with rfl | rfl | rfl | rfl | rfl | rfl | rfl | rfl | rfl | rfl | rfl | rfl
    · exact m0.trans p0.symm
    · exact m1.trans p1.symm
    · exact m2.trans p2.symm
    · exact m3.trans p3.symm
    · exact m4.trans p4.symm
    · exact m5.trans p5.symm
    · exact m6.trans p6.symm
    · exact m7.trans p7.symm
    · exact m8.trans p8.symm
    · exact m9.trans p9.symm
    · exact m10.trans p10.symm
    · exact m11.trans p11.symm
  · rw [h1 j (by omega), h2 j (by omega)]
theorem mrowIs_ext {lv lv1 lv2 : Nat → Int} {L : Nat} {P first debt own pays dl : Int} {r : RW} (h1 : mout lv lv1 L) (h2 : mout lv lv2 L) (l1 : mrowIs lv1 L P first debt own pays dl r) (l2 : mrowIs lv2 L P first debt own pays dl r) : lv2 = lv1 := by
  funext j
  by_cases cj : 10 * L ≤ j ∧ j < 10 * L + 10
  · obtain ⟨i, hi, rfl⟩ : ∃ i : Nat, i < 10 ∧ j = 10 * L + i := ⟨j - 10 * L, by omega, by omega⟩
    obtain ⟨m0, m1, m2, m3, m4, m5, m6, m7, m8, m9⟩ := l2
    obtain ⟨p0, p1, p2, p3, p4, p5, p6, p7, p8, p9⟩ := l1
    have hi2 : i = 0 ∨ i = 1 ∨ i = 2 ∨ i = 3 ∨ i = 4 ∨ i = 5 ∨ i = 6 ∨ i = 7 ∨ i = 8 ∨ i = 9 := by omega
    rcases hi2 with rfl | rfl | rfl | rfl | rfl | rfl | rfl | rfl | rfl | rfl
    · exact m0.trans p0.symm
    · exact m1.trans p1.symm
    · exact m2.trans p2.symm
    · exact m3.trans p3.symm
    · exact m4.trans p4.symm
    · exact m5.trans p5.symm
    · exact m6.trans p6.symm
    · exact m7.trans p7.symm
    · exact m8.trans p8.symm
    · exact m9.trans p9.symm
  · rw [h1 j (by omega), h2 j (by omega)]
def blk (f g : Nat → Int) (b n : Nat) : Nat → Int := fun j => if b ≤ j ∧ j < b + n then g (j - b) else f j
theorem blk_in {f g : Nat → Int} {b n i : Nat} (h : i < n) : blk f g b n (b + i) = g i := by
  unfold blk
  rw [if_pos (by omega), Nat.add_sub_cancel_left]
theorem blk_out {f g : Nat → Int} {b n j : Nat} (h : j < b ∨ b + n ≤ j) : blk f g b n j = f j := if_neg (by omega)
theorem line_ex (lv : Nat → Int) (L : Nat) (P first words nat own left right paid debt wide ends : Int) : ∃ lv1 : Nat → Int, (∀ k : Nat, k < 12 * L ∨ 12 * L + 12 ≤ k → lv1 k = lv k) ∧ lineIs lv1 L P first words nat own left right paid debt wide ends := by
  refine ⟨blk lv (tb [P, first, words, nat, own, left, right, paid, debt, wide, ends, (if wide = 0 then own + (left + right) - nat else 0)]) (12 * L) 12, fun k hk => blk_out hk, ?_⟩
  exact ⟨blk_in (i := 0) (by omega), blk_in (i := 1) (by omega), blk_in (i := 2) (by omega), blk_in (i := 3) (by omega), blk_in (i := 4) (by omega), blk_in (i := 5) (by omega), blk_in (i := 6) (by omega), blk_in (i := 7) (by omega), blk_in (i := 8) (by omega), blk_in (i := 9) (by omega), blk_in (i := 10) (by omega), blk_in (i := 11) (by omega)⟩
theorem mrow_ex (line : Nat → Int) (L : Nat) (P first debt own pays dl : Int) (r : RW) : ∃ line1 : Nat → Int, mout line line1 L ∧ mrowIs line1 L P first debt own pays dl r := by
  refine ⟨blk line (tb [P, first, r.1, r.2.1, own, r.2.2.1, r.2.2.2.1, pays, dl + (r.2.2.1 + r.2.2.2.1), r.2.2.2.2]) (10 * L) 10, fun k hk => blk_out hk, ?_⟩
  exact ⟨blk_in (i := 0) (by omega), blk_in (i := 1) (by omega), blk_in (i := 2) (by omega), blk_in (i := 3) (by omega), blk_in (i := 4) (by omega), blk_in (i := 5) (by omega), blk_in (i := 6) (by omega), blk_in (i := 7) (by omega), blk_in (i := 8) (by omega), blk_in (i := 9) (by omega)⟩
theorem lo_ex (lo : Nat → Int) (L : Int) (a b : Int) : ∃ lo1 : Nat → Int, ∀ w : Nat, lo1 w = if a ≤ (w : Int) ∧ (w : Int) < b then L else lo w := ⟨_, fun _ => rfl⟩
