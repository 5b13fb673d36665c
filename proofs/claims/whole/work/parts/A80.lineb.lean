/-! A line's bytes, asked and mixed. -/
section LineB
variable {n : Int} {lt ln bd ah bh en st sh ms : Nat → Int} {L P : Nat} {lv pv lo : Nat → Int}
theorem byte_val (R : RS n lt ln bd ah bh en st sh ms) {l : Nat} (hl : l < 60) (hF : LF n en lv l) {idx : Int} (h0 : 0 ≤ idx) (h1 : idx ≤ 2147483647) :
    ∃ v : Int, -1 ≤ v ∧ v ≤ 200 ∧ (v = -1 ↔ sr (wlen ln ah bh) (lv (12 * l + 1)).toNat (lv (12 * l + 2)).toNat + lv (12 * l + 2) - 1 ≤ idx) ∧
      (∀ post : Int → Prop, post v → wpX5_writtenByte n lt ln ah bh lv (l : Int) idx post) ∧
      (∀ line : Nat → Int, LR lv line l → ∀ post : Int → Prop, post v → wpX6_byteAt ms line (l : Int) idx post) := by
  obtain ⟨f1, f2, f3, -⟩ := hF
  obtain ⟨first, e1⟩ := Int.eq_ofNat_of_zero_le f1
  obtain ⟨words, e2⟩ := Int.eq_ofNat_of_zero_le (show 0 ≤ lv (12 * l + 2) by omega)
  obtain ⟨v, d1, d2, d3, d4, d5⟩ := byteLoop R hl (first := first) (words := words) (by omega) words 0 idx (by omega) h0 h1
  refine ⟨v, d1, d2, ?_, fun post hp => ?_, fun line hR post hp => ?_⟩
  · rw [e1, e2, Int.toNat_natCast, Int.toNat_natCast]
    exact d3
  · unfold wpX5_writtenByte
    refine q1_lv 1 hl (by omega) (q1_lv 2 hl (by omega) ?_)
    rw [e1, e2]
    exact ⟨words + 1, d4 lv post hp⟩
  · unfold wpX6_byteAt
    rw [show (10 * (l : Int) + 1).toNat = 10 * l + 1 by omega, hR 1 (by omega), e1]
    exact ⟨by omega, by omega, words + 1, d5 line ((hR 2 (by omega)).trans e2) post hp⟩
theorem o_lineByte (R : RS n lt ln bd ah bh en st sh ms) (Y : Lay n en ms (tS st) L P lv pv lo) {p1 p2 th l0 p0 me ml mr : Int} {line0 page0 : Nat → Int} (h1 : inR p1) (h2 : inR p2) :
    OutM [xIX, xIA] (fun xp post => wpX5_lineByte n lt ln ah bh (L : Int) lv p1 p2 xp post) (fun Q => wpX6_lineByte th l0 p0 me ml mr ms line0 page0 p1 p2 Q) := by
  have hn := R.2.2.1
  have hLn := Y.1.1
  unfold OutM wpX5_lineByte wpX6_lineByte wpX6_lineByte_16 wpX6_tells wpX6_fails
  by_cases c1 : 0 ≤ p1 ∧ p1 < (L : Int)
  · obtain ⟨w, hw⟩ := Int.eq_ofNat_of_zero_le c1.1
    subst hw
    have hF := Y.1.2.2.1 w (by omega)
    by_cases c2 : 0 ≤ p2
    · obtain ⟨v, d1, d2, d3, d4, d5⟩ := byte_val R (l := w) (by omega) hF c2 h2.2
      exact Or.inl ⟨v, fun xp post hp => q5_ci h1 (inR_of (by omega)) (fun _ => ⟨h2, fun _ => d4 _ hp, fun z => absurd c2 z⟩) (fun z => absurd c1 z), fun Q hQ => q6_makes R Y (fun line page hl hpg => ⟨h1, fun z => absurd z (by omega), fun _ => ⟨h1, inR_of (by omega), fun _ => ⟨h2, fun _ => d5 line (hl w (by omega)) _ (hQ _ _ _ _ _ _ _), fun z => absurd c2 z⟩, fun z => absurd c1.2 z⟩⟩)⟩
    · exact Or.inr ⟨1, xIA, 0, rfl, fun xp post hp => q5_ci h1 (inR_of (by omega)) (fun _ => ⟨h2, fun z => absurd z c2, fun _ => hp⟩) (fun z => absurd c1 z), fun Q hQ => q6_makes R Y (fun line page hl hpg => ⟨h1, fun z => absurd z (by omega), fun _ => ⟨h1, inR_of (by omega), fun _ => ⟨h2, fun z => absurd z c2, fun _ => hQ _ _ _ _ _ _ _⟩, fun z => absurd c1.2 z⟩⟩)⟩
  · exact Or.inr ⟨0, xIX, 0, rfl, fun xp post hp => q5_ci h1 (inR_of (by omega)) (fun z => absurd z c1) (fun _ => hp), fun Q hQ => q6_makes R Y (fun line page hl hpg => ⟨h1, fun _ => hQ _ _ _ _ _ _ _, fun z => ⟨h1, inR_of (by omega), fun z2 => absurd ⟨by omega, z2⟩ c1, fun _ => hQ _ _ _ _ _ _ _⟩⟩)⟩
theorem q5_writtenLength (R : RS n lt ln bd ah bh en st sh ms) {l : Nat} (hl : l < 60) (hF : LF n en lv l) {post : Int → Prop} (h : post (sr (wlen ln ah bh) (lv (12 * l + 1)).toNat (lv (12 * l + 2)).toNat + lv (12 * l + 2) - 1)) : wpX5_writtenLength n ln ah bh lv (l : Int) post := by
  have hn := R.2.2.1
  obtain ⟨f1, f2, f3, -⟩ := hF
  obtain ⟨first, e1⟩ := Int.eq_ofNat_of_zero_le f1
  obtain ⟨words, e2⟩ := Int.eq_ofNat_of_zero_le (show 0 ≤ lv (12 * l + 2) by omega)
  rw [e1, e2, Int.toNat_natCast, Int.toNat_natCast] at h
  unfold wpX5_writtenLength
  refine q1_lv 1 hl (by omega) (q1_lv 2 hl (by omega) ?_)
  rw [e1, e2]
  have ew : (if 0 < (words : Int) - 1 then (words : Int) - 1 else 0) = (words : Int) - 1 := by split <;> omega
  rw [ew]
  refine ⟨inR_of (by omega), words + 1, ?_⟩
  have key : ∀ (f i : Nat) (a : Int), i + f = words → a = sr (wlen ln ah bh) first i + words - 1 → wpX5_writtenLength_32 n ln ah bh lv post (f + 1) (first : Int) (words : Int) a (i : Int) := by
    intro f
    induction f with
    | zero =>
      intro i a hi ha
      have e : i = words := by omega
      rw [wpX5_writtenLength_32]
      rw [e] at ha
      rw [← ha] at h
      exact ⟨inR_of (by omega), inR_of (by omega), fun _ => h, fun z => absurd (by omega) z⟩
    | succ f ih =>
      intro i a hi ha
      have hw : ((first + i : Nat) : Int) < n := by omega
      obtain ⟨b1, b2, b3, b4, b5, b6, b7, b8, b9, b10, -⟩ := R.2.2.2.2.2.2.2 (first + i) hw
      rw [wpX5_writtenLength_32]
      refine ⟨inR_of (by omega), inR_of (by omega), fun z => absurd z (by omega), fun _ => ?_⟩
      rw [show (first : Int) + (i : Int) = ((first + i : Nat) : Int) by omega]
      refine q3_writtenLength (by omega) hw hn ⟨b7, Int.le_trans b8 (by omega)⟩ ⟨b9, b10⟩ ?_
      have h8 := ih (i + 1) (a + wlen ln ah bh (first + i)) (by omega) (by rw [sr_succ, ha]; omega)
      rw [show ((i + 1 : Nat) : Int) = (i : Int) + 1 by omega] at h8
      exact h8
  exact key words 0 _ (by omega) (by show (words : Int) - 1 = 0 + (words : Int) - 1; omega)
end LineB
