/-! The mean of the empty widths; that no NaN comes is asked for as hN, to be proved. -/
section Mean
variable {n : Int} {lt ln bd ah bh en st sh ms : Nat → Int} {L P : Nat} {lv pv lo : Nat → Int}
theorem o_meanEmpty (hN : ∀ a b : Int, 0 ≤ a → a ≤ 12000 → 1 ≤ b → b ≤ 60 → vf_n64 (FP.ddiv (FP.i2d (iI a)) (FP.i2d (iI b)))) (R : RS n lt ln bd ah bh en st sh ms) (Y : Lay n en ms (tS st) L P lv pv lo) {th l0 p0 me ml mr : Int} {line0 page0 : Nat → Int} :
    ∃ v : UInt64, (∀ post : UInt64 → Prop, post v → wpX5_meanEmpty (L : Int) lv post) ∧ ∀ Q : UInt64 → Int → Int → Int → Int → Int → Int → (Nat → Int) → (Nat → Int) → Prop, (∀ (a b c d e : Int) (line page : Nat → Int), Q v 0 a b c d e line page) → wpX6_meanEmpty th l0 p0 me ml mr ms line0 page0 Q := by
  have hn := R.2.2.1
  have hLn := Y.1.1
  have hF := Y.1.2.2.1
  obtain ⟨S, hS⟩ : ∃ S : Int, sm (fun l => lv (12 * l + 11)) L = S := ⟨_, rfl⟩
  have hb := sm_bd (g := fun l => lv (12 * l + 11)) (a := 0) (b := 200) L (fun k hk => ⟨(hF k hk).2.2.2.2.2.2.2.2.2.2.2.2.2.2.2.2.2.2.1, (hF k hk).2.2.2.2.2.2.2.2.2.2.2.2.2.2.2.2.2.2.2⟩)
  rw [hS] at hb
  have model : ∀ (Q : UInt64 → Int → Int → Int → Int → Int → Int → (Nat → Int) → (Nat → Int) → Prop), (∀ (line page : Nat → Int), (¬ (L : Int) = 0 → vf_n64 (FP.ddiv (FP.i2d (iI S)) (FP.i2d (iI (L : Int)))) ∧ Q (FP.ddiv (FP.i2d (iI S)) (FP.i2d (iI (L : Int)))) 0 (L : Int) (P : Int) (ms 0) (ms 2) (ms 3) line page) ∧ ((L : Int) = 0 → Q FP.dconst0 0 (L : Int) (P : Int) (ms 0) (ms 2) (ms 3) line page)) → wpX6_meanEmpty th l0 p0 me ml mr ms line0 page0 Q := by
    intro Q hQ
    unfold wpX6_meanEmpty
    refine q6_makes R Y (fun line page hl hpg => ⟨L + 1, ?_⟩)
    have key : ∀ (f i : Nat) (a : Int), i + f = L → a = sm (fun l => lv (12 * l + 11)) i → wpX6_meanEmpty_13 ms Q (f + 1) 0 (L : Int) (P : Int) (ms 0) (ms 2) (ms 3) line page a (i : Int) := by
      intro f
      induction f with
      | zero =>
        intro i a hi ha
        have e : i = L := by omega
        rw [e, hS] at ha
        rw [wpX6_meanEmpty_13, ha]
        exact ⟨inR_of (by omega), inR_of (by omega), fun _ => ⟨inR_of (by omega), (hQ line page).1, (hQ line page).2⟩, fun z => absurd (by omega) z⟩
      | succ f ih =>
        intro i a hi ha
        rw [wpX6_meanEmpty_13]
        have h8 := ih (i + 1) (a + lv (12 * i + 11)) (by omega) (by rw [sm_succ, ha])
        rw [show ((i + 1 : Nat) : Int) = (i : Int) + 1 by omega] at h8
        exact ⟨inR_of (by omega), inR_of (by omega), fun z => absurd z (by omega), fun _ => q6_empty (by omega) (hl i (by omega)) (hF i (by omega)) h8⟩
    exact key L 0 0 (by omega) rfl
  by_cases c : L = 0
  · refine ⟨FP.dconst0, fun post hp => ?_, fun Q hQ => model Q (fun line page => ⟨fun z => absurd (by omega) z, fun _ => hQ _ _ _ _ _ _ _⟩)⟩
    unfold wpX5_meanEmpty
    exact ⟨inR_of (by omega), fun z => absurd z (by omega), fun _ => hp⟩
  · have hv := hN S (L : Int) (by omega) (by omega) (by omega) (by omega)
    refine ⟨FP.ddiv (FP.i2d (iI S)) (FP.i2d (iI (L : Int))), fun post hp => ?_, fun Q hQ => model Q (fun line page => ⟨fun _ => ⟨hv, hQ _ _ _ _ _ _ _⟩, fun z => absurd z (by omega)⟩)⟩
    unfold wpX5_meanEmpty
    refine ⟨inR_of (by omega), fun _ => q1_sumOf 11 (by omega) (by omega) ?_, fun z => absurd (by omega) z⟩
    rw [hS]
    exact ⟨hv, hp⟩
end Mean
