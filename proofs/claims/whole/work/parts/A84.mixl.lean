/-! The digest: lines. -/
section MixL
variable {n : Int} {lt ln bd ah bh en st sh ms : Nat → Int} {L P : Nat} {lv pv lo : Nat → Int}
theorem W_bd (R : RS n lt ln bd ah bh en st sh ms) {l : Nat} (hF : LF n en lv l) : ∃ W : Nat, sr (wlen ln ah bh) (lv (12 * l + 1)).toNat (lv (12 * l + 2)).toNat + lv (12 * l + 2) - 1 = (W : Int) ∧ W ≤ 900 := by
  have hn := R.2.2.1
  obtain ⟨f1, f2, f3, -⟩ := hF
  have key : ∀ k : Nat, (lv (12 * l + 1)).toNat + (k : Int) ≤ n → 0 ≤ sr (wlen ln ah bh) (lv (12 * l + 1)).toNat k ∧ sr (wlen ln ah bh) (lv (12 * l + 1)).toNat k ≤ 14 * k := by
    intro k
    induction k with
    | zero => intro _; exact ⟨Int.le_refl _, Int.le_refl _⟩
    | succ k ih =>
      intro hk
      have h1 := ih (by omega)
      have h2 := wlen_bd R (w := (lv (12 * l + 1)).toNat + k) (by omega)
      rw [sr_succ]
      omega
  have h1 := key (lv (12 * l + 2)).toNat (by omega)
  exact ⟨(sr (wlen ln ah bh) (lv (12 * l + 1)).toNat (lv (12 * l + 2)).toNat + lv (12 * l + 2) - 1).toNat, by omega, by omega⟩
theorem mixLineSim (R : RS n lt ln bd ah bh en st sh ms) {l : Nat} (hl : l < 60) (hF : LF n en lv l) (h : Int64) : ∃ h' : Int64,
    (∀ (l0 : Int) (post : Int64 → Prop) (k5 : Int64 → Int → Prop), k5 h' ((l : Int) + 1) → ∃ n0 : Nat, wpX5_mixLines_20 n lt ln ah bh l0 lv post k5 n0 h (l : Int) 0) ∧
    (∀ line : Nat → Int, LR lv line l → ∀ post : Int64 → Prop, post h' → wpX6_mixLine h ms line (l : Int) post) := by
  obtain ⟨W, hW, hW9⟩ := W_bd R hF
  have hv : ∀ k : Nat, ∃ v : Int, k ≤ 900 → -1 ≤ v ∧ v ≤ 200 ∧ (v = -1 ↔ W ≤ k) ∧ (∀ post : Int → Prop, post v → wpX5_writtenByte n lt ln ah bh lv (l : Int) (k : Int) post) ∧ (∀ line : Nat → Int, LR lv line l → ∀ post : Int → Prop, post v → wpX6_byteAt ms line (l : Int) (k : Int) post) := by
    intro k
    by_cases c : k ≤ 900
    · obtain ⟨v, d1, d2, d3, d4, d5⟩ := byte_val R hl hF (idx := (k : Int)) (by omega) (by omega)
      rw [hW] at d3
      exact ⟨v, fun _ => ⟨d1, d2, d3.trans ⟨fun z => by omega, fun z => by omega⟩, d4, d5⟩⟩
    · exact ⟨0, fun z => absurd z c⟩
  obtain ⟨g, hg⟩ := Classical.skolem.mp hv
  refine ⟨mxs g (mxs (fun j => lv (12 * l + j)) h 12) W, fun l0 post k5 hk => ⟨13, ?_⟩, fun line hR post hp => ?_⟩
  · have key : ∀ (f j : Nat), j + f = 12 → wpX5_mixLines_20 n lt ln ah bh l0 lv post k5 (f + 1) (mxs (fun j => lv (12 * l + j)) h j) (l : Int) (j : Int) := by
      intro f
      induction f with
      | zero =>
        intro j hj
        have e : j = 12 := by omega
        rw [wpX5_mixLines_20, e]
        refine ⟨inR_lit rfl, fun _ => q5_writtenLength R hl hF ?_, fun z => absurd (by omega) z⟩
        rw [hW]
        refine ⟨W + 1, ?_⟩
        have k2 : ∀ (f k : Nat), k + f = W → wpX5_mixLines_60 n lt ln ah bh l0 lv post k5 (f + 1) (mxs g (mxs (fun j => lv (12 * l + j)) h 12) k) (l : Int) (W : Int) (k : Int) := by
          intro f
          induction f with
          | zero =>
            intro k hkk
            rw [wpX5_mixLines_60]
            rw [show W = k by omega] at hk ⊢
            exact ⟨inR_of (by omega), inR_of (by omega), fun _ => hk, fun z => absurd (by omega) z⟩
          | succ f ih =>
            intro k hkk
            rw [wpX5_mixLines_60]
            have h8 := ih (k + 1) (by omega)
            rw [mxs_succ, show ((k + 1 : Nat) : Int) = (k : Int) + 1 by omega] at h8
            exact ⟨inR_of (by omega), inR_of (by omega), fun z => absurd z (by omega), fun _ => (hg k (by omega)).2.2.2.1 _ h8⟩
        exact k2 W 0 (by omega)
      | succ f ih =>
        intro j hj
        rw [wpX5_mixLines_20]
        have h8 := ih (j + 1) (by omega)
        rw [mxs_succ, show ((j + 1 : Nat) : Int) = (j : Int) + 1 by omega] at h8
        exact ⟨inR_of (by omega), fun z => absurd z (by omega), fun _ => q1_lv j hl (by omega) h8⟩
    exact key 12 0 (by omega)
  · unfold wpX6_mixLine
    refine ⟨13, ?_⟩
    have key : ∀ (f j : Nat), j + f = 12 → wpX6_mixLine_2 ms line post (f + 1) (mxs (fun j => lv (12 * l + j)) h j) (l : Int) (j : Int) := by
      intro f
      induction f with
      | zero =>
        intro j hj
        have e : j = 12 := by omega
        rw [wpX6_mixLine_2, e]
        refine ⟨inR_lit rfl, fun _ => ⟨W + 1, ?_⟩, fun z => absurd (by omega) z⟩
        have k2 : ∀ (f k : Nat), k + f = W → wpX6_mixLine_26 ms line post (f + 1) (mxs g (mxs (fun j => lv (12 * l + j)) h 12) k) (l : Int) (k : Int) := by
          intro f
          induction f with
          | zero =>
            intro k hkk
            rw [wpX6_mixLine_26]
            obtain ⟨d1, d2, d3, d4, d5⟩ := hg k (by omega)
            rw [show W = k by omega] at hp
            exact d5 line hR _ ⟨inR_of (by omega), fun _ => hp, fun z => absurd (d3.mpr (by omega)) z⟩
          | succ f ih =>
            intro k hkk
            rw [wpX6_mixLine_26]
            have h8 := ih (k + 1) (by omega)
            rw [mxs_succ, show ((k + 1 : Nat) : Int) = (k : Int) + 1 by omega] at h8
            obtain ⟨d1, d2, d3, d4, d5⟩ := hg k (by omega)
            exact d5 line hR _ ⟨inR_of (by omega), fun z => absurd (d3.mp z) (by omega), fun _ => d5 line hR _ h8⟩
        exact k2 W 0 (by omega)
      | succ f ih =>
        intro j hj
        rw [wpX6_mixLine_2]
        have h8 := ih (j + 1) (by omega)
        rw [mxs_succ, show ((j + 1 : Nat) : Int) = (j : Int) + 1 by omega] at h8
        exact ⟨inR_of (by omega), fun z => absurd z (by omega), fun _ => line_val R hl hF hR (by omega) h8⟩
    exact key 12 0 (by omega)
end MixL
