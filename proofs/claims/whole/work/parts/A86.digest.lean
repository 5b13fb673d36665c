/-! The digest. -/
section Dig
variable {n : Int} {lt ln bd ah bh en st sh ms : Nat → Int} {L P : Nat} {lv pv lo : Nat → Int}
theorem o_digest (R : RS n lt ln bd ah bh en st sh ms) (Y : Lay n en ms (tS st) L P lv pv lo) {ty hc th l0 p0 me ml mr : Int} {hm : Int64} {line0 page0 : Nat → Int} :
    ∃ v : Int64, (∀ post : Int64 → Prop, post v → wpX5_digest n lt ln bd ah bh en st sh (L : Int) (P : Int) lv pv lo ty hc post) ∧
      ∀ Q : Int64 → Int → Int → Int → Int → Int → Int → Int64 → (Nat → Int) → (Nat → Int) → Prop, (∀ (a b c d e : Int) (line page : Nat → Int), Q v 0 a b c d e v line page) → wpX6_digest hc ty th l0 p0 me ml mr hm ms line0 page0 Q := by
  have hn := R.2.2.1
  have hLn := Y.1.1
  have hv : ∀ i : Nat, ∃ v : Int, i < 14 → (∀ post : Int → Prop, post v → wpX5_wholeValue n en st (L : Int) (P : Int) lv ty (i : Int) post) ∧ ∀ line : Nat → Int, (∀ l : Nat, l < L → LR lv line l) → ∀ post : Int → Prop, post v → wpX6_wholeOf ty (L : Int) (P : Int) ms line (i : Int) post := by
    intro i
    by_cases c : i < 14
    · obtain ⟨v, a1, a2⟩ := whole_val (ty := ty) (P := P) R Y.1 (p1 := (i : Int)) (by omega)
      exact ⟨v, fun _ => ⟨a1, a2⟩⟩
    · exact ⟨0, fun z => absurd z c⟩
  obtain ⟨g, hg⟩ := Classical.skolem.mp hv
  obtain ⟨h1, a1, a2⟩ := mixWordsSim R Y.1 (mxs sh (mxs g (mx 43262 hc) 14) 8)
  obtain ⟨h2, b1, b2⟩ := mixLinesSim R (by omega) Y.1.2.2.1 L 0 h1 (by omega)
  obtain ⟨h3, c1, c2⟩ := mixPagesSim R Y.1 Y.2.1 h2
  refine ⟨h3, fun post hp => ?_, fun Q hQ => ?_⟩
  · unfold wpX5_digest
    refine ⟨15, ?_⟩
    have k2 : ∀ (f j : Nat), j + f = 8 → wpX5_digest_40 n lt ln bd ah bh en st sh (L : Int) (P : Int) lv pv lo ty hc post (f + 1) (mxs sh (mxs g (mx 43262 hc) 14) j) (j : Int) := by
      intro f
      induction f with
      | zero =>
        intro j hj
        have e : j = 8 := by omega
        rw [wpX5_digest_40, e]
        exact ⟨inR_lit rfl, fun _ => a1 _ (b1 _ (c1 _ hp)), fun z => absurd (by omega) z⟩
      | succ f ih =>
        intro j hj
        rw [wpX5_digest_40]
        have h8 := ih (j + 1) (by omega)
        rw [mxs_succ, show ((j + 1 : Nat) : Int) = (j : Int) + 1 by omega] at h8
        refine ⟨inR_of (by omega), fun z => absurd z (by omega), fun _ => q3_shareOf (by omega) (by omega) ?_⟩
        rw [if_neg (by omega)]
        exact h8
    have key : ∀ (f j : Nat), j + f = 14 → wpX5_digest_16 n lt ln bd ah bh en st sh (L : Int) (P : Int) lv pv lo ty hc post (f + 1) (mxs g (mx 43262 hc) j) (j : Int) := by
      intro f
      induction f with
      | zero =>
        intro j hj
        have e : j = 14 := by omega
        rw [wpX5_digest_16, e]
        exact ⟨inR_lit rfl, fun _ => ⟨9, k2 8 0 (by omega)⟩, fun z => absurd (by omega) z⟩
      | succ f ih =>
        intro j hj
        rw [wpX5_digest_16]
        have h8 := ih (j + 1) (by omega)
        rw [mxs_succ, show ((j + 1 : Nat) : Int) = (j : Int) + 1 by omega] at h8
        exact ⟨inR_of (by omega), fun z => absurd z (by omega), fun _ => (hg j (by omega)).1 _ h8⟩
    exact key 14 0 (by omega)
  · unfold wpX6_digest
    refine q6_makes R Y (fun line page hl hpg => ⟨15, ?_⟩)
    have k2 : ∀ (f j : Nat), j + f = 8 → wpX6_digest_49 hc ty ms Q (f + 1) 0 (L : Int) (P : Int) (ms 0) (ms 2) (ms 3) (mxs sh (mxs g (mx 43262 hc) 14) j) line page (j : Int) := by
      intro f
      induction f with
      | zero =>
        intro j hj
        have e : j = 8 := by omega
        rw [wpX6_digest_49, e]
        exact ⟨inR_lit rfl, fun _ => a2 line hl _ _ _ _ _ _ _ _ _ _ (b2 line hl _ _ _ _ _ _ _ _ _ (c2 line page hl hpg _ _ _ _ _ _ _ _ (hQ _ _ _ _ _ _ _))), fun z => absurd (by omega) z⟩
      | succ f ih =>
        intro j hj
        rw [wpX6_digest_49]
        have h8 := ih (j + 1) (by omega)
        rw [mxs_succ, show ((j + 1 : Nat) : Int) = (j : Int) + 1 by omega] at h8
        refine ⟨inR_of (by omega), fun z => absurd z (by omega), fun _ => ⟨by omega, by omega, ?_⟩⟩
        rw [show (6 + (j : Int)).toNat = 6 + j by omega, (R.2.2.2.2.1 j (by omega)).1]
        exact h8
    have key : ∀ (f j : Nat), j + f = 14 → wpX6_digest_26 hc ty ms Q (f + 1) 0 (L : Int) (P : Int) (ms 0) (ms 2) (ms 3) (mxs g (mx 43262 hc) j) line page (j : Int) := by
      intro f
      induction f with
      | zero =>
        intro j hj
        have e : j = 14 := by omega
        rw [wpX6_digest_26, e]
        exact ⟨inR_lit rfl, fun _ => ⟨9, k2 8 0 (by omega)⟩, fun z => absurd (by omega) z⟩
      | succ f ih =>
        intro j hj
        rw [wpX6_digest_26]
        have h8 := ih (j + 1) (by omega)
        rw [mxs_succ, show ((j + 1 : Nat) : Int) = (j : Int) + 1 by omega] at h8
        exact ⟨inR_of (by omega), fun z => absurd z (by omega), fun _ => (hg j (by omega)).2 line hl _ h8⟩
    exact key 14 0 (by omega)
end Dig
