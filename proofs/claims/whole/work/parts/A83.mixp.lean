/-! The digest: pages. -/
section MixP
variable {n : Int} {lt ln bd ah bh en st sh ms : Nat → Int} {L P : Nat} {lv pv lo : Nat → Int}
theorem mixPagesSim (R : RS n lt ln bd ah bh en st sh ms) (K : LOK n en L n lv lo) (PK : POK P L pv lv) (h : Int64) : ∃ h' : Int64,
    (∀ post : Int64 → Prop, post h' → wpX5_mixPages (P : Int) pv h post) ∧
    (∀ line page : Nat → Int, (∀ l : Nat, l < L → LR lv line l) → (∀ p : Nat, p < P → PR pv page p) → ∀ (pasts ty : Int) (post : Int64 → Int → Int → Int → Int → Int → Int → Int64 → (Nat → Int) → (Nat → Int) → Prop) (th l0 me ml mr : Int), post h' th l0 (P : Int) me ml mr h' line page → ∃ n0 : Nat, wpX6_digest_135 pasts ty ms post n0 th l0 (P : Int) me ml mr h line page 0) := by
  have hn := R.2.2.1
  have hLn := K.1
  have hPL := PK.1
  refine ⟨mxs pv h (6 * P), fun post hp => ?_, fun line page hR hPR pasts ty post th l0 me ml mr hp => ?_⟩
  · unfold wpX5_mixPages
    refine ⟨P + 1, ?_⟩
    have inner : ∀ (w : Nat), w < P → ∀ (k5 : Int64 → Int → Prop), k5 (mxs pv h (6 * (w + 1))) ((w : Int) + 1) → ∀ (f j : Nat), j + f = 6 → wpX5_mixPages_20 (P : Int) pv post k5 (f + 1) (mxs pv h (6 * w + j)) (w : Int) (j : Int) := by
      intro w hw k5 hk f
      induction f with
      | zero =>
        intro j hj
        rw [wpX5_mixPages_20]
        rw [show 6 * (w + 1) = 6 * w + j by omega] at hk
        exact ⟨inR_of (by omega), fun _ => hk, fun z => absurd (by omega) z⟩
      | succ f ih =>
        intro j hj
        rw [wpX5_mixPages_20]
        have h8 := ih (j + 1) (by omega)
        rw [show 6 * w + (j + 1) = 6 * w + j + 1 by omega, mxs_succ, show ((j + 1 : Nat) : Int) = (j : Int) + 1 by omega] at h8
        exact ⟨inR_of (by omega), fun z => absurd z (by omega), fun _ => q1_pageValue (by omega) (by omega) (by omega) (by omega) h8⟩
    have outer : ∀ (f w : Nat), w + f = P → wpX5_mixPages_5 (P : Int) pv post (f + 1) (mxs pv h (6 * w)) (w : Int) := by
      intro f
      induction f with
      | zero =>
        intro w hw
        rw [wpX5_mixPages_5]
        rw [show 6 * P = 6 * w by omega] at hp
        exact ⟨inR_of (by omega), inR_of (by omega), fun _ => hp, fun z => absurd (by omega) z⟩
      | succ f ih =>
        intro w hw
        rw [wpX5_mixPages_5]
        have h8 := ih (w + 1) (by omega)
        rw [show ((w + 1 : Nat) : Int) = (w : Int) + 1 by omega] at h8
        exact ⟨inR_of (by omega), inR_of (by omega), fun z => absurd z (by omega), fun _ => ⟨7, inner w (by omega) _ h8 6 0 (by omega)⟩⟩
    exact outer P 0 (by omega)
  · refine ⟨6 * P + 1, ?_⟩
    have key : ∀ (f i : Nat), i + f = 6 * P → wpX6_digest_135 pasts ty ms post (f + 1) th l0 (P : Int) me ml mr (mxs pv h i) line page (i : Int) := by
      intro f
      induction f with
      | zero =>
        intro i hi
        rw [wpX6_digest_135]
        rw [show 6 * P = i by omega] at hp
        exact ⟨inR_of (by omega), inR_of (by omega), fun _ => hp, fun z => absurd (by omega) z⟩
      | succ f ih =>
        intro i hi
        rw [wpX6_digest_135]
        have h8 := ih (i + 1) (by omega)
        rw [mxs_succ, show ((i + 1 : Nat) : Int) = (i : Int) + 1 by omega] at h8
        obtain ⟨F, L', tk, d1, d2, d3, d4⟩ := PK.2 (i / 6) (by omega)
        have h9 : wpX6_pageTold line page ((i / 6 : Nat) : Int) ((i % 6 : Nat) : Int) (fun z2 => wpX6_mix (mxs pv h i) z2 (fun m_h_3 => wpX6_digest_135 pasts ty ms post (f + 1) th l0 (P : Int) me ml mr m_h_3 line page ((i : Int) + 1))) := by
          refine page_val (L := L) (by omega) (by omega) d1 d2 K.2.2.1 d4 hR (hPR (i / 6) (by omega)) (by omega) ?_
          rw [Int.toNat_natCast, show 6 * (i / 6) + i % 6 = i by omega]
          exact h8
        rw [show ((i / 6 : Nat) : Int) = (i : Int) / 6 by omega, show ((i % 6 : Nat) : Int) = (i : Int) % 6 by omega] at h9
        exact ⟨inR_of (by omega), inR_of (by omega), fun z => absurd z (by omega), fun _ => ⟨by omega, by omega, by omega, by omega, h9⟩⟩
    exact key (6 * P) 0 (by omega)
end MixP
