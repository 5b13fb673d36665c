/-! The digest: both sides mix the same values. -/
def mx (h : Int64) (v : Int) : Int64 := ((31 : Int64) * h) + (iI v).toInt64
def mxs (g : Nat → Int) (h : Int64) : Nat → Int64
  | 0 => h
  | k + 1 => mx (mxs g h k) (g k)
theorem mxs_succ (g : Nat → Int) (h : Int64) (k : Nat) : mxs g h (k + 1) = mx (mxs g h k) (g k) := rfl
section Mix
variable {n : Int} {lt ln bd ah bh en st sh ms : Nat → Int} {L P : Nat} {lv pv lo : Nat → Int}
theorem mixWordsSim (R : RS n lt ln bd ah bh en st sh ms) (K : LOK n en L n lv lo) (h : Int64) : ∃ h' : Int64,
    (∀ post : Int64 → Prop, post h' → wpX5_mixWords n ln bd ah bh en lv lo h post) ∧
    (∀ line : Nat → Int, (∀ l : Nat, l < L → LR lv line l) → ∀ (pasts ty : Int) (post : Int64 → Int → Int → Int → Int → Int → Int → Int64 → (Nat → Int) → (Nat → Int) → Prop) (th l0 p0 me ml mr : Int) (page : Nat → Int), (∃ n0 : Nat, wpX6_digest_114 pasts ty ms post n0 th l0 p0 me ml mr h' line page 0) → ∃ n0 : Nat, wpX6_digest_76 pasts ty ms post n0 th l0 p0 me ml mr h line page 0) := by
  have hn := R.2.2.1
  obtain ⟨m, rfl⟩ := Int.eq_ofNat_of_zero_le R.2.1
  have hv : ∀ i : Nat, ∃ v : Int, i < 9 * m → (∀ post : Int → Prop, post v → wpX5_wordValue (m : Int) ln bd ah bh en lv lo ((i / 9 : Nat) : Int) ((i % 9 : Nat) : Int) post) ∧ ∀ line : Nat → Int, (∀ l : Nat, l < L → LR lv line l) → ∀ post : Int → Prop, post v → wpX6_wordOf ms line ((i / 9 : Nat) : Int) ((i % 9 : Nat) : Int) post := by
    intro i
    by_cases c : i < 9 * m
    · obtain ⟨v, a1, a2⟩ := word_val R K (w := i / 9) (j := ((i % 9 : Nat) : Int)) (by omega) (by omega)
      exact ⟨v, fun _ => ⟨a1, a2⟩⟩
    · exact ⟨0, fun z => absurd z c⟩
  obtain ⟨g, hg⟩ := Classical.skolem.mp hv
  refine ⟨mxs g h (9 * m), fun post hp => ?_, fun line hR pasts ty post th l0 p0 me ml mr page hp => ?_⟩
  · unfold wpX5_mixWords
    refine ⟨m + 1, ?_⟩
    have inner : ∀ (w : Nat), w < m → ∀ (k5 : Int64 → Int → Prop), k5 (mxs g h (9 * (w + 1))) ((w : Int) + 1) → ∀ (f j : Nat), j + f = 9 → wpX5_mixWords_20 (m : Int) ln bd ah bh en lv lo post k5 (f + 1) (mxs g h (9 * w + j)) (w : Int) (j : Int) := by
      intro w hw k5 hk f
      induction f with
      | zero =>
        intro j hj
        rw [wpX5_mixWords_20]
        rw [show 9 * (w + 1) = 9 * w + j by omega] at hk
        exact ⟨inR_of (by omega), fun _ => hk, fun z => absurd (by omega) z⟩
      | succ f ih =>
        intro j hj
        rw [wpX5_mixWords_20]
        have h8 := ih (j + 1) (by omega)
        rw [show 9 * w + (j + 1) = 9 * w + j + 1 by omega, mxs_succ, show ((j + 1 : Nat) : Int) = (j : Int) + 1 by omega] at h8
        have h9 := (hg (9 * w + j) (by omega)).1
        rw [show (9 * w + j) / 9 = w by omega, show (9 * w + j) % 9 = j by omega] at h9
        exact ⟨inR_of (by omega), fun z => absurd z (by omega), fun _ => h9 _ h8⟩
    have outer : ∀ (f w : Nat), w + f = m → wpX5_mixWords_5 (m : Int) ln bd ah bh en lv lo post (f + 1) (mxs g h (9 * w)) (w : Int) := by
      intro f
      induction f with
      | zero =>
        intro w hw
        rw [wpX5_mixWords_5]
        rw [show 9 * m = 9 * w by omega] at hp
        exact ⟨inR_of (by omega), inR_of (by omega), fun _ => hp, fun z => absurd (by omega) z⟩
      | succ f ih =>
        intro w hw
        rw [wpX5_mixWords_5]
        have h8 := ih (w + 1) (by omega)
        rw [show ((w + 1 : Nat) : Int) = (w : Int) + 1 by omega] at h8
        exact ⟨inR_of (by omega), inR_of (by omega), fun z => absurd z (by omega), fun _ => ⟨10, inner w (by omega) _ h8 9 0 (by omega)⟩⟩
    exact outer m 0 (by omega)
  · refine ⟨9 * m + 1, ?_⟩
    have key : ∀ (f i : Nat), i + f = 9 * m → wpX6_digest_76 pasts ty ms post (f + 1) th l0 p0 me ml mr (mxs g h i) line page (i : Int) := by
      intro f
      induction f with
      | zero =>
        intro i hi
        rw [wpX6_digest_76, R.1]
        rw [show 9 * m = i by omega] at hp
        exact ⟨inR_of (by omega), inR_of (by omega), fun _ => hp, fun z => absurd (by omega) z⟩
      | succ f ih =>
        intro i hi
        rw [wpX6_digest_76, R.1]
        have h8 := ih (i + 1) (by omega)
        rw [mxs_succ, show ((i + 1 : Nat) : Int) = (i : Int) + 1 by omega] at h8
        have h9 := (hg i (by omega)).2 line hR
        rw [show ((i / 9 : Nat) : Int) = (i : Int) / 9 by omega, show ((i % 9 : Nat) : Int) = (i : Int) % 9 by omega] at h9
        exact ⟨inR_of (by omega), inR_of (by omega), fun z => absurd z (by omega), fun _ => ⟨by omega, by omega, by omega, by omega, h9 _ h8⟩⟩
    exact key (9 * m) 0 (by omega)
end Mix
