/-! The digest: all lines. -/
section MixLL
variable {n : Int} {lt ln bd ah bh en st sh ms : Nat → Int} {L P : Nat} {lv pv lo : Nat → Int}
theorem mixLinesSim (R : RS n lt ln bd ah bh en st sh ms) (hL : L ≤ 60) (hF : ∀ l : Nat, l < L → LF n en lv l) : ∀ (f l : Nat) (h : Int64), l + f = L → ∃ h' : Int64,
    (∀ post : Int64 → Prop, post h' → ∃ n0 : Nat, wpX5_mixLines_5 n lt ln ah bh (L : Int) lv post n0 h (l : Int)) ∧
    (∀ line : Nat → Int, (∀ l : Nat, l < L → LR lv line l) → ∀ (pasts ty : Int) (post : Int64 → Int → Int → Int → Int → Int → Int → Int64 → (Nat → Int) → (Nat → Int) → Prop) (th p0 me ml mr : Int) (page : Nat → Int), (∃ n0 : Nat, wpX6_digest_135 pasts ty ms post n0 th (L : Int) p0 me ml mr h' line page 0) → ∃ n0 : Nat, wpX6_digest_114 pasts ty ms post n0 th (L : Int) p0 me ml mr h line page (l : Int)) := by
  intro f
  induction f with
  | zero =>
    intro l h hl
    refine ⟨h, fun post hp => ⟨1, ?_⟩, fun line hR pasts ty post th p0 me ml mr page hp => ⟨1, ?_⟩⟩
    · rw [wpX5_mixLines_5]
      exact ⟨inR_of (by omega), inR_of (by omega), fun _ => hp, fun z => absurd (by omega) z⟩
    · rw [wpX6_digest_114]
      exact ⟨inR_of (by omega), inR_of (by omega), fun _ => hp, fun z => absurd (by omega) z⟩
  | succ f ih =>
    intro l h hl
    obtain ⟨h1, a1, a2⟩ := mixLineSim R (l := l) (by omega) (hF l (by omega)) h
    obtain ⟨h2, b1, b2⟩ := ih (l + 1) h1 (by omega)
    refine ⟨h2, fun post hp => ?_, fun line hR pasts ty post th p0 me ml mr page hp => ?_⟩
    · obtain ⟨n0, h0⟩ := b1 post hp
      rw [show ((l + 1 : Nat) : Int) = (l : Int) + 1 by omega] at h0
      refine ⟨n0 + 1, ?_⟩
      rw [wpX5_mixLines_5]
      exact ⟨inR_of (by omega), inR_of (by omega), fun z => absurd z (by omega), fun _ => a1 _ _ _ h0⟩
    · obtain ⟨n0, h0⟩ := b2 line hR pasts ty post th p0 me ml mr page hp
      rw [show ((l + 1 : Nat) : Int) = (l : Int) + 1 by omega] at h0
      refine ⟨n0 + 1, ?_⟩
      rw [wpX6_digest_114]
      exact ⟨inR_of (by omega), inR_of (by omega), fun z => absurd z (by omega), fun _ => a2 line (hR l (by omega)) _ h0⟩
end MixLL
