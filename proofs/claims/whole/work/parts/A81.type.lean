/-! Typing. -/
def TR (xl : Int) (xb : Nat → Int) (ty : Int) (tx : Nat → Int) : Prop := xl = ty ∧ 0 ≤ ty ∧ ty ≤ 200 ∧ ∀ j : Nat, (j : Int) < ty → tx j = xb j ∧ 0 ≤ xb j ∧ xb j ≤ 127
theorem o_type {xl ty : Int} {xb tx : Nat → Int} (T : TR xl xb ty tx) {p1 th : Int} (h1 : inR p1) :
    (∃ (v xl' : Int) (xb' tx' : Nat → Int), TR xl' xb' xl' tx' ∧ (∀ (xp : String → Prop) (post : Int → Int → (Nat → Int) → Prop), post v xl' xb' → wpX5_type xl xb p1 xp post) ∧ ∀ Q : Int → Int → Int → (Nat → Int) → Prop, Q v xl' 0 tx' → wpX6_type ty th tx p1 Q) ∨
    (∃ (k : Nat) (nm : String) (r : Int), [xIA, xIS][k]? = some nm ∧ (∀ (xp : String → Prop) (post : Int → Int → (Nat → Int) → Prop), xp nm → wpX5_type xl xb p1 xp post) ∧ ∀ Q : Int → Int → Int → (Nat → Int) → Prop, Q r ty ((k : Int) + 1) tx → wpX6_type ty th tx p1 Q) := by
  obtain ⟨e, a1, a2, a3⟩ := T
  subst e
  unfold wpX5_type wpX6_type wpX6_tells wpX6_fails wpX4_append
  by_cases c1 : 0 ≤ p1 ∧ p1 ≤ 127
  · by_cases c2 : xl < 200
    · refine Or.inl ⟨xl + 1, xl + 1, updI xb xl.toNat p1, updI tx xl.toNat p1, ⟨rfl, by omega, by omega, fun j hj => ?_⟩, fun xp post hp => q5_cr h1 (inR_lit rfl) (inR_lit rfl) (fun _ => ⟨inR_of (by omega), fun _ => ⟨inR_of (by omega), fun z => absurd z (by omega), fun _ => ⟨inR_of (by omega), fun z => absurd z (by omega), fun _ => ⟨a1, c2, hp⟩⟩⟩, fun z => absurd c2 z⟩) (fun z => absurd c1 z), fun Q hQ => q6_in h1 (inR_lit rfl) (inR_lit rfl) (fun _ => ⟨inR_lit rfl, fun _ => ⟨inR_of (by omega), fun _ => ⟨a1, c2, hQ⟩, fun z => absurd z (by omega)⟩, fun z => absurd z (by decide)⟩) (fun z => absurd c1 z)⟩
      by_cases c : j = xl.toNat
      · rw [updI_eq c, updI_eq c]
        exact ⟨rfl, c1⟩
      · rw [updI_ne c, updI_ne c]
        exact a3 j (by omega)
    · exact Or.inr ⟨1, xIS, 0, rfl, fun xp post hp => q5_cr h1 (inR_lit rfl) (inR_lit rfl) (fun _ => ⟨inR_of (by omega), fun z => absurd z c2, fun _ => hp⟩) (fun z => absurd c1 z), fun Q hQ => q6_in h1 (inR_lit rfl) (inR_lit rfl) (fun _ => ⟨inR_lit rfl, fun _ => ⟨inR_of (by omega), fun z => absurd (by omega) z, fun _ => hQ⟩, fun z => absurd z (by decide)⟩) (fun z => absurd c1 z)⟩
  · exact Or.inr ⟨0, xIA, 0, rfl, fun xp post hp => q5_cr h1 (inR_lit rfl) (inR_lit rfl) (fun z => absurd z c1) (fun _ => hp), fun Q hQ => q6_in h1 (inR_lit rfl) (inR_lit rfl) (fun z => absurd z c1) (fun _ => ⟨inR_lit rfl, fun z => absurd rfl z, fun _ => hQ⟩)⟩
theorem o_clearText {xl ty : Int} {xb tx : Nat → Int} (T : TR xl xb ty tx) {th : Int} : TR 0 xb 0 tx ∧ (∀ post : Int → Int → Prop, post xl 0 → wpX5_clearText xl post) ∧ ∀ Q : Int → Int → Int → Prop, Q xl 0 0 → wpX6_clearText ty th Q := by
  obtain ⟨e, a1, a2, a3⟩ := T
  subst e
  exact ⟨⟨rfl, Int.le_refl _, by omega, fun j hj => absurd hj (by omega)⟩, fun post hp => hp, fun Q hQ => hQ⟩
