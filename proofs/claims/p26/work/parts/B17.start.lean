/-! The start: the law's first settings, and the fresh object. -/
theorem u_starts {g : Nat → Int} {post : (Nat → Int) → Prop} (h14 : g 14 = 0) (h : ∀ g' : Nat → Int, g' 14 = 0 → (∀ i : Nat, i < 6 → g' i = tb_FIRST_SETTING i) → (∀ i : Nat, i < 8 → g' (6 + i) = tb_FIRST_SHARE i) → post g') : wpL_starts g post := by
  have key : ∀ (f k : Nat) (g' : Nat → Int), k + f = 8 → g' 14 = 0 → (∀ i : Nat, i < 6 → g' i = tb_FIRST_SETTING i) → (∀ i : Nat, i < k → g' (6 + i) = tb_FIRST_SHARE i) → wpL_starts_28 post (f + 1) g' (k : Int) := by
    intro f
    induction f with
    | zero =>
      intro k g' hk a1 a2 a3
      have e : k = 8 := by omega
      rw [e] at a3
      rw [e, wpL_starts_28]
      exact ⟨inR_lit rfl, fun _ => h g' a1 a2 a3, fun c => absurd (by decide) c⟩
    | succ f ih =>
      intro k g' hk a1 a2 a3
      have hv : ∀ v : Int, v = tb_FIRST_SHARE k → wpL_starts_57 post (wpL_starts_28 post (f + 1)) g' (k : Int) v (6 + (k : Int)) := fun v hv => by
        unfold wpL_starts_57
        rw [show (6 + (k : Int)).toNat = 6 + k by omega, show (k : Int) + 1 = ((k + 1 : Nat) : Int) by omega]
        refine ⟨by omega, by omega, ih (k + 1) _ (by omega) ((updI_ne (by omega)).trans a1) (fun i hi => (updI_ne (by omega)).trans (a2 i hi)) (fun i hi => ?_)⟩
        by_cases c : i = k
        · rw [updI_eq (by omega), c, hv]
        · rw [updI_ne (by omega), a3 i (by omega)]
      rw [wpL_starts_28]
      unfold wpL_starts_55
      have hc : k = 0 ∨ k = 1 ∨ k = 2 ∨ k = 3 ∨ k = 4 ∨ k = 5 ∨ k = 6 ∨ k = 7 := by omega
      rcases hc with rfl | rfl | rfl | rfl | rfl | rfl | rfl | rfl
      · exact ⟨inR_lit rfl, fun c => absurd c (by decide), fun _ => ⟨inR_lit rfl, fun _ => hv 50 rfl, fun c => absurd (by decide) c⟩⟩
      · exact ⟨inR_lit rfl, fun c => absurd c (by decide), fun _ => ⟨inR_lit rfl, fun _ => hv 50 rfl, fun c => absurd (by decide) c⟩⟩
      · exact ⟨inR_lit rfl, fun c => absurd c (by decide), fun _ => ⟨inR_lit rfl, fun _ => hv 50 rfl, fun c => absurd (by decide) c⟩⟩
      · exact ⟨inR_lit rfl, fun c => absurd c (by decide), fun _ => ⟨inR_lit rfl, fun c => absurd c (by decide), fun _ => ⟨inR_lit rfl, fun c => absurd c (by decide), fun _ => hv 100 rfl⟩⟩⟩
      · exact ⟨inR_lit rfl, fun c => absurd c (by decide), fun _ => ⟨inR_lit rfl, fun c => absurd c (by decide), fun _ => ⟨inR_lit rfl, fun c => absurd c (by decide), fun _ => hv 100 rfl⟩⟩⟩
      · exact ⟨inR_lit rfl, fun c => absurd c (by decide), fun _ => ⟨inR_lit rfl, fun c => absurd c (by decide), fun _ => ⟨inR_lit rfl, fun c => absurd c (by decide), fun _ => hv 100 rfl⟩⟩⟩
      · exact ⟨inR_lit rfl, fun c => absurd c (by decide), fun _ => ⟨inR_lit rfl, fun c => absurd c (by decide), fun _ => ⟨inR_lit rfl, fun _ => hv 50 rfl, fun c => absurd (by decide) c⟩⟩⟩
      · exact ⟨inR_lit rfl, fun c => absurd c (by decide), fun _ => ⟨inR_lit rfl, fun c => absurd c (by decide), fun _ => ⟨inR_lit rfl, fun _ => hv 50 rfl, fun c => absurd (by decide) c⟩⟩⟩
  unfold wpL_starts
  refine ⟨9, key 8 0 _ (by omega) ?_ (fun i hi => ?_) (fun i hi => absurd hi (by omega))⟩
  · rw [updI_ne (by omega), updI_ne (by omega), updI_ne (by omega), updI_ne (by omega), updI_ne (by omega), updI_ne (by omega)]
    exact h14
  · have hc : i = 0 ∨ i = 1 ∨ i = 2 ∨ i = 3 ∨ i = 4 ∨ i = 5 := by omega
    rcases hc with rfl | rfl | rfl | rfl | rfl | rfl <;> rfl
theorem first26 {f1 f2 f3 f4 f5 lv pv lo g e : Nat → Int} {g0 g1 g2 g3 : SS} (h14 : g 14 = 0) (h6 : ∀ i : Nat, i < 6 → g i = tb_FIRST_SETTING i) (h8 : ∀ i : Nat, i < 8 → g (6 + i) = tb_FIRST_SHARE i) :
    J26x 0 f1 f2 f3 f4 f5 (fun _ => 0) tb_FIRST_SETTING tb_FIRST_SHARE 0 0 lv pv lo 0 0 g0 g1 g2 g3 g e := by
  have R : RS 0 f1 f2 f3 f4 f5 (fun _ => 0) tb_FIRST_SETTING tb_FIRST_SHARE g := by
    refine ⟨h14, by decide, by decide, h6, fun i hi => ?_, ⟨by decide, by decide, by decide, by decide, by decide, by decide, by decide, by decide, by decide, by decide, Or.inr rfl⟩, fun i hi => Or.inl rfl, fun w hw => absurd hw (by omega)⟩
    refine ⟨h8 i hi, ?_⟩
    have hc : i = 0 ∨ i = 1 ∨ i = 2 ∨ i = 3 ∨ i = 4 ∨ i = 5 ∨ i = 6 ∨ i = 7 := by omega
    rcases hc with rfl | rfl | rfl | rfl | rfl | rfl | rfl | rfl <;> decide
  refine ⟨g, fun _ => 0, 0, 0, 0, R, ⟨rfl, by decide, by decide, fun h => absurd h (by decide), fun h => absurd h (by decide), fun h => absurd h (by decide), fun h => absurd h (by decide)⟩, ⟨by decide, h14, h6, h8, fun w hw => absurd hw (by omega)⟩, rfl, rfl, ?_, rfl⟩
  refine ⟨⟨by decide, by decide, fun l hl => absurd hl (by omega), fun l hl => absurd hl (by omega), fun h => absurd h (by omega), fun _ => rfl, fun l hl => absurd hl (by omega), fun w hw => absurd hw (by omega)⟩, fun l hl => absurd hl (by omega), ⟨Nat.le_refl _, fun l hl => absurd hl (by omega), fun p hp => absurd hp (by omega)⟩, fun post x y h => ?_⟩
  unfold wpL_lay
  refine ⟨1, ?_⟩
  rw [wpL_lay_25, h14]
  refine ⟨inR_lit rfl, inR_lit rfl, fun _ => h _ _ ⟨⟨fun l hl => absurd hl (by omega), ?_, ?_, fun l hl => absurd hl (by omega)⟩, fun p hp => absurd hp (by omega)⟩, fun c => absurd (by decide) c⟩
  · rw [updI_ne (by omega), updI_eq rfl]; rfl
  · rw [updI_eq rfl]; rfl
