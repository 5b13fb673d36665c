/-! The bytes of a line. -/
def wlen (ln ah bh : Nat → Int) (w : Nat) : Int := ln w + (ld (ah w) + ld (bh w))
theorem ld_01 (s : Int) : (s = -1 ∧ ld s = 0) ∨ (s ≠ -1 ∧ ld s = 1) := by
  unfold ld
  by_cases c : s = -1
  · rw [if_pos c]; exact Or.inl ⟨c, rfl⟩
  · rw [if_neg c]; exact Or.inr ⟨c, rfl⟩
theorem sgB_bd (s : Int) : 33 ≤ sgB s ∧ sgB s ≤ 59 := by
  unfold sgB
  repeat' split
  all_goals omega
theorem sr_front (g : Nat → Int) (a k : Nat) : sr g a (k + 1) = g a + sr g (a + 1) k := by
  induction k with
  | zero => rw [sr_succ]; show 0 + g (a + 0) = g a + 0; rw [Nat.add_zero]; omega
  | succ k ih => rw [sr_succ, ih, sr_succ, show a + 1 + k = a + (k + 1) by omega]; omega
theorem wb_a {lt ln ah bh : Nat → Int} {w : Nat} (h : ah w ≠ -1) : wb lt ln ah bh w 0 = sgB (ah w) := by
  unfold wb
  rw [if_pos ⟨h, rfl⟩]
theorem wb_l {lt ln ah bh : Nat → Int} {w : Nat} {i : Int} (h0 : 0 ≤ i - ld (ah w)) (h1 : i - ld (ah w) < ln w) : wb lt ln ah bh w i = 97 + lt (12 * w + (i - ld (ah w)).toNat) := by
  rcases ld_01 (ah w) with ⟨c, e⟩ | ⟨c, e⟩
  · rw [e] at h0 h1 ⊢
    unfold wb
    rw [if_neg (fun z => z.1 c)]
    simp only [if_pos c]
    rw [if_neg (by omega), if_pos (by omega), Int.sub_zero]
  · rw [e] at h0 h1 ⊢
    unfold wb
    rw [if_neg (by omega)]
    simp only [if_neg c]
    rw [if_neg (by omega), if_pos (by omega)]
theorem wb_b {lt ln ah bh : Nat → Int} {w : Nat} {i : Int} (hl : 1 ≤ ln w) (h1 : i - ld (ah w) = ln w) : wb lt ln ah bh w i = sgN (bh w) := by
  rcases ld_01 (ah w) with ⟨c, e⟩ | ⟨c, e⟩
  · rw [e] at h1
    unfold wb
    rw [if_neg (fun z => z.1 c)]
    simp only [if_pos c]
    rw [if_neg (by omega), if_neg (by omega)]
  · rw [e] at h1
    unfold wb
    rw [if_neg (by omega)]
    simp only [if_neg c]
    rw [if_neg (by omega), if_neg (by omega)]
section Byte
variable {n : Int} {lt ln bd ah bh en st sh ms : Nat → Int} {L P : Nat} {lv pv lo : Nat → Int}
theorem wlen_bd (R : RS n lt ln bd ah bh en st sh ms) {w : Nat} (hw : (w : Int) < n) : 1 ≤ wlen ln ah bh w ∧ wlen ln ah bh w ≤ 14 := by
  obtain ⟨b1, b2, -⟩ := R.2.2.2.2.2.2.2 w hw
  have h1 := ld_01 (ah w)
  have h2 := ld_01 (bh w)
  unfold wlen
  omega
theorem wb_bd (R : RS n lt ln bd ah bh en st sh ms) {w : Nat} (hw : (w : Int) < n) {i : Int} (h0 : 0 ≤ i) (h1 : i < wlen ln ah bh w) : 0 ≤ wb lt ln ah bh w i ∧ wb lt ln ah bh w i ≤ 200 := by
  obtain ⟨b1, b2, b3, b4, b5, b6, b7, b8, b9, b10, b11, b12⟩ := R.2.2.2.2.2.2.2 w hw
  have q1 := ld_01 (ah w)
  have q2 := ld_01 (bh w)
  unfold wlen at h1
  by_cases c0 : i - ld (ah w) < 0
  · have e : i = 0 := by omega
    rw [e, wb_a (by omega)]
    have := sgB_bd (ah w)
    omega
  · by_cases c1 : i - ld (ah w) < ln w
    · rw [wb_l (by omega) c1]
      obtain ⟨d1, d2, d3⟩ := b11 (i - ld (ah w)).toNat (by omega)
      omega
    · rw [wb_b b1 (by omega)]
      unfold sgN
      rw [if_neg (by omega)]
      have := sgB_bd (bh w)
      omega
theorem q6_wb (R : RS n lt ln bd ah bh en st sh ms) {w : Nat} (hw : (w : Int) < n) {i : Int} (h0 : 0 ≤ i) (h1 : i < wlen ln ah bh w) {post : Int → Prop} (h : post (wb lt ln ah bh w i)) :
    inR i ∧ inR (ld (ah w)) ∧ (ld (ah w) ≤ i → wpX6_of ms (w : Int) 12 (fun z6 => inR (i - ld (ah w)) ∧ inR z6 ∧ (z6 ≤ (i - ld (ah w)) → wpX6_of ms (w : Int) 14 (fun z8 => wpX6_byteOf z8 (fun z9 => post z9))) ∧ (¬ z6 ≤ (i - ld (ah w)) → wpX6_of ms (w : Int) (i - ld (ah w)) (fun z10 => post (97 + z10))))) ∧ (¬ ld (ah w) ≤ i → wpX6_of ms (w : Int) 13 (fun z11 => wpX6_byteOf z11 (fun z12 => post z12))) := by
  obtain ⟨b1, b2, b3, b4, b5, b6, b7, b8, b9, b10, b11, b12⟩ := R.2.2.2.2.2.2.2 w hw
  have hn := R.2.2.1
  have q1 := ld_01 (ah w)
  have q2 := ld_01 (bh w)
  unfold wlen at h1
  refine ⟨inR_of (by omega), inR_of (by omega), fun c0 => q6_of (16 * w + 27) (by omega) (by omega) ?_, fun c0 => q6_of (16 * w + 28) (by omega) (by omega) ?_⟩
  · rw [b3]
    refine ⟨inR_of (by omega), inR_of (by omega), fun c1 => q6_of (16 * w + 29) (by omega) (by omega) ?_, fun c1 => q6_of (16 * w + (15 + (i - ld (ah w)).toNat)) (by omega) (by omega) ?_⟩
    · rw [b5]
      rw [wb_b b1 (by omega)] at h
      unfold sgN at h
      rw [if_neg (by omega)] at h
      exact q6_byteOf (by omega) (by omega) h
    · rw [(b11 (i - ld (ah w)).toNat (by omega)).1]
      rw [wb_l (by omega) (by omega)] at h
      exact h
  · rw [b4]
    have e : i = 0 := by omega
    rw [e, wb_a (by omega)] at h
    exact q6_byteOf (by omega) (by omega) h
theorem byteLoop (R : RS n lt ln bd ah bh en st sh ms) {first words l : Nat} (hl : l < 60) (hfw : (first : Int) + words ≤ n) : ∀ (f i : Nat) (idx : Int), i + f = words → 0 ≤ idx → idx ≤ 2147483647 →
    ∃ v : Int, -1 ≤ v ∧ v ≤ 200 ∧ (v = -1 ↔ sr (wlen ln ah bh) (first + i) f + f - 1 ≤ idx) ∧
      (∀ (lv : Nat → Int) (post : Int → Prop), post v → wpX5_writtenByte_27 n lt ln ah bh lv post (f + 1) (first : Int) (words : Int) idx (i : Int)) ∧
      (∀ line : Nat → Int, line (10 * l + 2) = (words : Int) → ∀ post : Int → Prop, post v → wpX6_byteAt_19 ms line post (f + 1) (l : Int) idx (first : Int) ((first + i : Nat) : Int)) := by
  have hn := R.2.2.1
  have z2 : (10 * (l : Int) + 2).toNat = 10 * l + 2 := by omega
  intro f
  induction f with
  | zero =>
    intro i idx hi h0 h1
    refine ⟨-1, by omega, by omega, ⟨fun _ => ?_, fun _ => rfl⟩, fun lv post hp => ?_, fun line hline post hp => ?_⟩
    · show (0 : Int) + ((0 : Nat) : Int) - 1 ≤ idx
      omega
    · rw [wpX5_writtenByte_27]
      exact ⟨inR_of (by omega), inR_of (by omega), fun _ => hp, fun z => absurd (by omega) z⟩
    · rw [wpX6_byteAt_19, z2, hline]
      exact ⟨by omega, by omega, inR_of (by omega), inR_of (by omega), fun _ => hp, fun z => absurd (by omega) z⟩
  | succ f ih =>
    intro i idx hi h0 h1
    have hw : ((first + i : Nat) : Int) < n := by omega
    obtain ⟨b1, b2, b3, b4, b5, b6, b7, b8, b9, b10, -⟩ := R.2.2.2.2.2.2.2 (first + i) hw
    have hW := wlen_bd R hw
    have q1 := ld_01 (ah (first + i))
    have q2 := ld_01 (bh (first + i))
    have hsr : (f : Int) ≤ sr (wlen ln ah bh) (first + i + 1) f := by
      have key : ∀ k : Nat, k ≤ f → (k : Int) ≤ sr (wlen ln ah bh) (first + i + 1) k := by
        intro k
        induction k with
        | zero => intro _; exact Int.le_refl _
        | succ k ihk =>
          intro hk
          have h5 := ihk (by omega)
          have h6 := (wlen_bd R (w := first + i + 1 + k) (by omega)).1
          rw [sr_succ]
          omega
      exact key f (Nat.le_refl _)
    -- the reference's step, down to the written length
    have step : ∀ (line : Nat → Int) (post : Int → Prop) (k : Int → Int → Int → Int → Prop), wpX6_byteAt_74 ms line post k (l : Int) idx (first : Int) ((first + i : Nat) : Int) (ld (ah (first + i))) (ld (bh (first + i))) → wpX6_of ms ((first + i : Nat) : Int) 13 (fun z2 => inR z2 ∧ (¬ z2 = (-1) → wpX6_byteAt_55 ms line post k (l : Int) idx (first : Int) ((first + i : Nat) : Int) 1) ∧ (z2 = (-1) → wpX6_byteAt_55 ms line post k (l : Int) idx (first : Int) ((first + i : Nat) : Int) 0)) := by
      intro line post k hp
      refine q6_of (16 * (first + i) + 28) (by omega) (by omega) ?_
      rw [b4]
      have k2 : wpX6_byteAt_55 ms line post k (l : Int) idx (first : Int) ((first + i : Nat) : Int) (ld (ah (first + i))) := by
        unfold wpX6_byteAt_55
        refine q6_of (16 * (first + i) + 29) (by omega) (by omega) ?_
        rw [b5]
        rcases q2 with ⟨c, e⟩ | ⟨c, e⟩
        · rw [e] at hp
          exact ⟨inR_of (by omega), fun z => absurd c z, fun _ => hp⟩
        · rw [e] at hp
          exact ⟨inR_of (by omega), fun _ => hp, fun z => absurd z c⟩
      rcases q1 with ⟨c, e⟩ | ⟨c, e⟩
      · rw [e] at k2
        exact ⟨inR_of (by omega), fun z => absurd c z, fun _ => k2⟩
      · rw [e] at k2
        exact ⟨inR_of (by omega), fun _ => k2, fun z => absurd z c⟩
    have eW : ld (ah (first + i)) + ln (first + i) + ld (bh (first + i)) = wlen ln ah bh (first + i) := by unfold wlen; omega
    have eW2 : ln (first + i) + (ld (ah (first + i)) + ld (bh (first + i))) = wlen ln ah bh (first + i) := rfl
    rw [sr_front]
    obtain ⟨W, hWd⟩ : ∃ W : Int, wlen ln ah bh (first + i) = W := ⟨_, rfl⟩
    obtain ⟨S, hS⟩ : ∃ S : Int, sr (wlen ln ah bh) (first + i + 1) f = S := ⟨_, rfl⟩
    have hW3 : 1 ≤ W ∧ W ≤ 14 := by rw [← hWd]; exact hW
    have cls : ∀ (lv : Nat → Int) (post : Int → Prop), (inR idx ∧ inR W ∧ (W ≤ idx → inR idx ∧ inR W ∧ (¬ idx = W → wpX5_writtenByte_27 n lt ln ah bh lv post (f + 1) (first : Int) (words : Int) (idx - (W + 1)) ((i : Int) + 1)) ∧ (idx = W → inR ((i : Int) + 1) ∧ inR (words : Int) ∧ ((words : Int) ≤ ((i : Int) + 1) → post (-1)) ∧ (¬ (words : Int) ≤ ((i : Int) + 1) → post 32))) ∧ (¬ W ≤ idx → wpX3_writtenByteOf n lt ln ah bh ((first : Int) + i) idx (fun z6 => post z6))) → wpX5_writtenByte_27 n lt ln ah bh lv post (f + 1 + 1) (first : Int) (words : Int) idx (i : Int) := by
      intro lv post hp
      rw [wpX5_writtenByte_27]
      refine ⟨inR_of (by omega), inR_of (by omega), fun z => absurd z (by omega), fun _ => ?_⟩
      rw [show (first : Int) + (i : Int) = ((first + i : Nat) : Int) by omega] at hp ⊢
      refine q3_writtenLength (by omega) hw hn ⟨b7, Int.le_trans b8 (by omega)⟩ ⟨b9, b10⟩ ?_
      rw [Int.toNat_natCast, eW2, hWd]
      exact hp
    have ref : ∀ (line : Nat → Int) (post : Int → Prop), line (10 * l + 2) = (words : Int) → (inR idx ∧ inR W ∧ (W ≤ idx → inR idx ∧ inR W ∧ (¬ idx = W → wpX6_byteAt_191 ms line post (wpX6_byteAt_19 ms line post (f + 1)) (l : Int) idx (first : Int) ((first + i : Nat) : Int) W) ∧ (idx = W → (((first : Int) + words) ≤ (((first + i : Nat) : Int) + 1) → wpX6_byteAt_191 ms line post (wpX6_byteAt_19 ms line post (f + 1)) (l : Int) idx (first : Int) ((first + i : Nat) : Int) W) ∧ (¬ ((first : Int) + words) ≤ (((first + i : Nat) : Int) + 1) → post 32))) ∧ (¬ W ≤ idx → post (wb lt ln ah bh (first + i) idx))) → wpX6_byteAt_19 ms line post (f + 1 + 1) (l : Int) idx (first : Int) ((first + i : Nat) : Int) := by
      intro line post hline hp
      obtain ⟨p1, p2, p3, p4⟩ := hp
      rw [wpX6_byteAt_19, z2, hline]
      refine ⟨by omega, by omega, inR_of (by omega), inR_of (by omega), fun z => absurd z (by omega), fun _ => step line post _ ?_⟩
      unfold wpX6_byteAt_74
      refine q6_of (16 * (first + i) + 27) (by omega) (by omega) ?_
      rw [b3, eW, hWd, z2, hline]
      exact ⟨p1, p2, fun c => ⟨p1, p2, (p3 c).2.2.1, fun c2 => ⟨by omega, by omega, inR_of (by omega), inR_of (by omega), ((p3 c).2.2.2 c2).1, ((p3 c).2.2.2 c2).2⟩⟩, fun c => q6_wb R hw h0 (by omega) (p4 c)⟩
    rw [hWd, hS]
    rw [hWd] at hW
    rw [hS] at hsr
    by_cases c : W ≤ idx
    · by_cases c2 : idx = W
      · by_cases c3 : f = 0
        · refine ⟨-1, by omega, by omega, ⟨fun _ => ?_, fun _ => rfl⟩, fun lv post hp => cls lv post ⟨inR_of (by omega), inR_of (by omega), fun _ => ⟨inR_of (by omega), inR_of (by omega), fun z => absurd c2 z, fun _ => ⟨inR_of (by omega), inR_of (by omega), fun _ => hp, fun z => absurd (by omega) z⟩⟩, fun z => absurd c z⟩, fun line hline post hp => ref line post hline ⟨inR_of (by omega), inR_of (by omega), fun _ => ⟨inR_of (by omega), inR_of (by omega), fun z => absurd c2 z, fun _ => ⟨fun _ => ?_, fun z => absurd (by omega) z⟩⟩, fun z => absurd c z⟩⟩
          · subst c3
            have : S = 0 := hS.symm
            omega
          · unfold wpX6_byteAt_191
            exact ⟨inR_of (by omega), fun z => absurd z (by omega), fun _ => hp⟩
        · refine ⟨32, by omega, by omega, ⟨fun z => absurd z (by decide), fun z => absurd z (by omega)⟩, fun lv post hp => cls lv post ⟨inR_of (by omega), inR_of (by omega), fun _ => ⟨inR_of (by omega), inR_of (by omega), fun z => absurd c2 z, fun _ => ⟨inR_of (by omega), inR_of (by omega), fun z => absurd z (by omega), fun _ => hp⟩⟩, fun z => absurd c z⟩, fun line hline post hp => ref line post hline ⟨inR_of (by omega), inR_of (by omega), fun _ => ⟨inR_of (by omega), inR_of (by omega), fun z => absurd c2 z, fun _ => ⟨fun z => absurd z (by omega), fun _ => hp⟩⟩, fun z => absurd c z⟩⟩
      · obtain ⟨v, d1, d2, d3, d4, d5⟩ := ih (i + 1) (idx - (W + 1)) (by omega) (by omega) (by omega)
        refine ⟨v, d1, d2, ?_, fun lv post hp => cls lv post ⟨inR_of (by omega), inR_of (by omega), fun _ => ⟨inR_of (by omega), inR_of (by omega), fun _ => ?_, fun z => absurd z c2⟩, fun z => absurd c z⟩, fun line hline post hp => ref line post hline ⟨inR_of (by omega), inR_of (by omega), fun _ => ⟨inR_of (by omega), inR_of (by omega), fun _ => ?_, fun z => absurd z c2⟩, fun z => absurd c z⟩⟩
        · rw [d3, show first + (i + 1) = first + i + 1 by omega, hS]
          constructor <;> intro h <;> omega
        · have h8 := d4 lv post hp
          rw [show ((i + 1 : Nat) : Int) = (i : Int) + 1 by omega] at h8
          exact h8
        · have h8 := d5 line hline post hp
          unfold wpX6_byteAt_191
          rw [show ((first + (i + 1) : Nat) : Int) = ((first + i : Nat) : Int) + 1 by omega] at h8
          exact ⟨inR_of (by omega), fun _ => h8, fun z => absurd (by omega) z⟩
    · have hb := wb_bd R hw h0 (by omega)
      refine ⟨wb lt ln ah bh (first + i) idx, by omega, by omega, ⟨fun z => absurd z (by omega), fun z => absurd z (by omega)⟩, fun lv post hp => cls lv post ⟨inR_of (by omega), inR_of (by omega), fun z => absurd z c, fun _ => ?_⟩, fun line hline post hp => ref line post hline ⟨inR_of (by omega), inR_of (by omega), fun z => absurd z c, fun _ => hp⟩⟩
      rw [show (first : Int) + (i : Int) = ((first + i : Nat) : Int) by omega]
      exact q3_writtenByteOf (by omega) hw hn ⟨b7, Int.le_trans b8 (by omega)⟩ ⟨b9, b10⟩ ⟨b1, b2⟩ ⟨h0, h1⟩ hp
end Byte
