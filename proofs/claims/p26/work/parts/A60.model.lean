/-! The reference's small methods, over a row of numbers that tells the class's words. -/
def RS (n : Int) (lt ln bd ah bh en st sh ms : Nat → Int) : Prop :=
  ms 14 = n ∧ 0 ≤ n ∧ n ≤ 60 ∧ (∀ i : Nat, i < 6 → ms i = st i) ∧ (∀ i : Nat, i < 8 → ms (6 + i) = sh i ∧ 0 ≤ sh i ∧ sh i ≤ 100) ∧ OKt st ∧ (∀ i : Nat, i < 60 → en i = 0 ∨ en i = 1) ∧
  ∀ w : Nat, (w : Int) < n → 1 ≤ ln w ∧ ln w ≤ 12 ∧ ms (16 * w + 27) = ln w ∧ ms (16 * w + 28) = ah w ∧ ms (16 * w + 29) = bh w ∧ ms (16 * w + 30) = en w ∧ -1 ≤ ah w ∧ ah w ≤ 1 ∧ -1 ≤ bh w ∧ bh w ≤ 7 ∧
    (∀ k : Nat, (k : Int) < ln w → ms (16 * w + (15 + k)) = lt (12 * w + k) ∧ 0 ≤ lt (12 * w + k) ∧ lt (12 * w + k) < 26) ∧ bd w = sm (fun k => lw (lt (12 * w + k))) (ln w).toNat
theorem sm_bd {g : Nat → Int} {a b : Int} : ∀ n : Nat, (∀ k : Nat, k < n → a ≤ g k ∧ g k ≤ b) → a * n ≤ sm g n ∧ sm g n ≤ b * n := by
  intro n
  induction n with
  | zero => intro _; simp [sm]
  | succ n ih =>
    intro h
    have h1 := ih (fun k hk => h k (by omega))
    have h2 := h n (by omega)
    rw [sm]
    have e1 : a * ((n + 1 : Nat) : Int) = a * (n : Int) + a := by rw [Int.natCast_add, Int.mul_add]; simp
    have e2 : b * ((n + 1 : Nat) : Int) = b * (n : Int) + b := by rw [Int.natCast_add, Int.mul_add]; simp
    rw [e1, e2]
    omega
theorem RS.okw {n : Int} {lt ln bd ah bh en st sh ms : Nat → Int} (h : RS n lt ln bd ah bh en st sh ms) : OKw n bd ah bh en sh := by
  obtain ⟨a1, a2, a3, a4, a5, a6, a7, a8⟩ := h
  refine ⟨a2, a3, fun w hw => ?_, fun i hi => (a5 i hi).2⟩
  obtain ⟨b1, b2, b3, b4, b5, b6, b7, b8, b9, b10, b11, b12⟩ := a8 w hw
  have h2 := sm_bd (g := fun k => lw (lt (12 * w + k))) (a := 2) (b := 6) (ln w).toNat (fun k hk => by
    obtain ⟨c1, c2, c3⟩ := b11 k (by omega)
    exact lw_bd c2 c3)
  exact ⟨by omega, by omega, b7, by omega, b9, b10, a7 w (by omega)⟩
section Mod
variable {n : Int} {lt ln bd ah bh en st sh ms : Nat → Int}
theorem q6_of {ms : Nat → Int} {w k : Int} {post : Int → Prop} (i : Nat) (hi : 16 * w + 15 + k = (i : Int)) (h1 : i < 975) (h : post (ms i)) : wpX6_of ms w k post := by
  unfold wpX6_of
  have e : (15 + 16 * w + k).toNat = i := by omega
  rw [e]
  exact ⟨by omega, by omega, h⟩
theorem q6_widthOfSign {s : Int} {post : Int → Prop} (h0 : -1 ≤ s) (h1 : s ≤ 7) (h : post (sgW s)) : wpX6_widthOfSign s post := by
  have hc : s = -1 ∨ s = 0 ∨ s = 1 ∨ s = 2 ∨ s = 3 ∨ s = 4 ∨ s = 5 ∨ s = 6 ∨ s = 7 := by omega
  unfold wpX6_widthOfSign
  rcases hc with rfl | rfl | rfl | rfl | rfl | rfl | rfl | rfl | rfl <;> repeat' (first | exact h | omega | refine And.intro ?_ ?_ | intro _)
theorem lw_eq {l : Int} (h0 : 0 ≤ l) (h1 : l < 26) : lw l = if l = 5 ∨ l = 8 ∨ l = 9 ∨ l = 11 ∨ l = 19 then 2 else if l = 12 ∨ l = 22 then 6 else 4 := by
  have hc : l = 0 ∨ l = 1 ∨ l = 2 ∨ l = 3 ∨ l = 4 ∨ l = 5 ∨ l = 6 ∨ l = 7 ∨ l = 8 ∨ l = 9 ∨ l = 10 ∨ l = 11 ∨ l = 12 ∨ l = 13 ∨ l = 14 ∨ l = 15 ∨ l = 16 ∨ l = 17 ∨ l = 18 ∨ l = 19 ∨ l = 20 ∨ l = 21 ∨ l = 22 ∨ l = 23 ∨ l = 24 ∨ l = 25 := by omega
  rcases hc with rfl | rfl | rfl | rfl | rfl | rfl | rfl | rfl | rfl | rfl | rfl | rfl | rfl | rfl | rfl | rfl | rfl | rfl | rfl | rfl | rfl | rfl | rfl | rfl | rfl | rfl <;> decide
theorem q6_widthOfLetter {l : Int} {post : Int → Prop} (h0 : 0 ≤ l) (h1 : l < 26) (h : post (lw l)) : wpX6_widthOfLetter l post := by
  rw [lw_eq h0 h1] at h
  unfold wpX6_widthOfLetter wpX6_widthOfLetter_35 wpX6_widthOfLetter_40
  repeat' (first | omega | (rw [if_pos (by omega)] at h; exact h) | (rw [if_neg (by omega), if_pos (by omega)] at h; exact h) | (rw [if_neg (by omega), if_neg (by omega)] at h; exact h) | refine And.intro ?_ ?_ | intro _)
theorem q6_widthOf (R : RS n lt ln bd ah bh en st sh ms) {w : Nat} {post : Int → Prop} (hw : (w : Int) < n) (h : post (cW bd ah bh w)) : wpX6_widthOf ms (w : Int) post := by
  obtain ⟨b1, b2, b3, b4, b5, b6, b7, b8, b9, b10, b11, b12⟩ := R.2.2.2.2.2.2.2 w hw
  have hn := R.2.2.1
  unfold wpX6_widthOf
  refine q6_of (16 * w + 28) (by omega) (by omega) ?_
  rw [b4]
  refine q6_widthOfSign b7 (by omega) (q6_of (16 * w + 29) (by omega) (by omega) ?_)
  rw [b5]
  refine q6_widthOfSign b9 b10 ⟨(ln w).toNat + 1, ?_⟩
  unfold cW at h
  rw [b12] at h
  have key : ∀ (f i : Nat), i + f = (ln w).toNat → wpX6_widthOf_24 ms post (f + 1) (w : Int) (sgW (ah w) + sgW (bh w) + sm (fun k => lw (lt (12 * w + k))) i) (i : Int) := by
    intro f
    induction f with
    | zero =>
      intro i hi
      rw [wpX6_widthOf_24]
      refine q6_of (16 * w + 27) (by omega) (by omega) ?_
      rw [b3]
      refine ⟨inR_of (by omega), inR_of (by omega), fun _ => ?_, fun c => absurd (by omega) c⟩
      rw [show i = (ln w).toNat by omega]
      rw [show sgW (ah w) + sgW (bh w) + sm (fun k => lw (lt (12 * w + k))) (ln w).toNat = sm (fun k => lw (lt (12 * w + k))) (ln w).toNat + sgW (ah w) + sgW (bh w) by omega]
      exact h
    | succ f ih =>
      intro i hi
      rw [wpX6_widthOf_24]
      refine q6_of (16 * w + 27) (by omega) (by omega) ?_
      rw [b3]
      obtain ⟨c1, c2, c3⟩ := b11 i (by omega)
      refine ⟨inR_of (by omega), inR_of (by omega), fun c => absurd c (by omega), fun _ => q6_of (16 * w + (15 + i)) (by omega) (by omega) ?_⟩
      rw [c1]
      refine q6_widthOfLetter c2 c3 ?_
      have h1 := ih (i + 1) (by omega)
      rw [sm] at h1
      rw [show sgW (ah w) + sgW (bh w) + sm (fun k => lw (lt (12 * w + k))) i + lw (lt (12 * w + i)) = sgW (ah w) + sgW (bh w) + (sm (fun k => lw (lt (12 * w + k))) i + lw (lt (12 * w + i))) by omega]
      rw [show ((i + 1 : Nat) : Int) = (i : Int) + 1 by omega] at h1
      exact h1
  have h2 := key (ln w).toNat 0 (by omega)
  rw [sm, Int.add_zero] at h2
  exact h2
theorem q6_overhang (R : RS n lt ln bd ah bh en st sh ms) {s m : Int} {post : Int → Prop} (h0 : -1 ≤ s) (h1 : s ≤ 7) (hm : 0 ≤ m ∧ m ≤ 10) (h : post (if m < ov sh s then m else ov sh s)) : wpX6_overhang ms s m post := by
  have hb := ov_bd h0 h1 R.okw.2.2.2
  have key : wpX6_overhang_26 ms post m (ov sh s) := by
    unfold wpX6_overhang_26
    by_cases c : m < ov sh s
    · rw [if_pos c] at h
      exact ⟨inR_of (by omega), inR_of (by omega), fun _ => h, fun z => absurd (by omega) z⟩
    · rw [if_neg c] at h
      refine ⟨inR_of (by omega), inR_of (by omega), fun z => ?_, fun _ => h⟩
      rw [show ov sh s = m by omega] at h
      exact h
  unfold wpX6_overhang
  by_cases c : s = -1
  · unfold ov at key
    rw [if_pos c] at key
    exact ⟨inR_of (by omega), fun z => absurd c z, fun _ => key⟩
  · refine ⟨inR_of (by omega), fun _ => q6_widthOfSign h0 h1 ?_, fun z => absurd z c⟩
    unfold ov at key
    rw [if_neg c] at key
    obtain ⟨a1, a2, a3⟩ := R.2.2.2.2.1 s.toNat (by omega)
    rw [show (6 + s).toNat = 6 + s.toNat by omega, a1]
    have h3 : sgW s = 0 ∨ sgW s = 2 ∨ sgW s = 3 := by unfold sgW; split <;> (try split) <;> omega
    refine ⟨by omega, by omega, ?_, ?_, key⟩ <;> rcases h3 with h3 | h3 | h3 <;> rw [h3] <;> omega
theorem q6_endsOne (R : RS n lt ln bd ah bh en st sh ms) {w : Int} {post : Int → Prop} (h0 : 0 ≤ w) (hw : w < n) (h : post (pe n en w)) : wpX6_endsOne ms w post := by
  obtain ⟨b1, b2, b3, b4, b5, b6, b7, b8, b9, b10, b11, b12⟩ := R.2.2.2.2.2.2.2 w.toNat (by omega)
  have he := R.2.2.2.2.2.2.1 w.toNat (by have := R.2.2.1; omega)
  have hn := R.2.2.1
  unfold wpX6_endsOne
  refine q6_of (16 * w.toNat + 30) (by omega) (by omega) ?_
  rw [b6, R.1]
  unfold pe at h
  refine ⟨inR_of (by omega), fun c => ?_, fun c => ⟨inR_of (by omega), inR_of (by omega), fun c2 => ?_, fun c2 => ?_⟩⟩
  · rw [if_pos (Or.inl c)] at h; exact h
  · rw [if_neg (by omega)] at h; exact h
  · rw [if_pos (Or.inr c2)] at h; exact h
end Mod
