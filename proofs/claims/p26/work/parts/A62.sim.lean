/-! Lines and pages: the class's tables and the reference's, side by side. -/
def rwFacts (n own dl lim : Int) (first : Nat) (r : RW) : Prop :=
  1 ≤ r.1 ∧ (first : Int) + r.1 ≤ n ∧ 0 ≤ r.2.1 ∧ r.2.1 ≤ 6000 ∧ 0 ≤ r.2.2.1 ∧ r.2.2.1 ≤ 10 ∧ 0 ≤ r.2.2.2.1 ∧ r.2.2.2.1 ≤ 10 ∧ (r.2.2.2.2 = 0 ∨ r.2.2.2.2 = 1) ∧ (r.2.2.2.2 = 0 → 0 ≤ own + (r.2.2.1 + r.2.2.2.1) - r.2.1 ∧ own + (r.2.2.1 + r.2.2.2.1) - r.2.1 ≤ 200) ∧ (r.2.2.1 + r.2.2.2.1 = 0 ∨ dl + (r.2.2.1 + r.2.2.2.1) ≤ lim)
theorem rowGo_facts {n : Int} {W RO E : Nat → Int} {own left dl lim : Int} {first : Nat} (hn : n ≤ 60) (hW : ∀ w : Nat, (w : Int) < n → 2 ≤ W w ∧ W w ≤ 78) (hR : ∀ w : Nat, (w : Int) < n → 0 ≤ RO w ∧ RO w ≤ 10) (ho : 0 ≤ own ∧ own ≤ 200) (hl : 0 ≤ left ∧ left ≤ 10) :
    ∀ (f w : Nat) (nat : Int) (a : RW), first ≤ w → (w : Int) < n → 0 ≤ nat → nat ≤ 80 * ((w : Int) - first) → rwFacts n own dl lim first a → rwFacts n own dl lim first (rowGo n W RO E own left dl lim first f w nat a) := by
  intro f
  induction f with
  | zero => intro w nat a _ _ _ _ h; exact h
  | succ f ih =>
    intro w nat a h1 h2 h3 h4 h5
    have hw := hW w h2
    have hr := hR w h2
    have hs : rwFacts n own dl lim first (rowStep W RO own left dl lim first w nat a) := by
      generalize hnd : (if own < nat + W w then nat + W w - own else 0) = nd
      rw [rowStep_eq hnd.symm]
      have nd1 : 0 ≤ nd ∧ nd ≤ 6000 ∧ 0 ≤ own + nd - (nat + W w) ∧ own + nd - (nat + W w) ≤ 200 := by rw [← hnd]; split <;> omega
      split
      · rename_i c
        generalize hmn : (if RO w < nd then RO w else nd) = mn
        have m1 : 0 ≤ mn ∧ mn ≤ 10 ∧ 0 ≤ nd - mn ∧ nd - mn ≤ 10 := by rw [← hmn]; split <;> omega
        unfold rwFacts
        refine ⟨?_, ?_, ?_, ?_, ?_, ?_, ?_, ?_, Or.inl rfl, fun _ => ?_, ?_⟩ <;> simp only [] <;> omega
      · exact h5
    rw [rowGo]
    split
    · exact ih (w + 1) _ _ (by omega) (by omega) (by omega) (by omega) hs
    · exact hs
theorem rwOf_facts {n : Int} {bd ah bh en sh t : Nat → Int} (H : OKw n bd ah bh en sh) (T : OKt t) {first : Nat} {debt later : Int} (hf : (first : Int) < n) (hd : 0 ≤ debt) :
    rwFacts n (t 0 - (if t 4 < debt then t 4 else debt)) (debt - (if t 4 < debt then t 4 else debt)) (t 4 * later) first (rwOf n bd ah bh en sh t first debt later) := by
  obtain ⟨t0, t0', t1, t1', t2, t2', t3, t3', t4, t4', t5⟩ := T
  obtain ⟨b1, b2, b3, b4, b5, b6, b7⟩ := H.2.2.1 first hf
  have hov := ov_bd b3 b4 H.2.2.2
  have hw := cW_bd H hf
  have hpd : 0 ≤ (if t 4 < debt then t 4 else debt) ∧ (if t 4 < debt then t 4 else debt) ≤ 10 ∧ (if t 4 < debt then t 4 else debt) ≤ debt := by split <;> omega
  refine rowGo_facts H.2.1 (fun w hw => cW_bd H hw) (fun w hw => ?_) (by omega) (by split <;> omega) _ _ _ _ (Nat.le_refl _) hf (by omega) (by omega) ?_
  · have := cR_bd H ⟨t3, t3'⟩ hw
    omega
  · unfold rwFacts
    refine ⟨?_, ?_, ?_, ?_, ?_, ?_, ?_, ?_, Or.inr rfl, fun z => absurd (show (1 : Int) = 0 from z) (by decide), Or.inl rfl⟩ <;> simp only [] <;> omega
/-- what is known of one line -/
def LF (n : Int) (en lv : Nat → Int) (l : Nat) : Prop :=
  0 ≤ lv (12 * l + 1) ∧ 1 ≤ lv (12 * l + 2) ∧ lv (12 * l + 1) + lv (12 * l + 2) ≤ n ∧ 0 ≤ lv (12 * l + 3) ∧ lv (12 * l + 3) ≤ 6000 ∧ 0 ≤ lv (12 * l + 4) ∧ lv (12 * l + 4) ≤ 200 ∧ 0 ≤ lv (12 * l + 5) ∧ lv (12 * l + 5) ≤ 10 ∧ 0 ≤ lv (12 * l + 6) ∧ lv (12 * l + 6) ≤ 10 ∧ 0 ≤ lv (12 * l + 7) ∧ lv (12 * l + 7) ≤ 10 ∧ 0 ≤ lv (12 * l + 8) ∧ lv (12 * l + 8) ≤ 200 ∧ (lv (12 * l + 9) = 0 ∨ lv (12 * l + 9) = 1) ∧ lv (12 * l + 10) = pe n en (lv (12 * l + 1) + lv (12 * l + 2) - 1) ∧ lv (12 * l + 11) = (if lv (12 * l + 9) = 0 then lv (12 * l + 4) + (lv (12 * l + 5) + lv (12 * l + 6)) - lv (12 * l + 3) else 0) ∧ 0 ≤ lv (12 * l + 11) ∧ lv (12 * l + 11) ≤ 200
theorem LF.cong {n : Int} {en lv lv' : Nat → Int} {l : Nat} (h : ∀ j : Nat, j < 12 → lv' (12 * l + j) = lv (12 * l + j)) (hf : LF n en lv l) : LF n en lv' l := by
  unfold LF at hf ⊢
  rw [h 1 (by omega), h 2 (by omega), h 3 (by omega), h 4 (by omega), h 5 (by omega), h 6 (by omega), h 7 (by omega), h 8 (by omega), h 9 (by omega), h 10 (by omega), h 11 (by omega)]
  exact hf
def LOK (n : Int) (en : Nat → Int) (L : Nat) (next : Int) (lv lo : Nat → Int) : Prop :=
  (L : Int) ≤ next ∧ next ≤ n ∧ (∀ l : Nat, l < L → LF n en lv l) ∧ (∀ l : Nat, l + 1 < L → lv (12 * (l + 1) + 1) = lv (12 * l + 1) + lv (12 * l + 2)) ∧ (0 < L → lv 1 = 0) ∧ (L = 0 → next = 0) ∧ (∀ l : Nat, l + 1 = L → next = lv (12 * l + 1) + lv (12 * l + 2)) ∧
  (∀ w : Nat, (w : Int) < next → ∃ l : Nat, l < L ∧ lo w = (l : Int) ∧ lv (12 * l + 1) ≤ (w : Int) ∧ (w : Int) < lv (12 * l + 1) + lv (12 * l + 2))
theorem LOK.push {n : Int} {en : Nat → Int} {L : Nat} {next : Int} {lv lo lv' lo' : Nat → Int} {P words nat own left right paid debt wide : Int} (h : LOK n en L next lv lo) (h1 : 1 ≤ words) (h2 : next + words ≤ n) (h0 : 0 ≤ next)
    (hk : ∀ k : Nat, k < 12 * L ∨ 12 * L + 12 ≤ k → lv' k = lv k) (hl : lineIs lv' L P next words nat own left right paid debt wide (pe n en (next + words - 1))) (hlo : ∀ w : Nat, lo' w = if next ≤ (w : Int) ∧ (w : Int) < next + words then (L : Int) else lo w)
    (b : 0 ≤ nat ∧ nat ≤ 6000 ∧ 0 ≤ own ∧ own ≤ 200 ∧ 0 ≤ left ∧ left ≤ 10 ∧ 0 ≤ right ∧ right ≤ 10 ∧ 0 ≤ paid ∧ paid ≤ 10 ∧ 0 ≤ debt ∧ debt ≤ 200 ∧ (wide = 0 ∨ wide = 1) ∧ (wide = 0 → 0 ≤ own + (left + right) - nat ∧ own + (left + right) - nat ≤ 200)) : LOK n en (L + 1) (next + words) lv' lo' := by
  obtain ⟨a1, a2, a3, a4, a5, a6, a7, a8⟩ := h
  obtain ⟨c0, c1, c2, c3, c4, c5, c6, c7, c8, c9, c10, c11⟩ := hl
  have hold : ∀ l j : Nat, l < L → j < 12 → lv' (12 * l + j) = lv (12 * l + j) := fun l j hl hj => hk _ (Or.inl (by omega))
  refine ⟨by omega, h2, fun l hl => ?_, fun l hl => ?_, fun _ => ?_, fun z => absurd z (by omega), fun l hl => ?_, fun w hw => ?_⟩
  · by_cases c : l < L
    · exact (a3 l c).cong (fun j hj => hold l j c hj)
    · have e : l = L := by omega
      subst e
      unfold LF
      rw [c1, c2, c3, c4, c5, c6, c7, c8, c9, c10, c11]
      refine ⟨h0, h1, h2, ?_, ?_, ?_, ?_, ?_, ?_, ?_, ?_, ?_, ?_, ?_, ?_, b.2.2.2.2.2.2.2.2.2.2.2.2.1, rfl, rfl, ?_, ?_⟩ <;> first | omega | (split <;> omega)
  · by_cases c : l + 1 < L
    · rw [hold (l + 1) 1 c (by omega), hold l 1 (by omega) (by omega), hold l 2 (by omega) (by omega)]
      exact a4 l c
    · have e : l + 1 = L := by omega
      rw [e, c1, hold l 1 (by omega) (by omega), hold l 2 (by omega) (by omega)]
      exact a7 l e
  · by_cases c : 0 < L
    · have := hold 0 1 c (by omega)
      rw [show 12 * 0 + 1 = 1 from rfl] at this
      rw [this]
      exact a5 c
    · have e : L = 0 := by omega
      subst e
      rw [show (1 : Nat) = 12 * 0 + 1 from rfl, c1]
      exact a6 rfl
  · have e : l = L := by omega
    subst e
    rw [c1, c2]
  · by_cases c : next ≤ (w : Int)
    · exact ⟨L, by omega, by rw [hlo w, if_pos ⟨c, hw⟩], by rw [c1]; exact c, by rw [c1, c2]; exact hw⟩
    · obtain ⟨l, d1, d2, d3, d4⟩ := a8 w (by omega)
      exact ⟨l, by omega, by rw [hlo w, if_neg (by omega)]; exact d2, by rw [hold l 1 d1 (by omega)]; exact d3, by rw [hold l 1 d1 (by omega), hold l 2 d1 (by omega)]; exact d4⟩
theorem LOK.mono {n : Int} {en : Nat → Int} {lv lo : Nat → Int} : ∀ {L : Nat} {next : Int}, LOK n en L next lv lo → ∀ l k : Nat, l + k < L → lv (12 * l + 1) + lv (12 * l + 2) ≤ lv (12 * (l + k) + 1) + lv (12 * (l + k) + 2) := by
  intro L next h l k
  induction k with
  | zero => intro _; exact Int.le_refl _
  | succ k ih =>
    intro hk
    have h1 := ih (by omega)
    have h2 := h.2.2.2.1 (l + k) (by omega)
    have h3 := h.2.2.1 (l + k + 1) (by omega)
    have h4 := h3.2.1
    rw [show l + (k + 1) = l + k + 1 by omega]
    omega
theorem LOK.pop {n : Int} {en : Nat → Int} {L : Nat} {next : Int} {lv lo : Nat → Int} (h : LOK n en (L + 1) next lv lo) : LOK n en L (lv (12 * L + 1)) lv lo := by
  have hm := h.mono
  obtain ⟨a1, a2, a3, a4, a5, a6, a7, a8⟩ := h
  have f := a3 L (by omega)
  have e := a7 L rfl
  have f1 := f.1
  have f2 := f.2.1
  have f3 := f.2.2.1
  have key : ∀ l : Nat, l + 1 = L → lv (12 * L + 1) = lv (12 * l + 1) + lv (12 * l + 2) := fun l hl => by
    have := a4 l (by omega)
    rw [hl] at this
    exact this
  have low : ∀ k : Nat, k ≤ L → (k : Int) ≤ lv (12 * k + 1) := by
    intro k
    induction k with
    | zero => intro _; rw [show 12 * 0 + 1 = 1 from rfl, a5 (by omega)]; exact Int.le_refl _
    | succ k ih =>
      intro hk
      have h1 := ih (by omega)
      have h2 := a4 k (by omega)
      have h3 := (a3 k (by omega)).2.1
      rw [h2]
      omega
  refine ⟨low L (Nat.le_refl _), by omega, fun l hl => a3 l (by omega), fun l hl => a4 l (by omega), fun z => a5 (by omega), fun z => ?_, key, fun w hw => ?_⟩
  · subst z
    exact a5 (by omega)
  · obtain ⟨l, d1, d2, d3, d4⟩ := a8 w (by omega)
    refine ⟨l, ?_, d2, d3, d4⟩
    by_cases c : l = L
    · subst c
      omega
    · omega
def LR (lv line : Nat → Int) (l : Nat) : Prop := ∀ j : Nat, j < 10 → line (10 * l + j) = lv (12 * l + j)
theorem LR.push {lv lv' line line' : Nat → Int} {L : Nat} {P first words nat own left right paid debt wide ends debt0 dl : Int} {r : RW} (h : ∀ l : Nat, l < L → LR lv line l) (hk : ∀ k : Nat, k < 12 * L ∨ 12 * L + 12 ≤ k → lv' k = lv k) (hm : mout line line' L)
    (hl : lineIs lv' L P first words nat own left right paid debt wide ends) (hr : mrowIs line' L P first debt0 own paid dl r) (e1 : r.1 = words) (e2 : r.2.1 = nat) (e3 : r.2.2.1 = left) (e4 : r.2.2.2.1 = right) (e5 : r.2.2.2.2 = wide) (e6 : dl + (left + right) = debt) : ∀ l : Nat, l < L + 1 → LR lv' line' l := by
  intro l hl2 j hj
  by_cases c : l < L
  · rw [hk _ (Or.inl (by omega)), hm _ (Or.inl (by omega))]
    exact h l c j hj
  · have e : l = L := by omega
    subst e
    obtain ⟨c0, c1, c2, c3, c4, c5, c6, c7, c8, c9, -⟩ := hl
    obtain ⟨d0, d1, d2, d3, d4, d5, d6, d7, d8, d9⟩ := hr
    have hj2 : j = 0 ∨ j = 1 ∨ j = 2 ∨ j = 3 ∨ j = 4 ∨ j = 5 ∨ j = 6 ∨ j = 7 ∨ j = 8 ∨ j = 9 := by omega
    rcases hj2 with rfl | rfl | rfl | rfl | rfl | rfl | rfl | rfl | rfl | rfl
    · rw [Nat.add_zero, Nat.add_zero, d0, c0]
    · rw [d1, c1]
    · rw [d2, c2, e1]
    · rw [d3, c3, e2]
    · rw [d4, c4]
    · rw [d5, c5, e3]
    · rw [d6, c6, e4]
    · rw [d7, c7]
    · rw [d8, c8, e3, e4, e6]
    · rw [d9, c9, e5]
