/-! The longest row that fits: the class keeps the last one that it meets, the law tries the longest first. -/
def ndq (W : Nat → Int) (own : Int) (a d : Nat) : Int := if own < nt W a (d + 1) then nt W a (d + 1) - own else 0
def fitq (W RO : Nat → Int) (own left dl lim : Int) (a d : Nat) : Prop := ndq W own a d = 0 ∨ (ndq W own a d ≤ left + RO (a + d) ∧ dl + ndq W own a d ≤ lim)
def resq (W RO : Nat → Int) (own : Int) (a d : Nat) : RW := ((d : Int) + 1, nt W a (d + 1), ndq W own a d - (if RO (a + d) < ndq W own a d then RO (a + d) else ndq W own a d), (if RO (a + d) < ndq W own a d then RO (a + d) else ndq W own a d), 0)
theorem rowStep_yes {W RO : Nat → Int} {own left dl lim nat : Int} {a d : Nat} {r : RW} (hn : nat + W (a + d) = nt W a (d + 1)) (h : fitq W RO own left dl lim a d) : rowStep W RO own left dl lim a (a + d) nat r = resq W RO own a d := by
  have h2 : ndq W own a d = 0 ∨ (ndq W own a d ≤ left + RO (a + d) ∧ dl + ndq W own a d ≤ lim) := h
  rw [rowStep_eq (nd := ndq W own a d) (by rw [hn]; rfl), if_pos h2, hn]
  unfold resq
  rw [show ((a + d : Nat) : Int) - (a : Int) + 1 = (d : Int) + 1 by omega]
theorem rowStep_no {W RO : Nat → Int} {own left dl lim nat : Int} {a d : Nat} {r : RW} (hn : nat + W (a + d) = nt W a (d + 1)) (h : ¬ fitq W RO own left dl lim a d) : rowStep W RO own left dl lim a (a + d) nat r = r := by
  have h2 : ¬ (ndq W own a d = 0 ∨ (ndq W own a d ≤ left + RO (a + d) ∧ dl + ndq W own a d ≤ lim)) := h
  rw [rowStep_eq (nd := ndq W own a d) (by rw [hn]; rfl), if_neg h2]
theorem rowGo_last {n : Int} {W RO E : Nat → Int} {own left dl lim : Int} {a D : Nat} (hD : ((a + D : Nat) : Int) ≤ n) (hin : ∀ p : Nat, p + 1 < D → E (a + p) = 0) (hend : ∀ p : Nat, p + 1 = D → ¬ (E (a + p) = 0 ∧ ((a + p : Nat) : Int) + 1 < n)) :
    ∀ (f d : Nat) (nat : Int) (r : RW), d < D → D ≤ d + f → nat = 2 * (d : Int) + sr W a d →
      (∃ p : Nat, d ≤ p ∧ p < D ∧ fitq W RO own left dl lim a p ∧ (∀ p' : Nat, p < p' → p' < D → ¬ fitq W RO own left dl lim a p') ∧ rowGo n W RO E own left dl lim a f (a + d) nat r = resq W RO own a p) ∨
      ((∀ p : Nat, d ≤ p → p < D → ¬ fitq W RO own left dl lim a p) ∧ rowGo n W RO E own left dl lim a f (a + d) nat r = r) := by
  intro f
  induction f with
  | zero => intro d nat r h1 h2; omega
  | succ f ih =>
    intro d nat r h1 h2 h3
    have hn : nat + W (a + d) = nt W a (d + 1) := by rw [nt_succ, h3]
    rw [rowGo]
    by_cases hl : d + 1 = D
    · rw [if_neg (hend d hl)]
      by_cases hf : fitq W RO own left dl lim a d
      · exact Or.inl ⟨d, Nat.le_refl _, h1, hf, fun p' h4 h5 => absurd h5 (by omega), rowStep_yes hn hf⟩
      · refine Or.inr ⟨fun p h4 h5 => ?_, rowStep_no hn hf⟩
        rw [show p = d by omega]
        exact hf
    · rw [if_pos ⟨hin d (by omega), by omega⟩]
      have h4 := ih (d + 1) (nat + W (a + d) + 2) (rowStep W RO own left dl lim a (a + d) nat r) (by omega) (by omega) (by rw [sr_succ, h3]; omega)
      rw [show a + (d + 1) = a + d + 1 by omega] at h4
      rcases h4 with ⟨p, q1, q2, q3, q4, q5⟩ | ⟨q1, q2⟩
      · exact Or.inl ⟨p, by omega, q2, q3, q4, q5⟩
      · by_cases hf : fitq W RO own left dl lim a d
        · exact Or.inl ⟨d, Nat.le_refl _, h1, hf, fun p' h5 h6 => q1 p' (by omega) h6, q2.trans (rowStep_yes hn hf)⟩
        · refine Or.inr ⟨fun p h5 h6 => ?_, q2.trans (rowStep_no hn hf)⟩
          by_cases c : p = d
          · rw [c]; exact hf
          · exact q1 p (by omega) h6
/-- how many words the row may have -/
theorem ex_D {n : Int} {en : Nat → Int} : ∀ (k a : Nat), ((a + k + 1 : Nat) : Int) = n → ∃ D : Nat, 1 ≤ D ∧ ((a + D : Nat) : Int) ≤ n ∧ (∀ p : Nat, p + 1 < D → pe n en ((a + p : Nat) : Int) = 0) ∧ (∀ p : Nat, p + 1 = D → pe n en ((a + p : Nat) : Int) = 1) := by
  intro k
  induction k with
  | zero =>
    intro a h
    refine ⟨1, by omega, by omega, fun p hp => absurd hp (by omega), fun p hp => ?_⟩
    unfold pe
    exact if_pos (Or.inr (by omega))
  | succ k ih =>
    intro a h
    by_cases c : pe n en (a : Int) = 1
    · refine ⟨1, by omega, by omega, fun p hp => absurd hp (by omega), fun p hp => ?_⟩
      rw [show a + p = a by omega]
      exact c
    · obtain ⟨D, d1, d2, d3, d4⟩ := ih (a + 1) (by omega)
      refine ⟨D + 1, by omega, by omega, fun p hp => ?_, fun p hp => ?_⟩
      · by_cases c2 : p = 0
        · rw [c2, Nat.add_zero]
          rcases pe_01 n en (a : Int) with q | q
          · exact q
          · exact absurd q c
        · have := d3 (p - 1) (by omega)
          rw [show a + 1 + (p - 1) = a + p by omega] at this
          exact this
      · have := d4 (p - 1) (by omega)
        rw [show a + 1 + (p - 1) = a + p by omega] at this
        exact this
theorem pe_zero {n : Int} {en : Nat → Int} {w : Nat} (he : en w = 0 ∨ en w = 1) (h : pe n en (w : Int) = 0) : en w = 0 := by
  unfold pe at h
  rw [Int.toNat_natCast] at h
  by_cases c : en w = 1 ∨ (w : Int) = n - 1
  · rw [if_pos c] at h
    omega
  · omega
theorem pe_one {n : Int} {en : Nat → Int} {w : Nat} (h : pe n en (w : Int) = 1) : ¬ (en w = 0 ∧ (w : Int) + 1 < n) := by
  unfold pe at h
  rw [Int.toNat_natCast] at h
  by_cases c : en w = 1 ∨ (w : Int) = n - 1
  · omega
  · rw [if_neg c] at h
    omega
def xrow (x : Nat → Int) (L : Nat) (first pays : Int) (r : RW) : Prop := x (6 * L) = first ∧ x (6 * L + 1) = r.1 ∧ x (6 * L + 2) = r.2.2.1 ∧ x (6 * L + 3) = r.2.2.2.1 ∧ x (6 * L + 4) = pays ∧ x (6 * L + 5) = r.2.2.2.2
def xout (x x' : Nat → Int) (L : Nat) : Prop := ∀ k : Nat, k < 6 * L ∨ 6 * L + 6 ≤ k → x' k = x k
/-- the law's left part and right part of what may be lent, as the class has them -/
def lfO (ah sh st : Nat → Int) (a : Nat) : Int := if st 2 < ov sh (ah a) then st 2 else ov sh (ah a)
theorem sr_bd {g : Nat → Int} {a : Nat} {lo hi : Int} : ∀ k : Nat, (∀ i : Nat, a ≤ i → i < a + k → lo ≤ g i ∧ g i ≤ hi) → lo * (k : Int) ≤ sr g a k ∧ sr g a k ≤ hi * (k : Int) := by
  intro k
  induction k with
  | zero => intro _; simp [sr]
  | succ k ih =>
    intro h
    have h1 := ih (fun i h1 h2 => h i h1 (by omega))
    have h2 := h (a + k) (by omega) (by omega)
    rw [sr_succ]
    have e1 : lo * ((k + 1 : Nat) : Int) = lo * (k : Int) + lo := by rw [Int.natCast_add, Int.mul_add]; simp
    have e2 : hi * ((k + 1 : Nat) : Int) = hi * (k : Int) + hi := by rw [Int.natCast_add, Int.mul_add]; simp
    rw [e1, e2]
    omega
