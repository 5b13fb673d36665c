theorem pageSim {n : Int} {lt ln bd ah bh en st sh ms : Nat → Int} (R : RS n lt ln bd ah bh en st sh ms) {t : Nat → Int} (T : OKt t) (h1 : t 1 = st 1) (h4 : t 4 = st 4) {F : Nat} {P : Int} (hP : 0 ≤ P) :
    ∀ (f k L next : Nat) (debt : Int) (lv lo : Nat → Int), F + k = L → (k : Int) ≤ t 1 → n ≤ (next : Int) + f → 0 ≤ debt → debt ≤ 200 → LOK n en L (next : Int) lv lo →
    ∃ (k' next' : Nat) (lv' lo' : Nat → Int), k ≤ k' ∧ (k' : Int) ≤ t 1 ∧ (n ≤ (next' : Int) ∨ (k' : Int) = t 1) ∧ ((next : Int) < n → (k : Int) < t 1 → k < k') ∧ LOK n en (F + k') (next' : Int) lv' lo' ∧ (∀ j : Nat, j < 12 * L → lv' j = lv j) ∧
      (∀ (pv : Nat → Int) (post : Int → Int → Int → (Nat → Int) → (Nat → Int) → (Nat → Int) → Int → Int → Int → Int → Int → Int → Int → Int → Prop) (x1 x2 x3 x4 x5 x6 x7 x8 : Int), (∀ y1 y2 y3 y4 y5 y6 y7 y8 : Int, wpX1_fillPage_110 t n bd ah bh en sh post ((F + k' : Nat) : Int) P lv' pv lo' y1 y2 y3 y4 y5 y6 y7 y8 (F : Int) (t 1) (next' : Int)) → ∃ n0 : Nat, wpX1_fillPage_22 t n bd ah bh en sh post n0 ((L : Nat) : Int) P lv pv lo x1 x2 x3 x4 x5 x6 x7 x8 (F : Int) (t 1) ((next : Nat) : Int) debt ((k : Nat) : Int)) ∧
      (∀ line : Nat → Int, (∀ l : Nat, l < L → LR lv line l) → ∃ line' : Nat → Int, (∀ l : Nat, l < F + k' → LR lv' line' l) ∧ ∀ (page : Nat → Int) (post : Int → Int → Int → (Nat → Int) → (Nat → Int) → Prop), wpX6_setPage_87 (t 0) (t 2) (t 3) ms post ((F + k' : Nat) : Int) P line' page (next' : Int) (k' : Int) (F : Int) → ∃ n0 : Nat, wpX6_setPage_13 (t 0) (t 2) (t 3) ms post n0 ((L : Nat) : Int) P line page ((next : Nat) : Int) debt ((k : Nat) : Int) (F : Int)) := by
  have T' := T
  obtain ⟨t0, t0', t1, t1', t2, t2', t3, t3', t4, t4', t5⟩ := T
  have hn := R.2.2.1
  have e1 : ms 1 = t 1 := by rw [h1]; exact R.2.2.2.1 1 (by omega)
  have e14 := R.1
  have stop : ∀ (k L next : Nat) (debt : Int) (lv lo : Nat → Int), F + k = L → (k : Int) ≤ t 1 → (n ≤ (next : Int) ∨ (k : Int) = t 1) → LOK n en L (next : Int) lv lo →
    ∃ (k' next' : Nat) (lv' lo' : Nat → Int), k ≤ k' ∧ (k' : Int) ≤ t 1 ∧ (n ≤ (next' : Int) ∨ (k' : Int) = t 1) ∧ ((next : Int) < n → (k : Int) < t 1 → k < k') ∧ LOK n en (F + k') (next' : Int) lv' lo' ∧ (∀ j : Nat, j < 12 * L → lv' j = lv j) ∧
      (∀ (pv : Nat → Int) (post : Int → Int → Int → (Nat → Int) → (Nat → Int) → (Nat → Int) → Int → Int → Int → Int → Int → Int → Int → Int → Prop) (x1 x2 x3 x4 x5 x6 x7 x8 : Int), (∀ y1 y2 y3 y4 y5 y6 y7 y8 : Int, wpX1_fillPage_110 t n bd ah bh en sh post ((F + k' : Nat) : Int) P lv' pv lo' y1 y2 y3 y4 y5 y6 y7 y8 (F : Int) (t 1) (next' : Int)) → ∃ n0 : Nat, wpX1_fillPage_22 t n bd ah bh en sh post n0 ((L : Nat) : Int) P lv pv lo x1 x2 x3 x4 x5 x6 x7 x8 (F : Int) (t 1) ((next : Nat) : Int) debt ((k : Nat) : Int)) ∧
      (∀ line : Nat → Int, (∀ l : Nat, l < L → LR lv line l) → ∃ line' : Nat → Int, (∀ l : Nat, l < F + k' → LR lv' line' l) ∧ ∀ (page : Nat → Int) (post : Int → Int → Int → (Nat → Int) → (Nat → Int) → Prop), wpX6_setPage_87 (t 0) (t 2) (t 3) ms post ((F + k' : Nat) : Int) P line' page (next' : Int) (k' : Int) (F : Int) → ∃ n0 : Nat, wpX6_setPage_13 (t 0) (t 2) (t 3) ms post n0 ((L : Nat) : Int) P line page ((next : Nat) : Int) debt ((k : Nat) : Int) (F : Int)) := by
    intro k L next debt lv lo hk hk1 hs hL
    have hLn := hL.2.1
    subst hk
    refine ⟨k, next, lv, lo, Nat.le_refl _, hk1, hs, fun a b => absurd a (by omega), hL, fun _ _ => rfl, fun pv post x1 x2 x3 x4 x5 x6 x7 x8 hp => ⟨1, ?_⟩, fun line hline => ⟨line, hline, fun page post hp => ⟨1, ?_⟩⟩⟩
    · rw [wpX1_fillPage_22]
      refine ⟨inR_of (by omega), inR_of (by omega), fun _ => hp _ _ _ _ _ _ _ _, fun c => ⟨inR_of (by omega), inR_of (by omega), fun _ => hp _ _ _ _ _ _ _ _, fun c2 => absurd c2 (by omega)⟩⟩
    · rw [wpX6_setPage_13]
      refine ⟨inR_of (by omega), inR_of (by omega), fun _ => hp, fun c => ⟨inR_of (by omega), inR_of (by omega), fun _ => hp, fun c2 => absurd c2 (by omega)⟩⟩
  intro f
  induction f with
  | zero =>
    intro k L next debt lv lo hk hk1 hf hd hd2 hL
    exact stop k L next debt lv lo hk hk1 (Or.inl (by omega)) hL
  | succ f ih =>
    intro k L next debt lv lo hk hk1 hf hd hd2 hL
    by_cases hs : n ≤ (next : Int) ∨ (k : Int) = t 1
    · exact stop k L next debt lv lo hk hk1 hs hL
    · have hnx : (next : Int) < n := by omega
      have hkt : (k : Int) < t 1 := by omega
      have hLn := hL.1
      have hL60 : L < 60 := by omega
      have fa := rwOf_facts R.okw T' (first := next) (debt := debt) (later := t 1 - 1 - (k : Int)) hnx hd
      obtain ⟨r, hr⟩ : ∃ r : RW, rwOf n bd ah bh en sh t next debt (t 1 - 1 - (k : Int)) = r := ⟨_, rfl⟩
      obtain ⟨pays, hpy⟩ : ∃ pays : Int, (if t 4 < debt then t 4 else debt) = pays := ⟨_, rfl⟩
      rw [hr, hpy] at fa
      have hpd : 0 ≤ pays ∧ pays ≤ 10 ∧ pays ≤ debt := by rw [← hpy]; split <;> omega
      obtain ⟨f1, f2, f3, f4, f5, f6, f7, f8, f9, f10, f11⟩ := fa
      have hlim : t 4 * (t 1 - 1 - (k : Int)) ≤ 190 := by
        have h1 : t 4 * (t 1 - 1 - (k : Int)) ≤ 10 * (t 1 - 1 - (k : Int)) := Int.mul_le_mul_of_nonneg_right t4' (by omega)
        omega
      obtain ⟨q, hq⟩ := Int.eq_ofNat_of_zero_le (show 0 ≤ r.1 by omega)
      have hpe := R.2.2.2.2.2.2.1
      obtain ⟨lv1, hk1', hl1⟩ := line_ex lv L P (next : Int) r.1 r.2.1 (t 0 - pays) r.2.2.1 r.2.2.2.1 pays (debt - pays + (r.2.2.1 + r.2.2.2.1)) r.2.2.2.2 (pe n en ((next : Int) + r.1 - 1))
      obtain ⟨lo1, hlo1⟩ := lo_ex lo (L : Int) (next : Int) ((next : Int) + r.1)
      have hLOK : LOK n en (L + 1) ((next + q : Nat) : Int) lv1 lo1 := by
        have h9 := hL.push f1 f2 (by omega) hk1' hl1 hlo1 ⟨f3, f4, by omega, by omega, f5, f6, f7, f8, hpd.1, hpd.2.1, by omega, by omega, f9, f10⟩
        rw [show ((next + q : Nat) : Int) = (next : Int) + r.1 by omega]
        exact h9
      obtain ⟨k', next', lv', lo', c1, c2, c3, c4, c5, c6, c7, c8⟩ := ih (k + 1) (L + 1) (next + q) (debt - pays + (r.2.2.1 + r.2.2.2.1)) lv1 lo1 (by omega) (by omega) (by omega) (by omega) (by omega) hLOK
      refine ⟨k', next', lv', lo', by omega, c2, c3, fun _ _ => by omega, c5, fun j hj => (c6 j (by omega)).trans (hk1' j (Or.inl hj)), fun pv post x1 x2 x3 x4 x5 x6 x7 x8 hp => ?_, fun line hline => ?_⟩
      · -- the class
        obtain ⟨n0, h0⟩ := c7 pv post r.1 r.2.1 (t 0 - pays) r.2.2.1 r.2.2.2.1 pays (debt - pays + (r.2.2.1 + r.2.2.2.1)) r.2.2.2.2 hp
        refine ⟨n0 + 1, ?_⟩
        rw [wpX1_fillPage_22]
        refine ⟨inR_of (by omega), inR_of (by omega), fun c => absurd c (by omega), fun _ => ⟨inR_of (by omega), inR_of (by omega), fun c => absurd c (by omega), fun _ => q2_choose R.okw T' hnx ⟨hd, by omega⟩ ⟨by omega, by omega⟩ (fun r2 hr2 => ?_)⟩⟩
        rw [hr] at hr2
        have hr3 := hr2.symm
        subst hr3
        rw [hpy]
        refine q3_endsParagraph (by omega) (by omega) hn (hpe _ (by omega)) ?_
        refine q1_addLine hL60 f9 (pe_01 _ _ _) (by omega) f1 (by omega) (fun lv2 lo2 a1 a2 a3 => ?_)
        have e2 : lv2 = lv1 := lineIs_ext hk1' a1 hl1 a2
        have e3 : lo2 = lo1 := funext (fun w => (a3 w).trans (hlo1 w).symm)
        subst e2
        subst e3
        rw [show ((L + 1 : Nat) : Int) = (L : Int) + 1 by omega, show ((next + q : Nat) : Int) = (next : Int) + r.1 by omega, show ((k + 1 : Nat) : Int) = (k : Int) + 1 by omega] at h0
        exact h0
      · -- the reference
        obtain ⟨line1, hm1, hr1⟩ := mrow_ex line L P (next : Int) debt (t 0 - pays) pays (debt - pays) r
        obtain ⟨line', d1, d2⟩ := c8 line1 (LR.push hline hk1' hm1 hl1 hr1 rfl rfl rfl rfl rfl rfl)
        refine ⟨line', d1, fun page post hp => ?_⟩
        obtain ⟨n0, h0⟩ := d2 page post hp
        refine ⟨n0 + 1, ?_⟩
        rw [wpX6_setPage_13]
        refine ⟨inR_of (by omega), inR_of (by omega), fun c => absurd c (by omega), fun _ => ⟨inR_of (by omega), inR_of (by omega), fun c => absurd c (by omega), fun _ => ?_⟩⟩
        rw [e1]
        refine q6_row R T' h4 hL60 hnx ⟨hd, by omega⟩ ⟨by omega, by omega⟩ (fun line2 hm2 r2 hr2 hi2 => ?_)
        rw [hr] at hr2
        have hr3 := hr2.symm
        subst hr3
        rw [hpy] at hi2
        have e2 : line2 = line1 := mrowIs_ext hm1 hm2 hr1 hi2
        subst e2
        have e8 : line2 ((10 * (L : Int)) + 8).toNat = debt - pays + (r.2.2.1 + r.2.2.2.1) := by
          rw [show ((10 * (L : Int)) + 8).toNat = 10 * L + 8 by omega]
          exact hr1.2.2.2.2.2.2.2.2.1
        rw [e8]
        rw [show ((L + 1 : Nat) : Int) = (L : Int) + 1 by omega, show ((next + q : Nat) : Int) = (next : Int) + r.1 by omega, show ((k + 1 : Nat) : Int) = (k : Int) + 1 by omega] at h0
        exact ⟨by omega, by omega, h0⟩
