/-! A page's end: taking a line back. -/
section Fill
variable {n : Int} {bd ah bh en sh t : Nat → Int}
theorem c1_167 {L P F : Nat} {lv pv lo : Nat → Int} {next tk : Int} {post : Int → Int → Int → (Nat → Int) → (Nat → Int) → (Nat → Int) → Int → Int → Int → Int → Int → Int → Int → Int → Prop} {x1 x2 x3 x4 x5 x6 x7 x8 : Int} (hP : P < 60) (hF : F < L) (hL : L ≤ 60) (ht : tk = 0)
    (hp : ∀ pv' : Nat → Int, pout pv pv' P → pageIs pv' lv P F L 0 → post next (L : Int) (P + 1) lv pv' lo x1 x2 x3 x4 x5 x6 x7 x8) : wpX1_fillPage_167 t n bd ah bh en sh post (L : Int) (P : Int) lv pv lo x1 x2 x3 x4 x5 x6 x7 x8 (F : Int) next tk := by
  subst ht
  unfold wpX1_fillPage_167 wpX1_fillPage_193
  exact ⟨inR_lit rfl, fun _ => q1_addPage hP hF hL (inR_lit rfl) hp, fun z => absurd rfl z⟩
theorem c1_167b {L P F : Nat} {lv pv lo : Nat → Int} {next tk : Int} {post : Int → Int → Int → (Nat → Int) → (Nat → Int) → (Nat → Int) → Int → Int → Int → Int → Int → Int → Int → Int → Prop} {x1 x2 x3 x4 x5 x6 x7 x8 : Int} (hP : P < 60) (hF : F < L) (hL : L < 60) (ht : tk = 1)
    (hp : ∀ pv' : Nat → Int, pout pv pv' P → pageIs pv' lv P F L 1 → post (lv (12 * L + 1)) (L : Int) (P + 1) lv pv' lo x1 x2 x3 x4 x5 x6 x7 x8) : wpX1_fillPage_167 t n bd ah bh en sh post ((L + 1 : Nat) : Int) (P : Int) lv pv lo x1 x2 x3 x4 x5 x6 x7 x8 (F : Int) next tk := by
  subst ht
  unfold wpX1_fillPage_167 wpX1_fillPage_193
  rw [show ((L + 1 : Nat) : Int) - 1 = (L : Int) by omega]
  exact ⟨inR_lit rfl, fun z => absurd z (by decide), fun _ => q1_lv 1 (by omega) (by omega) (q1_addPage hP hF (by omega) (inR_lit rfl) hp)⟩
end Fill
def mpIs (page : Nat → Int) (P F L : Nat) (tk : Int) : Prop := page (3 * P) = (F : Int) ∧ page (3 * P + 1) = (L : Int) - F ∧ page (3 * P + 2) = tk
def mpout (page page' : Nat → Int) (P : Nat) : Prop := ∀ k : Nat, k < 3 * P ∨ 3 * P + 3 ≤ k → page' k = page k
theorem r6_160 {me ml mr : Int} {ms : Nat → Int} {L P F : Nat} {line page : Nat → Int} {next tk : Int} {post : Int → Int → Int → (Nat → Int) → (Nat → Int) → Prop} (hP : P < 60) (hL : L ≤ 60) (ht : tk = 0)
    (hp : ∀ page' : Nat → Int, mpout page page' P → mpIs page' P F L 0 → post next (L : Int) (P + 1) line page') : wpX6_setPage_160 me ml mr ms post (L : Int) (P : Int) line page next (F : Int) tk := by
  subst ht
  have z0 : (3 * (P : Int)).toNat = 3 * P := by omega
  have z1 : (3 * (P : Int) + 1).toNat = 3 * P + 1 := by omega
  have z2 : (3 * (P : Int) + 2).toNat = 3 * P + 2 := by omega
  unfold wpX6_setPage_160 wpX6_setPage_175 wpX6_setPage_234
  rw [z0, z1, z2]
  refine ⟨inR_lit rfl, fun _ => ⟨by omega, by omega, by omega, by omega, inR_lit rfl, fun _ => ⟨by omega, by omega, inR_lit rfl, fun _ => ?_, fun z => absurd rfl z⟩, fun z => absurd rfl z⟩, fun z => absurd rfl z⟩
  rw [Int.sub_zero]
  refine hp _ (fun k hk => ?_) ?_
  · simp only [updI]
    repeat rw [if_neg (by omega)]
  · unfold mpIs
    simp only [updI]
    refine ⟨?_, ?_, ?_⟩ <;> (repeat rw [if_neg (by omega)]) <;> first | rfl | (first | rw [if_pos rfl] | rw [if_pos trivial])
theorem r6_160b {me ml mr : Int} {ms : Nat → Int} {L P F : Nat} {line page : Nat → Int} {next tk : Int} {post : Int → Int → Int → (Nat → Int) → (Nat → Int) → Prop} (hP : P < 60) (hL : L < 60) (ht : tk = 1)
    (hp : ∀ page' : Nat → Int, mpout page page' P → mpIs page' P F L 1 → post (line (10 * L + 1)) (L : Int) (P + 1) line page') : wpX6_setPage_160 me ml mr ms post ((L + 1 : Nat) : Int) (P : Int) line page next (F : Int) tk := by
  subst ht
  have z0 : (3 * (P : Int)).toNat = 3 * P := by omega
  have z1 : (3 * (P : Int) + 1).toNat = 3 * P + 1 := by omega
  have z2 : (3 * (P : Int) + 2).toNat = 3 * P + 2 := by omega
  have z3 : (10 * (L : Int) + 1).toNat = 10 * L + 1 := by omega
  unfold wpX6_setPage_160 wpX6_setPage_175 wpX6_setPage_234
  rw [z0, z1, z2, show ((L + 1 : Nat) : Int) - 1 = (L : Int) by omega, z3]
  refine ⟨inR_lit rfl, fun z => absurd z (by decide), fun _ => ⟨by omega, by omega, by omega, by omega, inR_lit rfl, fun z => absurd z (by decide), fun _ => ⟨by omega, by omega, inR_lit rfl, fun z => absurd z (by decide), fun _ => ⟨by omega, by omega, ?_⟩⟩⟩⟩
  refine hp _ (fun k hk => ?_) ?_
  · simp only [updI]
    repeat rw [if_neg (by omega)]
  · unfold mpIs
    simp only [updI]
    refine ⟨?_, ?_, ?_⟩ <;> (repeat rw [if_neg (by omega)]) <;> first | rfl | (first | rw [if_pos rfl] | rw [if_pos trivial])
theorem fillSim {n : Int} {lt ln bd ah bh en st sh ms : Nat → Int} (R : RS n lt ln bd ah bh en st sh ms) {t : Nat → Int} (T : OKt t) (h1 : t 1 = st 1) (h4 : t 4 = st 4) (h5 : t 5 = st 5) {F P next : Nat} {lv lo : Nat → Int} (hP : P < 60) (hnx : (next : Int) < n) (hL : LOK n en F (next : Int) lv lo) :
    ∃ (L' next' : Nat) (lv' lo' : Nat → Int) (tk : Int), F < L' ∧ (tk = 0 ∨ tk = 1) ∧ LOK n en L' (next' : Int) lv' lo' ∧ (∀ j : Nat, j < 12 * F → lv' j = lv j) ∧
      (∀ (pv : Nat → Int) (post : Int → Int → Int → (Nat → Int) → (Nat → Int) → (Nat → Int) → Int → Int → Int → Int → Int → Int → Int → Int → Prop) (x1 x2 x3 x4 x5 x6 x7 x8 : Int), (∀ (pv' : Nat → Int) (y1 y2 y3 y4 y5 y6 y7 y8 : Int), pout pv pv' P → pageIs pv' lv' P F L' tk → post (next' : Int) (L' : Int) (P + 1) lv' pv' lo' y1 y2 y3 y4 y5 y6 y7 y8) → wpX1_fillPage (F : Int) (P : Int) lv pv lo t x1 x2 x3 x4 x5 x6 x7 x8 n bd ah bh en sh ((next : Nat) : Int) post) ∧
      (∀ line : Nat → Int, (∀ l : Nat, l < F → LR lv line l) → ∃ line' : Nat → Int, (∀ l : Nat, l < L' → LR lv' line' l) ∧ ∀ (page : Nat → Int) (post : Int → Int → Int → (Nat → Int) → (Nat → Int) → Prop), (∀ page' : Nat → Int, mpout page page' P → mpIs page' P F L' tk → post (next' : Int) (L' : Int) (P + 1) line' page') → wpX6_setPage (F : Int) (P : Int) (t 0) (t 2) (t 3) ms line page ((next : Nat) : Int) post) := by
  have T' := T
  obtain ⟨t0, t0', t1, t1', t2, t2', t3, t3', t4, t4', t5⟩ := T
  have hn := R.2.2.1
  have e1 : ms 1 = t 1 := by rw [h1]; exact R.2.2.2.1 1 (by omega)
  have e5 : ms 5 = t 5 := by rw [h5]; exact R.2.2.2.1 5 (by omega)
  have e14 := R.1
  have hen := R.2.2.2.2.2.2.1
  obtain ⟨k', nx, lv', lo', -, c2, c3, c4, c5, c6, c7, c8⟩ := pageSim R T' h1 h4 (F := F) (P := (P : Int)) (by omega) n.toNat 0 F next 0 lv lo (by omega) (by omega) (by omega) (by omega) (by omega) hL
  have hk' : 0 < k' := c4 hnx (by omega)
  have hLn := c5.1
  have hLn2 := c5.2.1
  have hL60 : F + k' ≤ 60 := by omega
  have hlast := c5.2.2.2.2.2.2.1 (F + k' - 1) (by omega)
  have hLF := c5.2.2.1 (F + k' - 1) (by omega)
  have hend : lv' (12 * (F + k' - 1) + 10) = pe n en ((nx : Int) - 1) := by
    rw [hlast]
    exact hLF.2.2.2.2.2.2.2.2.2.2.2.2.2.2.2.2.1
  have hend01 := pe_01 n en ((nx : Int) - 1)
  have hnx0 : 0 < nx := by have := hLF.1; have := hLF.2.1; omega
  -- nothing is taken back
  have keep : (∀ (pv : Nat → Int) (post : Int → Int → Int → (Nat → Int) → (Nat → Int) → (Nat → Int) → Int → Int → Int → Int → Int → Int → Int → Int → Prop) (y1 y2 y3 y4 y5 y6 y7 y8 : Int), (∀ (y1 y2 y3 y4 y5 y6 y7 y8 : Int), wpX1_fillPage_167 t n bd ah bh en sh post ((F + k' : Nat) : Int) (P : Int) lv' pv lo' y1 y2 y3 y4 y5 y6 y7 y8 (F : Int) (nx : Int) 0) → wpX1_fillPage_110 t n bd ah bh en sh post ((F + k' : Nat) : Int) (P : Int) lv' pv lo' y1 y2 y3 y4 y5 y6 y7 y8 (F : Int) (t 1) (nx : Int)) →
      (∀ line : Nat → Int, (∀ l : Nat, l < F + k' → LR lv' line l) → ∃ line' : Nat → Int, (∀ l : Nat, l < F + k' → LR lv' line' l) ∧ ∀ (page : Nat → Int) (post : Int → Int → Int → (Nat → Int) → (Nat → Int) → Prop), wpX6_setPage_160 (t 0) (t 2) (t 3) ms post ((F + k' : Nat) : Int) (P : Int) line' page (nx : Int) (F : Int) 0 → wpX6_setPage_87 (t 0) (t 2) (t 3) ms post ((F + k' : Nat) : Int) (P : Int) line page (nx : Int) (k' : Int) (F : Int)) →
      ∃ (L' next' : Nat) (lv' lo' : Nat → Int) (tk : Int), F < L' ∧ (tk = 0 ∨ tk = 1) ∧ LOK n en L' (next' : Int) lv' lo' ∧ (∀ j : Nat, j < 12 * F → lv' j = lv j) ∧
      (∀ (pv : Nat → Int) (post : Int → Int → Int → (Nat → Int) → (Nat → Int) → (Nat → Int) → Int → Int → Int → Int → Int → Int → Int → Int → Prop) (x1 x2 x3 x4 x5 x6 x7 x8 : Int), (∀ (pv' : Nat → Int) (y1 y2 y3 y4 y5 y6 y7 y8 : Int), pout pv pv' P → pageIs pv' lv' P F L' tk → post (next' : Int) (L' : Int) (P + 1) lv' pv' lo' y1 y2 y3 y4 y5 y6 y7 y8) → wpX1_fillPage (F : Int) (P : Int) lv pv lo t x1 x2 x3 x4 x5 x6 x7 x8 n bd ah bh en sh ((next : Nat) : Int) post) ∧
      (∀ line : Nat → Int, (∀ l : Nat, l < F → LR lv line l) → ∃ line' : Nat → Int, (∀ l : Nat, l < L' → LR lv' line' l) ∧ ∀ (page : Nat → Int) (post : Int → Int → Int → (Nat → Int) → (Nat → Int) → Prop), (∀ page' : Nat → Int, mpout page page' P → mpIs page' P F L' tk → post (next' : Int) (L' : Int) (P + 1) line' page') → wpX6_setPage (F : Int) (P : Int) (t 0) (t 2) (t 3) ms line page ((next : Nat) : Int) post) := by
    intro K1 K2
    refine ⟨F + k', nx, lv', lo', 0, by omega, Or.inl rfl, c5, c6, fun pv post x1 x2 x3 x4 x5 x6 x7 x8 hp => ?_, fun line hline => ?_⟩
    · exact c7 pv post x1 x2 x3 x4 x5 x6 x7 x8 (fun y1 y2 y3 y4 y5 y6 y7 y8 => K1 pv post _ _ _ _ _ _ _ _ (fun y1 y2 y3 y4 y5 y6 y7 y8 => c1_167 hP (by omega) hL60 rfl (fun pv' a b => hp pv' _ _ _ _ _ _ _ _ a b)))
    · obtain ⟨line1, d1, d2⟩ := c8 line hline
      obtain ⟨line2, d3, d4⟩ := K2 line1 d1
      exact ⟨line2, d3, fun page post hp => d2 page post (d4 page post (r6_160 hP hL60 rfl hp))⟩
  by_cases hg : (nx : Int) < n ∧ t 5 = 1 ∧ (k' : Int) = t 1 ∧ pe n en ((nx : Int) - 1) = 0
  · obtain ⟨g1, g2, g3, g4⟩ := hg
    have hL59 : F + k' < 60 := by omega
    have fa := rwOf_facts R.okw T' (first := nx) (debt := 0) (later := t 1 - 1) g1 (Int.le_refl 0)
    obtain ⟨r, hr⟩ : ∃ r : RW, rwOf n bd ah bh en sh t nx 0 (t 1 - 1) = r := ⟨_, rfl⟩
    rw [hr] at fa
    obtain ⟨f1, f2, -⟩ := fa
    have q4 : ¬ t 4 < 0 := by omega
    -- the class asks what the next page's first line would be
    have C : ∀ (pv : Nat → Int) (post : Int → Int → Int → (Nat → Int) → (Nat → Int) → (Nat → Int) → Int → Int → Int → Int → Int → Int → Int → Int → Prop) (y1 y2 y3 y4 y5 y6 y7 y8 : Int), (∀ (y1 y2 y3 y4 y5 y6 y7 y8 : Int), wpX1_fillPage_167 t n bd ah bh en sh post ((F + k' : Nat) : Int) (P : Int) lv' pv lo' y1 y2 y3 y4 y5 y6 y7 y8 (F : Int) (nx : Int) (pe n en ((nx : Int) + r.1 - 1))) → wpX1_fillPage_110 t n bd ah bh en sh post ((F + k' : Nat) : Int) (P : Int) lv' pv lo' y1 y2 y3 y4 y5 y6 y7 y8 (F : Int) (t 1) (nx : Int) := by
      intro pv post y1 y2 y3 y4 y5 y6 y7 y8 hp
      unfold wpX1_fillPage_110
      refine ⟨inR_of (by omega), inR_of (by omega), fun z => absurd z (by omega), fun _ => q1_mayGiveBack T' (by omega) hL60 (by rw [hend]; exact hend01) ?_⟩
      rw [hend, if_pos ⟨g2, by omega, g4⟩]
      refine ⟨inR_lit rfl, fun z => absurd z (by decide), fun _ => q2_choose R.okw T' g1 ⟨by omega, by omega⟩ ⟨by omega, by omega⟩ (fun r2 hr2 => ?_)⟩
      rw [hr] at hr2
      have hr3 := hr2.symm
      subst hr3
      exact q3_endsParagraph (by omega) (by omega) hn (hen _ (by omega)) (hp _ _ _ _ _ _ _ _)
    have M : ∀ line : Nat → Int, (∀ l : Nat, l < F + k' → LR lv' line l) → ∃ line' : Nat → Int, (∀ l : Nat, l < F + k' → LR lv' line' l) ∧ ∀ (page : Nat → Int) (post : Int → Int → Int → (Nat → Int) → (Nat → Int) → Prop), wpX6_setPage_160 (t 0) (t 2) (t 3) ms post ((F + k' : Nat) : Int) (P : Int) line' page (nx : Int) (F : Int) (pe n en ((nx : Int) + r.1 - 1)) → wpX6_setPage_87 (t 0) (t 2) (t 3) ms post ((F + k' : Nat) : Int) (P : Int) line page (nx : Int) (k' : Int) (F : Int) := by
      intro line hline
      obtain ⟨line1, hm1, hr1⟩ := mrow_ex line (F + k') (P : Int) (nx : Int) 0 (t 0 - (if t 4 < 0 then t 4 else 0)) (if t 4 < 0 then t 4 else 0) (0 - (if t 4 < 0 then t 4 else 0)) r
      refine ⟨line1, fun l hl j hj => ?_, fun page post hp => ?_⟩
      · rw [hm1 _ (Or.inl (by omega))]
        exact hline l hl j hj
      · unfold wpX6_setPage_87
        rw [e5, e1, e14]
        refine ⟨inR_of (by omega), fun z => absurd g2 z, fun _ => ⟨inR_of (by omega), inR_of (by omega), fun z => absurd g3 z, fun _ => ⟨inR_of (by omega), inR_of (by omega), fun z => absurd z (by omega), fun _ => q6_endsOne R (by omega) (by omega) ?_⟩⟩⟩
        rw [g4]
        refine ⟨inR_lit rfl, fun z => absurd rfl z, fun _ => q6_row R T' h4 hL59 g1 ⟨by omega, by omega⟩ ⟨by omega, by omega⟩ (fun line2 hm2 r2 hr2 hi2 => ?_)⟩
        rw [hr] at hr2
        have hr3 := hr2.symm
        subst hr3
        have e2 : line2 = line1 := mrowIs_ext hm1 hm2 hr1 hi2
        rw [e2]
        exact q6_endsOne R (by omega) (by omega) hp
    rcases pe_01 n en ((nx : Int) + r.1 - 1) with w | w
    · rw [w] at C M
      exact keep C M
    · rw [w] at C M
      obtain ⟨k1, hk1⟩ : ∃ k1 : Nat, k' = k1 + 1 := ⟨k' - 1, by omega⟩
      subst hk1
      have p5 := LOK.pop (L := F + k1) c5
      have p0 := (c5.2.2.1 (F + k1) (by omega)).1
      obtain ⟨nx1, hnx1⟩ := Int.eq_ofNat_of_zero_le p0
      refine ⟨F + k1, nx1, lv', lo', 1, by omega, Or.inr rfl, ?_, c6, fun pv post x1 x2 x3 x4 x5 x6 x7 x8 hp => ?_, fun line hline => ?_⟩
      · rw [← hnx1]
        exact p5
      · exact c7 pv post x1 x2 x3 x4 x5 x6 x7 x8 (fun y1 y2 y3 y4 y5 y6 y7 y8 => C pv post _ _ _ _ _ _ _ _ (fun y1 y2 y3 y4 y5 y6 y7 y8 => c1_167b (L := F + k1) hP (by omega) (by omega) rfl (fun pv' a b => by
          rw [hnx1]
          exact hp pv' _ _ _ _ _ _ _ _ a b)))
      · obtain ⟨line1, d1, d2⟩ := c8 line hline
        obtain ⟨line2, d3, d4⟩ := M line1 d1
        refine ⟨line2, fun l hl => d3 l (by omega), fun page post hp => d2 page post (d4 page post (r6_160b (L := F + k1) hP (by omega) rfl (fun page' a b => ?_)))⟩
        rw [d3 (F + k1) (by omega) 1 (by omega), hnx1]
        exact hp page' a b
  · refine keep (fun pv post y1 y2 y3 y4 y5 y6 y7 y8 hp => ?_) (fun line hline => ⟨line, hline, fun page post hp => ?_⟩)
    · unfold wpX1_fillPage_110
      refine ⟨inR_of (by omega), inR_of (by omega), fun _ => hp _ _ _ _ _ _ _ _, fun z => q1_mayGiveBack T' (by omega) hL60 (by rw [hend]; exact hend01) ?_⟩
      rw [hend, if_neg (fun y => hg ⟨by omega, y.1, by have := y.2.1; omega, y.2.2⟩)]
      exact ⟨inR_lit rfl, fun _ => hp _ _ _ _ _ _ _ _, fun z => absurd rfl z⟩
    · unfold wpX6_setPage_87
      rw [e5, e1, e14]
      refine ⟨inR_of (by omega), fun _ => hp, fun z1 => ⟨inR_of (by omega), inR_of (by omega), fun _ => hp, fun z2 => ⟨inR_of (by omega), inR_of (by omega), fun _ => hp, fun z3 => q6_endsOne R (by omega) (by omega) ⟨inR_of (by omega), fun _ => hp, fun z4 => absurd ⟨by omega, z1, z2, z4⟩ hg⟩⟩⟩⟩
