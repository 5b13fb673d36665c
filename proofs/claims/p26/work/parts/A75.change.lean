/-! Changes: settings, shares, signs, ends. -/
abbrev CP : Type := Int → Int → (Nat → Int) → (Nat → Int) → (Nat → Int) → (Nat → Int) → (Nat → Int) → (Nat → Int) → (Nat → Int) → (Nat → Int) → Int → Int → (Nat → Int) → (Nat → Int) → (Nat → Int) → (Nat → Int) → Int → Int → Int → Int → Int → Int → Int → Int → Int → (Nat → Nat) → SS → SS → SS → SS → Prop
abbrev MU : Type := Int → Int → Int → (Nat → Int) → (Nat → Int) → (Nat → Int) → Prop
def OutU (names : List String) (pasts : Int) (ms past aside : Nat → Int) (C : (String → Prop) → CP → Prop) (M : MU → Prop) : Prop :=
  (∃ (v n' : Int) (lt' ln' bd' ah' bh' en' st' sh' ms' : Nat → Int) (L P : Nat) (lv pv lo : Nat → Int) (hc : Int) (ha : Nat → Nat) (g0 g1 g2 g3 : SS) (past' : Nat → Int),
    RS n' lt' ln' bd' ah' bh' en' st' sh' ms' ∧ Lay n' en' ms' (tS st') L P lv pv lo ∧ HR hc g0 g1 g2 g3 hc past' ∧
    (∀ (xp : String → Prop) (post : CP), (∀ (ts : Nat → Int) (y1 y2 y3 y4 y5 y6 y7 y8 : Int), post v n' lt' ln' bd' ah' bh' en' st' sh' (L : Int) (P : Int) lv pv lo ts y1 y2 y3 y4 y5 y6 y7 y8 hc ha g0 g1 g2 g3) → C xp post) ∧
    ∀ Q : MU, (∀ aside' : Nat → Int, Q v hc 0 ms' past' aside') → M Q) ∨
  (∃ (k : Nat) (nm : String) (r : Int), names[k]? = some nm ∧ (∀ (xp : String → Prop) (post : CP), xp nm → C xp post) ∧ ∀ Q : MU, Q r pasts ((k : Int) + 1) ms past aside → M Q)
section Chg
variable {n : Int} {lt ln bd ah bh en st sh ms past aside : Nat → Int} {hc pasts : Int} {g0 g1 g2 g3 : SS} {L P : Nat} {lv pv lo : Nat → Int}
theorem RS.set (R : RS n lt ln bd ah bh en st sh ms) {p : Nat} (hp : p < 6) {x : Int} (hx : tb_LEAST_SETTING p ≤ x ∧ x ≤ tb_GREATEST_SETTING p) : RS n lt ln bd ah bh en (updI st p x) sh (updI ms p x) := by
  obtain ⟨a1, a2, a3, a4, a5, a6, a7, a8⟩ := R
  have T : OKt (updI st p x) := by
    obtain ⟨t0, t0', t1, t1', t2, t2', t3, t3', t4, t4', t5⟩ := a6
    have hp2 : p = 0 ∨ p = 1 ∨ p = 2 ∨ p = 3 ∨ p = 4 ∨ p = 5 := by omega
    rcases hp2 with rfl | rfl | rfl | rfl | rfl | rfl
    · exact ⟨hx.1, hx.2, t1, t1', t2, t2', t3, t3', t4, t4', t5⟩
    · exact ⟨t0, t0', hx.1, hx.2, t2, t2', t3, t3', t4, t4', t5⟩
    · exact ⟨t0, t0', t1, t1', hx.1, hx.2, t3, t3', t4, t4', t5⟩
    · exact ⟨t0, t0', t1, t1', t2, t2', hx.1, hx.2, t4, t4', t5⟩
    · exact ⟨t0, t0', t1, t1', t2, t2', t3, t3', hx.1, hx.2, t5⟩
    · have y1 : 0 ≤ x := hx.1
      have y2 : x ≤ 1 := hx.2
      exact ⟨t0, t0', t1, t1', t2, t2', t3, t3', t4, t4', show x = 0 ∨ x = 1 by omega⟩
  have o : ∀ j : Nat, 6 ≤ j → updI ms p x j = ms j := fun j hj => updI_ne (by omega)
  refine ⟨(o 14 (by omega)).trans a1, a2, a3, fun i hi => ?_, fun i hi => ⟨(o _ (by omega)).trans (a5 i hi).1, (a5 i hi).2⟩, T, a7, fun w hw => ?_⟩
  · by_cases c : i = p
    · rw [updI_eq c, updI_eq c]
    · rw [updI_ne c, updI_ne c, a4 i hi]
  · obtain ⟨b1, b2, b3, b4, b5, b6, b7, b8, b9, b10, b11, b12⟩ := a8 w hw
    exact ⟨b1, b2, (o _ (by omega)).trans b3, (o _ (by omega)).trans b4, (o _ (by omega)).trans b5, (o _ (by omega)).trans b6, b7, b8, b9, b10, fun k hk => ⟨(o _ (by omega)).trans (b11 k hk).1, (b11 k hk).2⟩, b12⟩
theorem RS.setShare (R : RS n lt ln bd ah bh en st sh ms) {p : Nat} (hp : p < 8) {x : Int} (hx : 0 ≤ x ∧ x ≤ 100) : RS n lt ln bd ah bh en st (updI sh p x) (updI ms (6 + p) x) := by
  obtain ⟨a1, a2, a3, a4, a5, a6, a7, a8⟩ := R
  have o : ∀ j : Nat, j ≠ 6 + p → updI ms (6 + p) x j = ms j := fun j hj => updI_ne hj
  refine ⟨(o 14 (by omega)).trans a1, a2, a3, fun i hi => (o i (by omega)).trans (a4 i hi), fun i hi => ?_, a6, a7, fun w hw => ?_⟩
  · by_cases c : i = p
    · rw [updI_eq c, updI_eq (by omega)]
      exact ⟨rfl, hx.1, hx.2⟩
    · rw [updI_ne c, updI_ne (by omega)]
      exact a5 i hi
  · obtain ⟨b1, b2, b3, b4, b5, b6, b7, b8, b9, b10, b11, b12⟩ := a8 w hw
    exact ⟨b1, b2, (o _ (by omega)).trans b3, (o _ (by omega)).trans b4, (o _ (by omega)).trans b5, (o _ (by omega)).trans b6, b7, b8, b9, b10, fun k hk => ⟨(o _ (by omega)).trans (b11 k hk).1, (b11 k hk).2⟩, b12⟩
theorem RS.putEnd (R : RS n lt ln bd ah bh en st sh ms) {p : Nat} (hp : (p : Int) < n) {x : Int} (hx : x = 0 ∨ x = 1) : RS n lt ln bd ah bh (updI en p x) st sh (updI ms (16 * p + 30) x) := by
  obtain ⟨a1, a2, a3, a4, a5, a6, a7, a8⟩ := R
  have o : ∀ j : Nat, j ≠ 16 * p + 30 → updI ms (16 * p + 30) x j = ms j := fun j hj => updI_ne hj
  refine ⟨(o 14 (by omega)).trans a1, a2, a3, fun i hi => (o i (by omega)).trans (a4 i hi), fun i hi => ⟨(o _ (by omega)).trans (a5 i hi).1, (a5 i hi).2⟩, a6, fun i hi => ?_, fun w hw => ?_⟩
  · by_cases c : i = p
    · rw [updI_eq c]; exact hx
    · rw [updI_ne c]; exact a7 i hi
  · obtain ⟨b1, b2, b3, b4, b5, b6, b7, b8, b9, b10, b11, b12⟩ := a8 w hw
    refine ⟨b1, b2, (o _ (by omega)).trans b3, (o _ (by omega)).trans b4, (o _ (by omega)).trans b5, ?_, b7, b8, b9, b10, fun k hk => ⟨(o _ (by omega)).trans (b11 k hk).1, (b11 k hk).2⟩, b12⟩
    by_cases c : w = p
    · rw [updI_eq c, updI_eq (by omega)]
    · rw [updI_ne c, updI_ne (by omega)]; exact b6
theorem RS.putSigns (R : RS n lt ln bd ah bh en st sh ms) {p : Nat} (hp : (p : Int) < n) {x y : Int} (hx : -1 ≤ x ∧ x ≤ 1) (hy : -1 ≤ y ∧ y ≤ 7) : RS n lt ln bd (updI ah p x) (updI bh p y) en st sh (updI (updI ms (16 * p + 28) x) (16 * p + 29) y) := by
  obtain ⟨a1, a2, a3, a4, a5, a6, a7, a8⟩ := R
  have o : ∀ j : Nat, j ≠ 16 * p + 28 → j ≠ 16 * p + 29 → updI (updI ms (16 * p + 28) x) (16 * p + 29) y j = ms j := fun j h1 h2 => (updI_ne h2).trans (updI_ne h1)
  refine ⟨(o 14 (by omega) (by omega)).trans a1, a2, a3, fun i hi => (o i (by omega) (by omega)).trans (a4 i hi), fun i hi => ⟨(o _ (by omega) (by omega)).trans (a5 i hi).1, (a5 i hi).2⟩, a6, a7, fun w hw => ?_⟩
  obtain ⟨b1, b2, b3, b4, b5, b6, b7, b8, b9, b10, b11, b12⟩ := a8 w hw
  by_cases c : w = p
  · rw [updI_eq c, updI_eq c]
    refine ⟨b1, b2, (o _ (by omega) (by omega)).trans b3, ?_, ?_, (o _ (by omega) (by omega)).trans b6, hx.1, hx.2, hy.1, hy.2, fun k hk => ⟨(o _ (by omega) (by omega)).trans (b11 k hk).1, (b11 k hk).2⟩, b12⟩
    · rw [updI_ne (by omega), updI_eq (by omega)]
    · rw [updI_eq (by omega)]
  · rw [updI_ne c, updI_ne c]
    exact ⟨b1, b2, (o _ (by omega) (by omega)).trans b3, (o _ (by omega) (by omega)).trans b4, (o _ (by omega) (by omega)).trans b5, (o _ (by omega) (by omega)).trans b6, b7, b8, b9, b10, fun k hk => ⟨(o _ (by omega) (by omega)).trans (b11 k hk).1, (b11 k hk).2⟩, b12⟩
theorem q6_isSetting {p : Nat} (hp : p < 6) {x : Int} {post : Int → Prop} (hx : inR x) (h1 : tb_LEAST_SETTING p ≤ x ∧ x ≤ tb_GREATEST_SETTING p → post 1) (h2 : ¬ (tb_LEAST_SETTING p ≤ x ∧ x ≤ tb_GREATEST_SETTING p) → post 0) : wpX6_isSetting (p : Int) x post := by
  unfold wpX6_isSetting wpX6_isSetting_58
  have hp2 : p = 0 ∨ p = 1 ∨ p = 2 ∨ p = 3 ∨ p = 4 ∨ p = 5 := by omega
  rcases hp2 with rfl | rfl | rfl | rfl | rfl | rfl
  all_goals
    refine ⟨inR_lit rfl, ?_, ?_, ?_, ?_, ?_, ?_, ?_⟩ <;> intro c <;> first | exact absurd c (by decide) | exact q6_in hx (inR_lit rfl) (inR_lit rfl) (fun z => ⟨Or.inr rfl, h1 z⟩) (fun z => ⟨Or.inl rfl, h2 z⟩)
theorem q5_cs {a b : Int} {xp : String → Prop} {post : Prop} (ha : inR a) (hb : inR b) (h1 : (-1 ≤ a ∧ a ≤ 1) ∧ (-1 ≤ b ∧ b ≤ 7) ∧ b ≠ 1 → post) (h2 : ¬ ((-1 ≤ a ∧ a ≤ 1) ∧ (-1 ≤ b ∧ b ≤ 7) ∧ b ≠ 1) → xp xIA) : wpX5_checkSigns a b xp post := by
  have k : (-1 ≤ a ∧ a ≤ 1) → wpX5_checkSigns_12 xp post b := by
    intro ka
    unfold wpX5_checkSigns_12 wpX5_mayStandBehind
    refine ⟨hb, fun c => h1 (by omega), fun c => ⟨hb, fun c2 => ⟨inR_lit rfl, fun _ => h1 (by omega), fun z => absurd z (by decide)⟩, fun c2 => ⟨hb, fun c3 => ⟨inR_lit rfl, fun z => absurd rfl z, fun _ => h2 (by omega)⟩, fun c3 => ⟨hb, fun c4 => ⟨inR_lit rfl, fun z => absurd rfl z, fun _ => h2 (by omega)⟩, fun c4 => ⟨inR_lit rfl, fun _ => h1 (by omega), fun z => absurd z (by decide)⟩⟩⟩⟩⟩
  unfold wpX5_checkSigns wpX5_mayStandAhead
  exact ⟨ha, fun c => k (by omega), fun c => ⟨ha, fun c2 => ⟨inR_lit rfl, fun z => absurd z (by decide), fun _ => k (by omega)⟩, fun c2 => ⟨ha, fun c3 => ⟨inR_lit rfl, fun _ => h2 (by omega), fun z => absurd rfl z⟩, fun c3 => ⟨inR_lit rfl, fun z => absurd z (by decide), fun _ => k (by omega)⟩⟩⟩⟩
theorem q6_areSigns {a b : Int} {post : Int → Prop} (ha : inR a) (hb : inR b) (h1 : (-1 ≤ a ∧ a ≤ 1) ∧ (-1 ≤ b ∧ b ≤ 7) ∧ b ≠ 1 → post 1) (h2 : ¬ ((-1 ≤ a ∧ a ≤ 1) ∧ (-1 ≤ b ∧ b ≤ 7) ∧ b ≠ 1) → post 0) : wpX6_areSigns a b post := by
  unfold wpX6_areSigns
  exact q6_in ha (inR_lit rfl) (inR_lit rfl) (fun c => ⟨inR_lit rfl, fun z => absurd z (by decide), fun _ => q6_in hb (inR_lit rfl) (inR_lit rfl) (fun c2 => ⟨inR_lit rfl, fun z => absurd z (by decide), fun _ => ⟨hb, fun c3 => h2 (fun z => z.2.2 c3), fun c3 => h1 ⟨c, c2, c3⟩⟩⟩) (fun c2 => ⟨inR_lit rfl, fun _ => h2 (fun z => c2 z.2.1), fun z => absurd rfl z⟩)⟩) (fun c => ⟨inR_lit rfl, fun _ => h2 (fun z => c z.1), fun z => absurd rfl z⟩)
theorem o_set (R : RS n lt ln bd ah bh en st sh ms) (H : HR hc g0 g1 g2 g3 pasts past) {p1 p2 th : Int} (h1 : inR p1) (h2 : inR p2) (ha : Nat → Nat) (L0 P0 : Int) (lv0 pv0 lo0 ts : Nat → Int) (x1 x2 x3 x4 x5 x6 x7 x8 : Int) :
    OutU [xIA] pasts ms past aside (fun xp post => wpX5_set n lt ln bd ah bh en st sh L0 P0 lv0 pv0 lo0 ts x1 x2 x3 x4 x5 x6 x7 x8 hc ha g0 g1 g2 g3 p1 p2 xp (fun v st' L P lv pv lo ts y1 y2 y3 y4 y5 y6 y7 y8 hc ha g0 g1 g2 g3 => post v n lt ln bd ah bh en st' sh L P lv pv lo ts y1 y2 y3 y4 y5 y6 y7 y8 hc ha g0 g1 g2 g3)) (fun Q => wpX6_set pasts th ms past aside p1 p2 Q) := by
  unfold OutU wpX5_set wpX6_set wpX6_fails
  by_cases c1 : 0 ≤ p1 ∧ p1 ≤ 5
  · obtain ⟨p, hp⟩ := Int.eq_ofNat_of_zero_le c1.1
    subst hp
    have hp6 : p < 6 := by omega
    have bl : inR (tb_LEAST_SETTING p) ∧ inR (tb_GREATEST_SETTING p) := by
      have hp2 : p = 0 ∨ p = 1 ∨ p = 2 ∨ p = 3 ∨ p = 4 ∨ p = 5 := by omega
      rcases hp2 with rfl | rfl | rfl | rfl | rfl | rfl <;> exact ⟨inR_lit rfl, inR_lit rfl⟩
    by_cases c2 : tb_LEAST_SETTING p ≤ p2 ∧ p2 ≤ tb_GREATEST_SETTING p
    · have R2 := R.set hp6 c2
      obtain ⟨hc', ha', g0', g1', g2', g3', past', q1, q2, q3⟩ := saveSim R H ha (hold_eq (ms := ms) (aside := aside))
      obtain ⟨L, P, lv, pv, lo, y1, y2⟩ := setLinesSim R2 lv0 pv0 lo0
      have e := R.2.2.2.1 p hp6
      refine Or.inl ⟨st p, n, lt, ln, bd, ah, bh, en, updI st p p2, sh, updI ms p p2, L, P, lv, pv, lo, hc', ha', g0', g1', g2', g3', past', R2, y1, q1, fun xp post hpost => q5_cr h1 (inR_lit rfl) (inR_lit rfl) (fun _ => ⟨by omega, by omega, by omega, by omega, q5_cr h2 bl.1 bl.2 (fun _ => q2 _ (q3_setting (by omega) (by omega) ⟨by omega, by omega, y2 _ _ _ _ _ _ _ _ _ _ _ _ (fun ts' a1 a2 a3 a4 a5 a6 a7 a8 => hpost _ _ _ _ _ _ _ _ _)⟩)) (fun z => absurd c2 z)⟩) (fun z => absurd c1 z), fun Q hQ => q6_isSetting hp6 h2 (fun _ => ⟨inR_lit rfl, fun _ => q6_hold ⟨by omega, by omega, by omega, by omega, ?_⟩, fun z => absurd z (by decide)⟩) (fun z => absurd c2 z)⟩
      rw [Int.toNat_natCast, e]
      exact q3 _ _ _ (hQ _)
    · exact Or.inr ⟨0, xIA, 0, rfl, fun xp post hpost => q5_cr h1 (inR_lit rfl) (inR_lit rfl) (fun _ => ⟨by omega, by omega, by omega, by omega, q5_cr h2 bl.1 bl.2 (fun z => absurd z c2) (fun _ => hpost)⟩) (fun z => absurd c1 z), fun Q hQ => q6_isSetting hp6 h2 (fun z => absurd z c2) (fun _ => ⟨inR_lit rfl, fun z => absurd rfl z, fun _ => hQ⟩)⟩
  · refine Or.inr ⟨0, xIA, 0, rfl, fun xp post hpost => q5_cr h1 (inR_lit rfl) (inR_lit rfl) (fun z => absurd z c1) (fun _ => hpost), fun Q hQ => ?_⟩
    unfold wpX6_isSetting
    exact ⟨h1, fun z => absurd z (by omega), fun z => absurd z (by omega), fun z => absurd z (by omega), fun z => absurd z (by omega), fun z => absurd z (by omega), fun z => absurd z (by omega), fun _ => ⟨inR_lit rfl, fun z => absurd rfl z, fun _ => hQ⟩⟩
theorem o_setShare (R : RS n lt ln bd ah bh en st sh ms) (H : HR hc g0 g1 g2 g3 pasts past) {p1 p2 th : Int} (h1 : inR p1) (h2 : inR p2) (ha : Nat → Nat) (L0 P0 : Int) (lv0 pv0 lo0 ts : Nat → Int) (x1 x2 x3 x4 x5 x6 x7 x8 : Int) :
    OutU [xIX, xIA] pasts ms past aside (fun xp post => wpX5_setShare n lt ln bd ah bh en st sh L0 P0 lv0 pv0 lo0 ts x1 x2 x3 x4 x5 x6 x7 x8 hc ha g0 g1 g2 g3 p1 p2 xp (fun v sh' L P lv pv lo ts y1 y2 y3 y4 y5 y6 y7 y8 hc ha g0 g1 g2 g3 => post v n lt ln bd ah bh en st sh' L P lv pv lo ts y1 y2 y3 y4 y5 y6 y7 y8 hc ha g0 g1 g2 g3)) (fun Q => wpX6_setShare pasts th ms past aside p1 p2 Q) := by
  unfold OutU wpX5_setShare wpX6_setShare wpX6_fails
  by_cases c1 : 0 ≤ p1 ∧ p1 < 8
  · obtain ⟨p, hp⟩ := Int.eq_ofNat_of_zero_le c1.1
    subst hp
    have hp8 : p < 8 := by omega
    by_cases c2 : 0 ≤ p2 ∧ p2 ≤ 100
    · have R2 := R.setShare hp8 c2
      obtain ⟨hc', ha', g0', g1', g2', g3', past', q1, q2, q3⟩ := saveSim R H ha (hold_eq (ms := ms) (aside := aside))
      obtain ⟨L, P, lv, pv, lo, y1, y2⟩ := setLinesSim R2 lv0 pv0 lo0
      have e := (R.2.2.2.2.1 p hp8).1
      refine Or.inl ⟨sh p, n, lt, ln, bd, ah, bh, en, st, updI sh p p2, updI ms (6 + p) p2, L, P, lv, pv, lo, hc', ha', g0', g1', g2', g3', past', R2, y1, q1, fun xp post hpost => q5_ci h1 (inR_lit rfl) (fun _ => q5_cr h2 (inR_lit rfl) (inR_lit rfl) (fun _ => q2 _ (q3_shareOf (by omega) (by omega) ?_)) (fun z => absurd c2 z)) (fun z => absurd c1 z), fun Q hQ => q6_in h1 (inR_lit rfl) (inR_lit rfl) (fun _ => ⟨inR_lit rfl, fun _ => q6_in h2 (inR_lit rfl) (inR_lit rfl) (fun _ => ⟨inR_lit rfl, fun _ => q6_hold ⟨by omega, by omega, by omega, by omega, ?_⟩, fun z => absurd z (by decide)⟩) (fun z => absurd c2 z), fun z => absurd z (by decide)⟩) (fun z => absurd ⟨c1.1, by omega⟩ z)⟩
      · rw [if_neg (by omega)]
        exact ⟨by omega, by omega, y2 _ _ _ _ _ _ _ _ _ _ _ _ (fun ts' a1 a2 a3 a4 a5 a6 a7 a8 => hpost _ _ _ _ _ _ _ _ _)⟩
      · rw [show (6 + (p : Int)).toNat = 6 + p by omega, e]
        exact q3 _ _ _ (hQ _)
    · exact Or.inr ⟨1, xIA, 0, rfl, fun xp post hpost => q5_ci h1 (inR_lit rfl) (fun _ => q5_cr h2 (inR_lit rfl) (inR_lit rfl) (fun z => absurd z c2) (fun _ => hpost)) (fun z => absurd c1 z), fun Q hQ => q6_in h1 (inR_lit rfl) (inR_lit rfl) (fun _ => ⟨inR_lit rfl, fun _ => q6_in h2 (inR_lit rfl) (inR_lit rfl) (fun z => absurd z c2) (fun _ => ⟨inR_lit rfl, fun z => absurd rfl z, fun _ => hQ⟩), fun z => absurd z (by decide)⟩) (fun z => absurd ⟨c1.1, by omega⟩ z)⟩
  · exact Or.inr ⟨0, xIX, 0, rfl, fun xp post hpost => q5_ci h1 (inR_lit rfl) (fun z => absurd z c1) (fun _ => hpost), fun Q hQ => q6_in h1 (inR_lit rfl) (inR_lit rfl) (fun z => absurd ⟨z.1, by omega⟩ c1) (fun _ => ⟨inR_lit rfl, fun z => absurd rfl z, fun _ => hQ⟩)⟩
theorem o_setSigns (R : RS n lt ln bd ah bh en st sh ms) (H : HR hc g0 g1 g2 g3 pasts past) {p1 p2 p3 th : Int} (h1 : inR p1) (h2 : inR p2) (h3 : inR p3) (ha : Nat → Nat) (L0 P0 : Int) (lv0 pv0 lo0 ts : Nat → Int) (x1 x2 x3 x4 x5 x6 x7 x8 : Int) :
    OutU [xIX, xIA] pasts ms past aside (fun xp post => wpX5_setSigns n lt ln bd ah bh en st sh L0 P0 lv0 pv0 lo0 ts x1 x2 x3 x4 x5 x6 x7 x8 hc ha g0 g1 g2 g3 p1 p2 p3 xp (fun v ah' bh' L P lv pv lo ts y1 y2 y3 y4 y5 y6 y7 y8 hc ha g0 g1 g2 g3 => post v n lt ln bd ah' bh' en st sh L P lv pv lo ts y1 y2 y3 y4 y5 y6 y7 y8 hc ha g0 g1 g2 g3)) (fun Q => wpX6_setSigns pasts th ms past aside p1 p2 p3 Q) := by
  have hn := R.2.2.1
  have hn0 := R.2.1
  unfold OutU wpX5_setSigns wpX6_setSigns wpX6_fails
  by_cases c1 : 0 ≤ p1 ∧ p1 < n
  · obtain ⟨p, hp⟩ := Int.eq_ofNat_of_zero_le c1.1
    subst hp
    by_cases c2 : (-1 ≤ p2 ∧ p2 ≤ 1) ∧ (-1 ≤ p3 ∧ p3 ≤ 7) ∧ p3 ≠ 1
    · have R2 := R.putSigns c1.2 c2.1 c2.2.1
      obtain ⟨hc', ha', g0', g1', g2', g3', past', q1, q2, q3⟩ := saveSim R H ha (hold_eq (ms := ms) (aside := aside))
      obtain ⟨L, P, lv, pv, lo, y1, y2⟩ := setLinesSim R2 lv0 pv0 lo0
      obtain ⟨b1, b2, b3, b4, b5, b6, b7, b8, b9, b10, -⟩ := R2.2.2.2.2.2.2.2 p c1.2
      refine Or.inl ⟨cW bd (updI ah p p2) (updI bh p p3) p, n, lt, ln, bd, updI ah p p2, updI bh p p3, en, st, sh, _, L, P, lv, pv, lo, hc', ha', g0', g1', g2', g3', past', R2, y1, q1, fun xp post hpost => q5_ci h1 (inR_of (by omega)) (fun _ => q5_cs h2 h3 (fun _ => q2 _ (q3_putSigns (by omega) c1.2 hn (y2 _ _ _ _ _ _ _ _ _ _ _ _ (fun ts' a1 a2 a3 a4 a5 a6 a7 a8 => q3_widthOf (by omega) c1.2 hn ⟨b7, Int.le_trans b8 (by omega)⟩ ⟨b9, b10⟩ (hpost _ _ _ _ _ _ _ _ _))))) (fun z => absurd c2 z)) (fun z => absurd c1 z), fun Q hQ => q6_isWord R.1 (inR_of (by omega)) h1 (fun _ => ⟨inR_lit rfl, fun _ => q6_areSigns h2 h3 (fun _ => ⟨inR_lit rfl, fun _ => q6_hold ?_, fun z => absurd z (by decide)⟩) (fun z => absurd c2 z), fun z => absurd z (by decide)⟩) (fun z => absurd c1 z)⟩
      unfold wpX6_puts
      rw [show (15 + 16 * (p : Int) + 13).toNat = 16 * p + 28 by omega, show (15 + 16 * (p : Int) + 14).toNat = 16 * p + 29 by omega]
      exact ⟨by omega, by omega, by omega, by omega, q6_widthOf R2 c1.2 (q3 _ _ _ (hQ _))⟩
    · exact Or.inr ⟨1, xIA, 0, rfl, fun xp post hpost => q5_ci h1 (inR_of (by omega)) (fun _ => q5_cs h2 h3 (fun z => absurd z c2) (fun _ => hpost)) (fun z => absurd c1 z), fun Q hQ => q6_isWord R.1 (inR_of (by omega)) h1 (fun _ => ⟨inR_lit rfl, fun _ => q6_areSigns h2 h3 (fun z => absurd z c2) (fun _ => ⟨inR_lit rfl, fun z => absurd rfl z, fun _ => hQ⟩), fun z => absurd z (by decide)⟩) (fun z => absurd c1 z)⟩
  · exact Or.inr ⟨0, xIX, 0, rfl, fun xp post hpost => q5_ci h1 (inR_of (by omega)) (fun z => absurd z c1) (fun _ => hpost), fun Q hQ => q6_isWord R.1 (inR_of (by omega)) h1 (fun z => absurd z c1) (fun _ => ⟨inR_lit rfl, fun z => absurd rfl z, fun _ => hQ⟩)⟩
theorem o_endParagraph (R : RS n lt ln bd ah bh en st sh ms) (H : HR hc g0 g1 g2 g3 pasts past) {p1 p2 th : Int} (h1 : inR p1) (h2 : p2 = 0 ∨ p2 = 1) (ha : Nat → Nat) (L0 P0 : Int) (lv0 pv0 lo0 ts : Nat → Int) (x1 x2 x3 x4 x5 x6 x7 x8 : Int) :
    OutU [xIX] pasts ms past aside (fun xp post => wpX5_endParagraph n lt ln bd ah bh en st sh L0 P0 lv0 pv0 lo0 ts x1 x2 x3 x4 x5 x6 x7 x8 hc ha g0 g1 g2 g3 p1 p2 xp (fun v en' L P lv pv lo ts y1 y2 y3 y4 y5 y6 y7 y8 hc ha g0 g1 g2 g3 => post v n lt ln bd ah bh en' st sh L P lv pv lo ts y1 y2 y3 y4 y5 y6 y7 y8 hc ha g0 g1 g2 g3)) (fun Q => wpX6_endParagraph pasts th ms past aside p1 p2 Q) := by
  have hn := R.2.2.1
  have hn0 := R.2.1
  unfold OutU wpX5_endParagraph wpX6_endParagraph wpX6_fails wpX5_endParagraph_38 wpX6_endParagraph_39
  by_cases c1 : 0 ≤ p1 ∧ p1 < n
  · obtain ⟨p, hp⟩ := Int.eq_ofNat_of_zero_le c1.1
    subst hp
    have R2 := R.putEnd c1.2 h2
    obtain ⟨hc', ha', g0', g1', g2', g3', past', q1, q2, q3⟩ := saveSim R H ha (hold_eq (ms := ms) (aside := aside))
    obtain ⟨L, P, lv, pv, lo, y1, y2⟩ := setLinesSim R2 lv0 pv0 lo0
    obtain ⟨b1, b2, b3, b4, b5, b6, b7, b8, b9, b10, -⟩ := R.2.2.2.2.2.2.2 p c1.2
    have he := R.2.2.2.2.2.2.1 p (by omega)
    refine Or.inl ⟨en p, n, lt, ln, bd, ah, bh, updI en p p2, st, sh, _, L, P, lv, pv, lo, hc', ha', g0', g1', g2', g3', past', R2, y1, q1, fun xp post hpost => q5_ci h1 (inR_of (by omega)) (fun _ => q2 _ (q3_wasSetToEnd (by omega) c1.2 hn he ?_)) (fun z => absurd c1 z), fun Q hQ => q6_isWord R.1 (inR_of (by omega)) h1 (fun _ => ⟨inR_lit rfl, fun _ => q6_hold (q6_of (16 * p + 30) (by omega) (by omega) ?_), fun z => absurd z (by decide)⟩) (fun z => absurd c1 z)⟩
    · have fin : ∀ w0 : Int, w0 = en p → wpX3_putEnd n en (p : Int) p2 (fun s_ends_1 => wpX5_setLines n bd ah bh s_ends_1 st sh L0 P0 lv0 pv0 lo0 ts x1 x2 x3 x4 x5 x6 x7 x8 (fun y_lines_2 y_pages_2 y_lineValues_2 y_pageValues_2 y_lineOf_2 y_settings_2 yr_words_2 yr_natural_2 yr_own_2 yr_left_2 yr_right_2 yr_paid_2 yr_debt_2 yr_wide_2 => post w0 n lt ln bd ah bh s_ends_1 st sh y_lines_2 y_pages_2 y_lineValues_2 y_pageValues_2 y_lineOf_2 y_settings_2 yr_words_2 yr_natural_2 yr_own_2 yr_left_2 yr_right_2 yr_paid_2 yr_debt_2 yr_wide_2 hc' ha' g0' g1' g2' g3')) := fun w0 hw0 => by
        rw [hw0]
        exact q3_putEnd (by omega) c1.2 hn h2 (y2 _ _ _ _ _ _ _ _ _ _ _ _ (fun ts' a1 a2 a3 a4 a5 a6 a7 a8 => hpost _ _ _ _ _ _ _ _ _))
      have e9 : en ((p : Int)).toNat = en p := rfl
      rw [e9]
      exact ⟨inR_of (by omega), fun z => fin 0 z.symm, fun z => fin 1 (by omega)⟩
    · rw [b6]
      unfold wpX6_puts
      rw [show (15 + 16 * (p : Int) + 15).toNat = 16 * p + 30 by omega]
      rcases h2 with e | e
      · rw [e] at hQ
        exact ⟨inR_of (by omega), fun _ => ⟨by omega, by omega, q3 _ _ _ (hQ _)⟩, fun z => absurd e z⟩
      · rw [e] at hQ
        exact ⟨inR_of (by omega), fun z => absurd z (by omega), fun _ => ⟨by omega, by omega, q3 _ _ _ (hQ _)⟩⟩
  · exact Or.inr ⟨0, xIX, 0, rfl, fun xp post hpost => q5_ci h1 (inR_of (by omega)) (fun z => absurd z c1) (fun _ => hpost), fun Q hQ => q6_isWord R.1 (inR_of (by omega)) h1 (fun z => absurd z c1) (fun _ => ⟨inR_lit rfl, fun z => absurd rfl z, fun _ => hQ⟩)⟩
end Chg
