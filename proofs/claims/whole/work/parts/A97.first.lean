/-! The start: no word, no line; the state that both have in common. -/
def st6 : Nat → Int := updI (updI (updI (updI (updI (updI (fun _ => 0) 0 60) 1 6) 2 3) 3 3) 4 2) 5 1
theorem lay0 {en ms st lt ln bd ah bh sh lv pv lo : Nat → Int} (R : RS 0 lt ln bd ah bh en st sh ms) : Lay 0 en ms (tS st) 0 0 lv pv lo := by
  obtain ⟨t0, t0', t1, t1', t2, t2', t3, t3', t4, t4', t5⟩ := R.2.2.2.2.2.1
  obtain ⟨L, P, lv1, pv1, lo1, ⟨h1, h2, h3⟩, -⟩ := layoutSim R (p2 := st 0) (p3 := st 2) (p4 := st 3) ⟨t0, t0'⟩ ⟨t2, t2'⟩ ⟨t3, t3'⟩ lv pv lo
  have eL : L = 0 := by have := h1.1; omega
  have eP : P = 0 := by have := h2.1; omega
  subst eL
  subst eP
  refine ⟨⟨by decide, by decide, fun l hl => absurd hl (by omega), fun l hl => absurd hl (by omega), fun h => absurd h (by omega), fun _ => rfl, fun l hl => absurd hl (by omega), fun w hw => absurd hw (by omega)⟩, ⟨Nat.le_refl _, fun p hp => absurd hp (by omega)⟩, fun line0 page0 => ?_⟩
  obtain ⟨line, page, -, -, h4⟩ := h3 line0 page0
  exact ⟨line, page, fun l hl => absurd hl (by omega), fun p hp => absurd hp (by omega), h4⟩
theorem lwI0 {ms : Nat → Int} (h14 : ms 14 = 0) (h6 : ∀ i : Nat, i < 6 → ms i = tb_FIRST_SETTING i) (h8 : ∀ i : Nat, i < 8 → ms (6 + i) = tb_FIRST_SHARE i) {f1 f2 f3 f4 f5 lv pv lo xb past tx : Nat → Int} {g0 g1 g2 g3 : SS} :
    lwI 0 f1 f2 f3 f4 f5 (fun _ => 0) tb_FIRST_SETTING tb_FIRST_SHARE 0 0 lv pv lo 0 xb (fun _ => 0) 0 g0 g1 g2 g3 0 0 ms past tx := by
  have R : RS 0 f1 f2 f3 f4 f5 (fun _ => 0) tb_FIRST_SETTING tb_FIRST_SHARE ms := by
    refine ⟨h14, by decide, by decide, h6, fun i hi => ?_, ⟨by decide, by decide, by decide, by decide, by decide, by decide, by decide, by decide, by decide, by decide, Or.inr rfl⟩, fun i hi => Or.inl rfl, fun w hw => absurd hw (by omega)⟩
    refine ⟨h8 i hi, ?_⟩
    have hc : i = 0 ∨ i = 1 ∨ i = 2 ∨ i = 3 ∨ i = 4 ∨ i = 5 ∨ i = 6 ∨ i = 7 := by omega
    rcases hc with rfl | rfl | rfl | rfl | rfl | rfl | rfl | rfl <;> decide
  exact ⟨R, ⟨0, 0, rfl, rfl, lay0 R⟩, ⟨rfl, by decide, by decide, fun h => absurd h (by decide), fun h => absurd h (by decide), fun h => absurd h (by decide), fun h => absurd h (by decide)⟩, ⟨rfl, by decide, by decide, fun j hj => absurd hj (by omega)⟩, fun i hi => Or.inl rfl⟩
