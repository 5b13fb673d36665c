/-! All pages: the class's arrange and the reference's setAll. -/
def PR (pv page : Nat → Int) (p : Nat) : Prop := page (3 * p) = pv (6 * p) ∧ page (3 * p + 1) = pv (6 * p + 1) ∧ page (3 * p + 2) = pv (6 * p + 5)
def POK (P L : Nat) (pv lv : Nat → Int) : Prop := P ≤ L ∧ ∀ p : Nat, p < P → ∃ (F L' : Nat) (tk : Int), F < L' ∧ L' ≤ L ∧ (tk = 0 ∨ tk = 1) ∧ pageIs pv lv p F L' tk
theorem pageIs.cong {pv pv' lv lv' : Nat → Int} {p F L : Nat} {tk : Int} (hF : F < L) (h1 : ∀ j : Nat, j < 6 → pv' (6 * p + j) = pv (6 * p + j)) (h2 : ∀ j : Nat, j < 12 * L → lv' j = lv j) (h : pageIs pv lv p F L tk) : pageIs pv' lv' p F L tk := by
  obtain ⟨a0, a1, a2, a3, a4, a5⟩ := h
  refine ⟨(h1 0 (by omega)).trans a0, (h1 1 (by omega)).trans a1, ((h1 2 (by omega)).trans a2).trans (sr_cong (fun k k1 k2 => ?_)), ((h1 3 (by omega)).trans a3).trans (sr_cong (fun k k1 k2 => ?_)), ((h1 4 (by omega)).trans a4).trans ?_, (h1 5 (by omega)).trans a5⟩
  · rw [h2 _ (by omega), h2 _ (by omega)]
  · exact (h2 _ (by omega)).symm
  · exact (h2 _ (by omega)).symm
theorem pv_ex (pv lv : Nat → Int) (P F L : Nat) (tk : Int) : ∃ pv1 : Nat → Int, pout pv pv1 P ∧ pageIs pv1 lv P F L tk := by
  refine ⟨blk pv (tb [(F : Int), (L : Int) - F, sr (fun l => lv (12 * l + 5) + lv (12 * l + 6)) F (L - F), sr (fun l => lv (12 * l + 7)) F (L - F), lv (12 * (L - 1) + 8), tk]) (6 * P) 6, fun k hk => blk_out hk, ?_⟩
  exact ⟨blk_in (i := 0) (by omega), blk_in (i := 1) (by omega), blk_in (i := 2) (by omega), blk_in (i := 3) (by omega), blk_in (i := 4) (by omega), blk_in (i := 5) (by omega)⟩
theorem pv_ext {pv pv1 pv2 lv : Nat → Int} {P F L : Nat} {tk : Int} (h1 : pout pv pv1 P) (h2 : pout pv pv2 P) (l1 : pageIs pv1 lv P F L tk) (l2 : pageIs pv2 lv P F L tk) : pv2 = pv1 := by
  funext j
  by_cases cj : 6 * P ≤ j ∧ j < 6 * P + 6
  · obtain ⟨i, hi, rfl⟩ : ∃ i : Nat, i < 6 ∧ j = 6 * P + i := ⟨j - 6 * P, by omega, by omega⟩
    obtain ⟨m0, m1, m2, m3, m4, m5⟩ := l2
    obtain ⟨p0, p1, p2, p3, p4, p5⟩ := l1
    have hi2 : i = 0 ∨ i = 1 ∨ i = 2 ∨ i = 3 ∨ i = 4 ∨ i = 5 := by omega
    rcases hi2 with rfl | rfl | rfl | rfl | rfl | rfl
    · exact m0.trans p0.symm
    · exact m1.trans p1.symm
    · exact m2.trans p2.symm
    · exact m3.trans p3.symm
    · exact m4.trans p4.symm
    · exact m5.trans p5.symm
  · rw [h1 j (by omega), h2 j (by omega)]
theorem mp_ex (page : Nat → Int) (P F L : Nat) (tk : Int) : ∃ page1 : Nat → Int, mpout page page1 P ∧ mpIs page1 P F L tk := by
  refine ⟨blk page (tb [(F : Int), (L : Int) - F, tk]) (3 * P) 3, fun k hk => blk_out hk, ?_⟩
  exact ⟨blk_in (i := 0) (by omega), blk_in (i := 1) (by omega), blk_in (i := 2) (by omega)⟩
theorem mp_ext {pv pv1 pv2 : Nat → Int} {P F L : Nat} {tk : Int} (h1 : mpout pv pv1 P) (h2 : mpout pv pv2 P) (l1 : mpIs pv1 P F L tk) (l2 : mpIs pv2 P F L tk) : pv2 = pv1 := by
  funext j
  by_cases cj : 3 * P ≤ j ∧ j < 3 * P + 3
  · obtain ⟨i, hi, rfl⟩ : ∃ i : Nat, i < 3 ∧ j = 3 * P + i := ⟨j - 3 * P, by omega, by omega⟩
    obtain ⟨m0, m1, m2⟩ := l2
    obtain ⟨p0, p1, p2⟩ := l1
    have hi2 : i = 0 ∨ i = 1 ∨ i = 2 := by omega
    rcases hi2 with rfl | rfl | rfl
    · exact m0.trans p0.symm
    · exact m1.trans p1.symm
    · exact m2.trans p2.symm
  · rw [h1 j (by omega), h2 j (by omega)]
theorem arrangeSim {n : Int} {lt ln bd ah bh en st sh ms : Nat → Int} (R : RS n lt ln bd ah bh en st sh ms) {t : Nat → Int} (T : OKt t) (h1 : t 1 = st 1) (h4 : t 4 = st 4) (h5 : t 5 = st 5) :
    ∀ (f P L next : Nat) (lv lo pv : Nat → Int), n ≤ (L : Int) + f → LOK n en L (next : Int) lv lo → POK P L pv lv →
    ∃ (L' P' : Nat) (lv' lo' pv' : Nat → Int), LOK n en L' n lv' lo' ∧ POK P' L' pv' lv' ∧
      (∀ (post : Int → Int → (Nat → Int) → (Nat → Int) → (Nat → Int) → (Nat → Int) → Int → Int → Int → Int → Int → Int → Int → Int → Prop), (∀ y1 y2 y3 y4 y5 y6 y7 y8 : Int, post (L' : Int) (P' : Int) lv' pv' lo' t y1 y2 y3 y4 y5 y6 y7 y8) → ∃ n0 : Nat, ∀ x1 x2 x3 x4 x5 x6 x7 x8 : Int, wpX1_arrange_53 n bd ah bh en st sh post n0 (L : Int) (P : Int) lv pv lo t x1 x2 x3 x4 x5 x6 x7 x8 (next : Int) (P : Int)) ∧
      (∀ line page : Nat → Int, (∀ l : Nat, l < L → LR lv line l) → (∀ p : Nat, p < P → PR pv page p) → ∃ line' page' : Nat → Int, (∀ l : Nat, l < L' → LR lv' line' l) ∧ (∀ p : Nat, p < P' → PR pv' page' p) ∧
        ∀ post : Int → Int → Int → Int → Int → (Nat → Int) → (Nat → Int) → Prop, post (L' : Int) (P' : Int) (t 0) (t 2) (t 3) line' page' → ∃ n0 : Nat, wpX6_setAll_28 ms post n0 (L : Int) (P : Int) (t 0) (t 2) (t 3) line page (next : Int)) := by
  have hn := R.2.2.1
  have e14 := R.1
  intro f
  induction f with
  | zero =>
    intro P L next lv lo pv hf hL hP
    have a1 := hL.1
    have a2 := hL.2.1
    have e : (next : Int) = n := by omega
    have hPL := hP.1
    refine ⟨L, P, lv, lo, pv, e ▸ hL, hP, fun post hp => ⟨1, fun x1 x2 x3 x4 x5 x6 x7 x8 => ?_⟩, fun line page hl hpg => ⟨line, page, hl, hpg, fun post hp => ⟨1, ?_⟩⟩⟩
    · rw [wpX1_arrange_53]
      exact ⟨inR_of (by omega), fun _ => hp _ _ _ _ _ _ _ _, fun _ => ⟨inR_of (by omega), inR_of (by omega), fun _ => hp _ _ _ _ _ _ _ _, fun z => absurd (by omega) z⟩⟩
    · rw [wpX6_setAll_28]
      exact ⟨inR_of (by omega), inR_of (by omega), fun _ => hp, fun z => absurd (by omega) z⟩
  | succ f ih =>
    intro P L next lv lo pv hf hL hP
    have a1 := hL.1
    have a2 := hL.2.1
    have hPL := hP.1
    by_cases e : (next : Int) = n
    · refine ⟨L, P, lv, lo, pv, e ▸ hL, hP, fun post hp => ⟨1, fun x1 x2 x3 x4 x5 x6 x7 x8 => ?_⟩, fun line page hl hpg => ⟨line, page, hl, hpg, fun post hp => ⟨1, ?_⟩⟩⟩
      · rw [wpX1_arrange_53]
        exact ⟨inR_of (by omega), fun _ => hp _ _ _ _ _ _ _ _, fun _ => ⟨inR_of (by omega), inR_of (by omega), fun _ => hp _ _ _ _ _ _ _ _, fun z => absurd (by omega) z⟩⟩
      · rw [wpX6_setAll_28]
        exact ⟨inR_of (by omega), inR_of (by omega), fun _ => hp, fun z => absurd (by omega) z⟩
    · obtain ⟨L1, nx, lv1, lo1, tk, b1, b2, b3, b4, b5, b6⟩ := fillSim R T h1 h4 h5 (F := L) (P := P) (next := next) (lv := lv) (lo := lo) (by omega) (by omega) hL
      obtain ⟨pv1, p1, p2⟩ := pv_ex pv lv1 P L L1 tk
      have hP1 : POK (P + 1) L1 pv1 lv1 := by
        refine ⟨by omega, fun p hp => ?_⟩
        by_cases c : p < P
        · obtain ⟨F0, L0, tk0, d1, d2, d3, d4⟩ := hP.2 p c
          exact ⟨F0, L0, tk0, d1, by omega, d3, d4.cong d1 (fun j hj => p1 _ (Or.inl (by omega))) (fun j hj => b4 j (by omega))⟩
        · have ep : p = P := by omega
          rw [ep]
          exact ⟨L, L1, tk, b1, Nat.le_refl _, b2, p2⟩
      obtain ⟨L', P', lv', lo', pv', c1, c2, c3, c4⟩ := ih (P + 1) L1 nx lv1 lo1 pv1 (by omega) b3 hP1
      refine ⟨L', P', lv', lo', pv', c1, c2, fun post hp => ?_, fun line page hl hpg => ?_⟩
      · obtain ⟨n0, h0⟩ := c3 post hp
        refine ⟨n0 + 1, fun x1 x2 x3 x4 x5 x6 x7 x8 => ?_⟩
        rw [wpX1_arrange_53]
        refine ⟨inR_of (by omega), fun z => absurd z (by omega), fun _ => ⟨inR_of (by omega), inR_of (by omega), fun z => absurd z (by omega), fun _ => b5 pv _ x1 x2 x3 x4 x5 x6 x7 x8 (fun pv2 y1 y2 y3 y4 y5 y6 y7 y8 q1 q2 => ?_)⟩⟩
        have eq := pv_ext p1 q1 p2 q2
        rw [eq]
        exact h0 y1 y2 y3 y4 y5 y6 y7 y8
      · obtain ⟨line1, d1, d2⟩ := b6 line hl
        obtain ⟨page1, m1, m2⟩ := mp_ex page P L L1 tk
        have hpg1 : ∀ p : Nat, p < P + 1 → PR pv1 page1 p := by
          intro p hp
          by_cases c : p < P
          · obtain ⟨g1, g2, g3⟩ := hpg p c
            refine ⟨?_, ?_, ?_⟩
            · rw [m1 _ (Or.inl (by omega)), p1 _ (Or.inl (by omega))]; exact g1
            · rw [m1 _ (Or.inl (by omega)), p1 _ (Or.inl (by omega))]; exact g2
            · rw [m1 _ (Or.inl (by omega)), p1 _ (Or.inl (by omega))]; exact g3
          · have ep : p = P := by omega
            rw [ep]
            exact ⟨m2.1.trans p2.1.symm, m2.2.1.trans p2.2.1.symm, m2.2.2.trans p2.2.2.2.2.2.symm⟩
        obtain ⟨line', page', e1, e2, e3⟩ := c4 line1 page1 d1 hpg1
        refine ⟨line', page', e1, e2, fun post hp => ?_⟩
        obtain ⟨n0, h0⟩ := e3 post hp
        refine ⟨n0 + 1, ?_⟩
        rw [wpX6_setAll_28]
        refine ⟨inR_of (by omega), inR_of (by omega), fun z => absurd z (by omega), fun _ => d2 page _ (fun page2 q1 q2 => ?_)⟩
        have eq := mp_ext m1 q1 m2 q2
        rw [eq]
        exact h0
/-- the reference comes to the same tables, whatever it kept before -/
def Sim (ms t : Nat → Int) (L P : Nat) (lv pv : Nat → Int) : Prop :=
  ∀ line0 page0 : Nat → Int, ∃ line page : Nat → Int, (∀ l : Nat, l < L → LR lv line l) ∧ (∀ p : Nat, p < P → PR pv page p) ∧
    ∀ (l0 p0 me ml mr : Int) (post : Int → Int → Int → Int → Int → (Nat → Int) → (Nat → Int) → Prop), post (L : Int) (P : Int) (t 0) (t 2) (t 3) line page → wpX6_setAll l0 p0 me ml mr ms line0 page0 (t 0) (t 2) (t 3) post
def Lay (n : Int) (en ms t : Nat → Int) (L P : Nat) (lv pv lo : Nat → Int) : Prop := LOK n en L n lv lo ∧ POK P L pv lv ∧ Sim ms t L P lv pv
theorem layoutSim {n : Int} {lt ln bd ah bh en st sh ms : Nat → Int} (R : RS n lt ln bd ah bh en st sh ms) {p2 p3 p4 : Int} (h2 : 20 ≤ p2 ∧ p2 ≤ 200) (h3 : 0 ≤ p3 ∧ p3 ≤ 10) (h4 : 0 ≤ p4 ∧ p4 ≤ 10) (lv0 pv0 lo0 : Nat → Int) :
    ∃ (L P : Nat) (lv pv lo : Nat → Int), Lay n en ms (updI (updI (updI st 0 p2) 2 p3) 3 p4) L P lv pv lo ∧
      ∀ (l0 p0 : Int) (ts : Nat → Int) (x1 x2 x3 x4 x5 x6 x7 x8 : Int) (post : Int → Int → (Nat → Int) → (Nat → Int) → (Nat → Int) → (Nat → Int) → Int → Int → Int → Int → Int → Int → Int → Int → Prop), (∀ y1 y2 y3 y4 y5 y6 y7 y8 : Int, post (L : Int) (P : Int) lv pv lo (updI (updI (updI st 0 p2) 2 p3) 3 p4) y1 y2 y3 y4 y5 y6 y7 y8) → wpX1_arrange l0 p0 lv0 pv0 lo0 ts x1 x2 x3 x4 x5 x6 x7 x8 n bd ah bh en st sh p2 p3 p4 post := by
  obtain ⟨t0, t0', t1, t1', t2, t2', t3, t3', t4, t4', t5⟩ := R.2.2.2.2.2.1
  have hn := R.2.1
  have e0 : updI (updI (updI st 0 p2) 2 p3) 3 p4 0 = p2 := rfl
  have e1 : updI (updI (updI st 0 p2) 2 p3) 3 p4 1 = st 1 := rfl
  have e2 : updI (updI (updI st 0 p2) 2 p3) 3 p4 2 = p3 := rfl
  have e3 : updI (updI (updI st 0 p2) 2 p3) 3 p4 3 = p4 := rfl
  have e4 : updI (updI (updI st 0 p2) 2 p3) 3 p4 4 = st 4 := rfl
  have e5 : updI (updI (updI st 0 p2) 2 p3) 3 p4 5 = st 5 := rfl
  have T : OKt (updI (updI (updI st 0 p2) 2 p3) 3 p4) := by
    unfold OKt
    rw [e0, e1, e2, e3, e4, e5]
    exact ⟨h2.1, h2.2, t1, t1', h3.1, h3.2, h4.1, h4.2, t4, t4', t5⟩
  have L0 : LOK n en 0 ((0 : Nat) : Int) lv0 lo0 := ⟨by omega, by omega, fun l hl => absurd hl (by omega), fun l hl => absurd hl (by omega), fun z => absurd z (by omega), fun _ => rfl, fun l hl => absurd hl (by omega), fun w hw => absurd hw (by omega)⟩
  have P0 : POK 0 0 pv0 lv0 := ⟨Nat.le_refl _, fun p hp => absurd hp (by omega)⟩
  obtain ⟨L, P, lv, lo, pv, a1, a2, a3, a4⟩ := arrangeSim R T e1 e4 e5 n.toNat 0 0 0 lv0 lo0 pv0 (by omega) L0 P0
  refine ⟨L, P, lv, pv, lo, ⟨a1, a2, fun line0 page0 => ?_⟩, fun l0 p0 ts x1 x2 x3 x4 x5 x6 x7 x8 post hp => ?_⟩
  · obtain ⟨line, page, b1, b2, b3⟩ := a4 line0 page0 (fun l hl => absurd hl (by omega)) (fun l hl => absurd hl (by omega))
    exact ⟨line, page, b1, b2, fun l0 p0 me ml mr post hp => b3 post hp⟩
  · obtain ⟨n0, h0⟩ := a3 post hp
    exact ⟨n0, h0 x1 x2 x3 x4 x5 x6 x7 x8⟩
