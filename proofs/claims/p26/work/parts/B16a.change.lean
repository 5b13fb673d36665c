/-! Changes, on the class's side alone. -/
theorem nIAIX' : xIA ≠ xIX := by decide +kernel
theorem nIAIS' : xIA ≠ xIS := by decide +kernel
def GW (lt ln ah bh en e : Nat → Int) (w : Nat) : Prop := e (5 * w + 1) = ln w ∧ e (5 * w + 2) = ah w ∧ e (5 * w + 3) = bh w ∧ e (5 * w + 4) = en w ∧ 0 ≤ e (5 * w) ∧ e (5 * w) < 26 ∧ ∀ k : Nat, (k : Int) < ln w → lt (12 * w + k) = (e (5 * w) + (k : Int)) % 26
theorem GW.cong {lt ln ah bh en e lt' ln' ah' bh' en' e' : Nat → Int} {w w' : Nat} (h : GW lt ln ah bh en e w) (h12 : ln w ≤ 12) (f : (∀ k : Nat, k < 12 → lt' (12 * w' + k) = lt (12 * w + k)) ∧ ln' w' = ln w ∧ ah' w' = ah w ∧ bh' w' = bh w ∧ en' w' = en w) (ee : ∀ i : Nat, i < 5 → e' (5 * w' + i) = e (5 * w + i)) : GW lt' ln' ah' bh' en' e' w' := by
  obtain ⟨b1, b2, b3, b4, b5, b6, b7⟩ := h
  obtain ⟨f1, f2, f3, f4, f5⟩ := f
  have e0 := ee 0 (by omega)
  rw [Nat.add_zero, Nat.add_zero] at e0
  unfold GW
  rw [ee 1 (by omega), ee 2 (by omega), ee 3 (by omega), ee 4 (by omega), e0, f2, f3, f4, f5]
  exact ⟨b1, b2, b3, b4, b5, b6, fun k hk => by rw [f1 k (by omega)]; exact b7 k hk⟩
def RemF (n : Int) (p : Nat) (lt ln ah bh en lt' ln' ah' bh' en' : Nat → Int) : Prop :=
  (∀ w : Nat, w < p → (∀ k : Nat, k < 12 → lt' (12 * w + k) = lt (12 * w + k)) ∧ ln' w = ln w ∧ ah' w = ah w ∧ bh' w = bh w ∧ en' w = en w) ∧
  ∀ w : Nat, p ≤ w → (w : Int) < n - 1 → (∀ k : Nat, k < 12 → lt' (12 * w + k) = lt (12 * (w + 1) + k)) ∧ ln' w = ln (w + 1) ∧ ah' w = ah (w + 1) ∧ bh' w = bh (w + 1) ∧ en' w = en (w + 1)
def InsF (n : Int) (p q : Nat) (p2 p4 p5 : Int) (lt ln ah bh en lt' ln' ah' bh' en' : Nat → Int) : Prop :=
  (∀ w : Nat, w < p → (∀ k : Nat, k < 12 → lt' (12 * w + k) = lt (12 * w + k)) ∧ ln' w = ln w ∧ ah' w = ah w ∧ bh' w = bh w ∧ en' w = en w) ∧
  (∀ w : Nat, p ≤ w → (w : Int) < n → (∀ k : Nat, k < 12 → lt' (12 * (w + 1) + k) = lt (12 * w + k)) ∧ ln' (w + 1) = ln w ∧ ah' (w + 1) = ah w ∧ bh' (w + 1) = bh w ∧ en' (w + 1) = en w) ∧
  (∀ k : Nat, k < q → lt' (12 * p + k) = (p2 + (k : Int)) % 26) ∧ ln' p = (q : Int) ∧ ah' p = p4 ∧ bh' p = p5 ∧ en' p = 0
section Chg26
variable {n : Int} {lt ln bd ah bh en st sh ms past g e : Nat → Int} {hc pasts : Int} {g0 g1 g2 g3 : SS}
theorem cs_set (R : RS n lt ln bd ah bh en st sh ms) (H : HR hc g0 g1 g2 g3 pasts past) {p : Nat} (hp : p < 6) {x : Int} (hx : tb_LEAST_SETTING p ≤ x ∧ x ≤ tb_GREATEST_SETTING p) (Gr : G26 n lt ln ah bh en (updI st p x) sh g e) {ha : Nat → Nat} {L0 P0 : Int} {lv0 pv0 lo0 ts : Nat → Int} {x1 x2 x3 x4 x5 x6 x7 x8 : Int} {xp : String → Prop} {post : Int → (Nat → Int) → Int → Int → (Nat → Int) → (Nat → Int) → (Nat → Int) → (Nat → Int) → Int → Int → Int → Int → Int → Int → Int → Int → Int → (Nat → Nat) → SS → SS → SS → SS → Prop}
    (h : ∀ (hc' : Int) (ha' : Nat → Nat) (g0' g1' g2' g3' : SS) (past' : Nat → Int) (L P : Nat) (lv pv lo ts' : Nat → Int) (y1 y2 y3 y4 y5 y6 y7 y8 : Int), HR hc' g0' g1' g2' g3' hc' past' → Lay26 n bd ah bh en (updI st p x) g e L P lv pv lo → post (st p) (updI st p x) (L : Int) (P : Int) lv pv lo ts' y1 y2 y3 y4 y5 y6 y7 y8 hc' ha' g0' g1' g2' g3') :
    wpX5_set n lt ln bd ah bh en st sh L0 P0 lv0 pv0 lo0 ts x1 x2 x3 x4 x5 x6 x7 x8 hc ha g0 g1 g2 g3 (p : Int) x xp post := by
  obtain ⟨hc', ha', g0', g1', g2', g3', past', q1, q2, -⟩ := saveSim R H ha (hold_eq (ms := ms) (aside := fun _ => 0))
  have bl : inR (tb_LEAST_SETTING p) ∧ inR (tb_GREATEST_SETTING p) := by
    have hp2 : p = 0 ∨ p = 1 ∨ p = 2 ∨ p = 3 ∨ p = 4 ∨ p = 5 := by omega
    rcases hp2 with rfl | rfl | rfl | rfl | rfl | rfl <;> exact ⟨inR_lit rfl, inR_lit rfl⟩
  have bx : inR x := ⟨Int.le_trans bl.1.1 hx.1, Int.le_trans hx.2 bl.2.2⟩
  obtain ⟨L, P, lv, pv, lo, y1, y2⟩ := setLines26 (R.set hp hx) Gr lv0 pv0 lo0
  unfold wpX5_set
  exact q5_cr (inR_of (by omega)) (inR_lit rfl) (inR_lit rfl) (fun _ => ⟨by omega, by omega, by omega, by omega, q5_cr bx bl.1 bl.2 (fun _ => q2 _ (q3_setting (by omega) (by omega) ⟨by omega, by omega, y2 _ _ _ _ _ _ _ _ _ _ _ _ (fun ts' a1 a2 a3 a4 a5 a6 a7 a8 => h hc' ha' g0' g1' g2' g3' past' L P lv pv lo ts' a1 a2 a3 a4 a5 a6 a7 a8 q1 y1)⟩)) (fun z => absurd hx z)⟩) (fun z => absurd ⟨by omega, by omega⟩ z)
theorem cs_share (R : RS n lt ln bd ah bh en st sh ms) (H : HR hc g0 g1 g2 g3 pasts past) {p : Nat} (hp : p < 8) {x : Int} (hx : 0 ≤ x ∧ x ≤ 100) (Gr : G26 n lt ln ah bh en st (updI sh p x) g e) {ha : Nat → Nat} {L0 P0 : Int} {lv0 pv0 lo0 ts : Nat → Int} {x1 x2 x3 x4 x5 x6 x7 x8 : Int} {xp : String → Prop} {post : Int → (Nat → Int) → Int → Int → (Nat → Int) → (Nat → Int) → (Nat → Int) → (Nat → Int) → Int → Int → Int → Int → Int → Int → Int → Int → Int → (Nat → Nat) → SS → SS → SS → SS → Prop}
    (h : ∀ (hc' : Int) (ha' : Nat → Nat) (g0' g1' g2' g3' : SS) (past' : Nat → Int) (L P : Nat) (lv pv lo ts' : Nat → Int) (y1 y2 y3 y4 y5 y6 y7 y8 : Int), HR hc' g0' g1' g2' g3' hc' past' → Lay26 n bd ah bh en st g e L P lv pv lo → post (sh p) (updI sh p x) (L : Int) (P : Int) lv pv lo ts' y1 y2 y3 y4 y5 y6 y7 y8 hc' ha' g0' g1' g2' g3') :
    wpX5_setShare n lt ln bd ah bh en st sh L0 P0 lv0 pv0 lo0 ts x1 x2 x3 x4 x5 x6 x7 x8 hc ha g0 g1 g2 g3 (p : Int) x xp post := by
  obtain ⟨hc', ha', g0', g1', g2', g3', past', q1, q2, -⟩ := saveSim R H ha (hold_eq (ms := ms) (aside := fun _ => 0))
  obtain ⟨L, P, lv, pv, lo, y1, y2⟩ := setLines26 (R.setShare hp hx) Gr lv0 pv0 lo0
  unfold wpX5_setShare
  refine q5_ci (inR_of (by omega)) (inR_lit rfl) (fun _ => q5_cr (inR_of (by omega)) (inR_lit rfl) (inR_lit rfl) (fun _ => q2 _ (q3_shareOf (by omega) (by omega) ?_)) (fun z => absurd hx z)) (fun z => absurd ⟨by omega, by omega⟩ z)
  rw [if_neg (by omega)]
  exact ⟨by omega, by omega, y2 _ _ _ _ _ _ _ _ _ _ _ _ (fun ts' a1 a2 a3 a4 a5 a6 a7 a8 => h hc' ha' g0' g1' g2' g3' past' L P lv pv lo ts' a1 a2 a3 a4 a5 a6 a7 a8 q1 y1)⟩
theorem cs_signs (R : RS n lt ln bd ah bh en st sh ms) (H : HR hc g0 g1 g2 g3 pasts past) {p : Nat} (hp : (p : Int) < n) {x y : Int} (hx : (-1 ≤ x ∧ x ≤ 1) ∧ (-1 ≤ y ∧ y ≤ 7) ∧ y ≠ 1) (Gr : G26 n lt ln (updI ah p x) (updI bh p y) en st sh g e) {ha : Nat → Nat} {L0 P0 : Int} {lv0 pv0 lo0 ts : Nat → Int} {x1 x2 x3 x4 x5 x6 x7 x8 : Int} {xp : String → Prop} {post : Int → (Nat → Int) → (Nat → Int) → Int → Int → (Nat → Int) → (Nat → Int) → (Nat → Int) → (Nat → Int) → Int → Int → Int → Int → Int → Int → Int → Int → Int → (Nat → Nat) → SS → SS → SS → SS → Prop}
    (h : ∀ (hc' : Int) (ha' : Nat → Nat) (g0' g1' g2' g3' : SS) (past' : Nat → Int) (L P : Nat) (lv pv lo ts' : Nat → Int) (y1 y2 y3 y4 y5 y6 y7 y8 : Int), HR hc' g0' g1' g2' g3' hc' past' → Lay26 n bd (updI ah p x) (updI bh p y) en st g e L P lv pv lo → post (cW bd (updI ah p x) (updI bh p y) p) (updI ah p x) (updI bh p y) (L : Int) (P : Int) lv pv lo ts' y1 y2 y3 y4 y5 y6 y7 y8 hc' ha' g0' g1' g2' g3') :
    wpX5_setSigns n lt ln bd ah bh en st sh L0 P0 lv0 pv0 lo0 ts x1 x2 x3 x4 x5 x6 x7 x8 hc ha g0 g1 g2 g3 (p : Int) x y xp post := by
  obtain ⟨hc', ha', g0', g1', g2', g3', past', q1, q2, -⟩ := saveSim R H ha (hold_eq (ms := ms) (aside := fun _ => 0))
  have hn := R.2.2.1
  have R2 := R.putSigns hp hx.1 hx.2.1
  obtain ⟨b1, b2, b3, b4, b5, b6, b7, b8, b9, b10, -⟩ := R2.2.2.2.2.2.2.2 p hp
  obtain ⟨L, P, lv, pv, lo, y1, y2⟩ := setLines26 R2 Gr lv0 pv0 lo0
  unfold wpX5_setSigns
  exact q5_ci (inR_of (by omega)) (inR_of (by omega)) (fun _ => q5_cs (inR_of (by omega)) (inR_of (by omega)) (fun _ => q2 _ (q3_putSigns (by omega) hp hn (y2 _ _ _ _ _ _ _ _ _ _ _ _ (fun ts' a1 a2 a3 a4 a5 a6 a7 a8 => q3_widthOf (by omega) hp hn ⟨b7, Int.le_trans b8 (by omega)⟩ ⟨b9, b10⟩ (h hc' ha' g0' g1' g2' g3' past' L P lv pv lo ts' a1 a2 a3 a4 a5 a6 a7 a8 q1 y1))))) (fun z => absurd hx z)) (fun z => absurd ⟨by omega, hp⟩ z)
theorem cs_end (R : RS n lt ln bd ah bh en st sh ms) (H : HR hc g0 g1 g2 g3 pasts past) {p : Nat} (hp : (p : Int) < n) {x : Int} (hx : x = 0 ∨ x = 1) (Gr : G26 n lt ln ah bh (updI en p x) st sh g e) {ha : Nat → Nat} {L0 P0 : Int} {lv0 pv0 lo0 ts : Nat → Int} {x1 x2 x3 x4 x5 x6 x7 x8 : Int} {xp : String → Prop} {post : Int → (Nat → Int) → Int → Int → (Nat → Int) → (Nat → Int) → (Nat → Int) → (Nat → Int) → Int → Int → Int → Int → Int → Int → Int → Int → Int → (Nat → Nat) → SS → SS → SS → SS → Prop}
    (h : ∀ (hc' : Int) (ha' : Nat → Nat) (g0' g1' g2' g3' : SS) (past' : Nat → Int) (L P : Nat) (lv pv lo ts' : Nat → Int) (y1 y2 y3 y4 y5 y6 y7 y8 : Int), HR hc' g0' g1' g2' g3' hc' past' → Lay26 n bd ah bh (updI en p x) st g e L P lv pv lo → post (en p) (updI en p x) (L : Int) (P : Int) lv pv lo ts' y1 y2 y3 y4 y5 y6 y7 y8 hc' ha' g0' g1' g2' g3') :
    wpX5_endParagraph n lt ln bd ah bh en st sh L0 P0 lv0 pv0 lo0 ts x1 x2 x3 x4 x5 x6 x7 x8 hc ha g0 g1 g2 g3 (p : Int) x xp post := by
  obtain ⟨hc', ha', g0', g1', g2', g3', past', q1, q2, -⟩ := saveSim R H ha (hold_eq (ms := ms) (aside := fun _ => 0))
  have hn := R.2.2.1
  obtain ⟨L, P, lv, pv, lo, y1, y2⟩ := setLines26 (R.putEnd hp hx) Gr lv0 pv0 lo0
  have he := R.2.2.2.2.2.2.1 p (by omega)
  unfold wpX5_endParagraph wpX5_endParagraph_38
  refine q5_ci (inR_of (by omega)) (inR_of (by omega)) (fun _ => q2 _ (q3_wasSetToEnd (by omega) hp hn he ?_)) (fun z => absurd ⟨by omega, hp⟩ z)
  have fin : ∀ w0 : Int, w0 = en p → wpX3_putEnd n en (p : Int) x (fun s_ends_1 => wpX5_setLines n bd ah bh s_ends_1 st sh L0 P0 lv0 pv0 lo0 ts x1 x2 x3 x4 x5 x6 x7 x8 (fun y_lines_2 y_pages_2 y_lineValues_2 y_pageValues_2 y_lineOf_2 y_settings_2 yr_words_2 yr_natural_2 yr_own_2 yr_left_2 yr_right_2 yr_paid_2 yr_debt_2 yr_wide_2 => post w0 s_ends_1 y_lines_2 y_pages_2 y_lineValues_2 y_pageValues_2 y_lineOf_2 y_settings_2 yr_words_2 yr_natural_2 yr_own_2 yr_left_2 yr_right_2 yr_paid_2 yr_debt_2 yr_wide_2 hc' ha' g0' g1' g2' g3')) := fun w0 hw0 => by
    rw [hw0]
    exact q3_putEnd (by omega) hp hn hx (y2 _ _ _ _ _ _ _ _ _ _ _ _ (fun ts' a1 a2 a3 a4 a5 a6 a7 a8 => h hc' ha' g0' g1' g2' g3' past' L P lv pv lo ts' a1 a2 a3 a4 a5 a6 a7 a8 q1 y1))
  have e9 : en ((p : Int)).toNat = en p := rfl
  rw [e9]
  exact ⟨inR_of (by omega), fun z => fin 0 z.symm, fun z => fin 1 (by omega)⟩
theorem cs_remove (R : RS n lt ln bd ah bh en st sh ms) (H : HR hc g0 g1 g2 g3 pasts past) {p : Nat} (hp : (p : Int) < n) (hG : ∀ lt' ln' ah' bh' en' : Nat → Int, RemF n p lt ln ah bh en lt' ln' ah' bh' en' → G26 (n - 1) lt' ln' ah' bh' en' st sh g e) {ha : Nat → Nat} {L0 P0 : Int} {lv0 pv0 lo0 ts : Nat → Int} {x1 x2 x3 x4 x5 x6 x7 x8 : Int} {xp : String → Prop} {post : Int → Int → (Nat → Int) → (Nat → Int) → (Nat → Int) → (Nat → Int) → (Nat → Int) → (Nat → Int) → Int → Int → (Nat → Int) → (Nat → Int) → (Nat → Int) → (Nat → Int) → Int → Int → Int → Int → Int → Int → Int → Int → Int → (Nat → Nat) → SS → SS → SS → SS → Prop}
    (h : ∀ (hc' : Int) (ha' : Nat → Nat) (g0' g1' g2' g3' : SS) (past' : Nat → Int) (L P : Nat) (lv pv lo ts' : Nat → Int) (y1 y2 y3 y4 y5 y6 y7 y8 : Int) (lt' ln' bd' ah' bh' en' ms' : Nat → Int), HR hc' g0' g1' g2' g3' hc' past' → RS (n - 1) lt' ln' bd' ah' bh' en' st sh ms' → G26 (n - 1) lt' ln' ah' bh' en' st sh g e → Lay26 (n - 1) bd' ah' bh' en' st g e L P lv pv lo → post (n - 1) (n - 1) lt' ln' bd' ah' bh' en' (L : Int) (P : Int) lv pv lo ts' y1 y2 y3 y4 y5 y6 y7 y8 hc' ha' g0' g1' g2' g3') :
    wpX5_removeWord n lt ln bd ah bh en st sh L0 P0 lv0 pv0 lo0 ts x1 x2 x3 x4 x5 x6 x7 x8 hc ha g0 g1 g2 g3 (p : Int) xp post := by
  have hn := R.2.2.1
  obtain ⟨hc', ha', g0', g1', g2', g3', past', q1, q2, -⟩ := saveSim R H ha (hold_eq (ms := ms) (aside := fun _ => 0))
  have R2 := R.remove hp
  have c0 : ∀ (f : Nat → Int) (i : Nat), i < p → cpyI f f ((p : Int) + 1).toNat (p : Int).toNat (n - p - 1).toNat i = f i := fun f i hi => by
    unfold cpyI
    rw [if_neg (by omega)]
  have c1 : ∀ (f : Nat → Int) (i : Nat), p ≤ i → (i : Int) < n - 1 → cpyI f f ((p : Int) + 1).toNat (p : Int).toNat (n - p - 1).toNat i = f (i + 1) := fun f i h1 h2 => by
    unfold cpyI
    rw [if_pos (by omega), show ((p : Int) + 1).toNat + (i - (p : Int).toNat) = i + 1 by omega]
  have Gr := hG _ _ _ _ _ (show RemF n p lt ln ah bh en (cpyI lt lt (((p : Int) + 1) * 12).toNat ((p : Int) * 12).toNat ((n - p - 1) * 12).toNat) (cpyI ln ln ((p : Int) + 1).toNat (p : Int).toNat (n - p - 1).toNat) (cpyI ah ah ((p : Int) + 1).toNat (p : Int).toNat (n - p - 1).toNat) (cpyI bh bh ((p : Int) + 1).toNat (p : Int).toNat (n - p - 1).toNat) (cpyI en en ((p : Int) + 1).toNat (p : Int).toNat (n - p - 1).toNat) from
    ⟨fun w hw => ⟨fun k hk => by
        unfold cpyI
        rw [if_neg (by omega)], c0 ln w hw, c0 ah w hw, c0 bh w hw, c0 en w hw⟩,
      fun w h1 h2 => ⟨fun k hk => by
        unfold cpyI
        rw [if_pos (by omega), show (((p : Int) + 1) * 12).toNat + (12 * w + k - ((p : Int) * 12).toNat) = 12 * (w + 1) + k by omega], c1 ln w h1 h2, c1 ah w h1 h2, c1 bh w h1 h2, c1 en w h1 h2⟩⟩)
  obtain ⟨L, P, lv, pv, lo, y1, y2⟩ := setLines26 R2 Gr lv0 pv0 lo0
  unfold wpX5_removeWord
  exact q5_ci (inR_of (by omega)) (inR_of (by omega)) (fun _ => q2 _ (q3_close (by omega) hp hn R.2.2.2.2.2.2.1 (y2 _ _ _ _ _ _ _ _ _ _ _ _ (fun ts' a1 a2 a3 a4 a5 a6 a7 a8 => h hc' ha' g0' g1' g2' g3' past' L P lv pv lo ts' a1 a2 a3 a4 a5 a6 a7 a8 _ _ _ _ _ _ _ q1 R2 Gr y1)))) (fun z => absurd ⟨by omega, hp⟩ z)
theorem cs_insert (R : RS n lt ln bd ah bh en st sh ms) (H : HR hc g0 g1 g2 g3 pasts past) {p q : Nat} (hn60 : n < 60) (hp : (p : Int) ≤ n) (hq : 1 ≤ q ∧ q ≤ 12) {p2 p4 p5 : Int} (h2 : 0 ≤ p2 ∧ p2 ≤ 25) (c4 : (-1 ≤ p4 ∧ p4 ≤ 1) ∧ (-1 ≤ p5 ∧ p5 ≤ 7) ∧ p5 ≠ 1) (hG : ∀ lt' ln' ah' bh' en' : Nat → Int, InsF n p q p2 p4 p5 lt ln ah bh en lt' ln' ah' bh' en' → G26 (n + 1) lt' ln' ah' bh' en' st sh g e) {ha : Nat → Nat} {L0 P0 : Int} {lv0 pv0 lo0 ts : Nat → Int} {x1 x2 x3 x4 x5 x6 x7 x8 : Int} {xp : String → Prop} {post : Int → Int → (Nat → Int) → (Nat → Int) → (Nat → Int) → (Nat → Int) → (Nat → Int) → (Nat → Int) → Int → Int → (Nat → Int) → (Nat → Int) → (Nat → Int) → (Nat → Int) → Int → Int → Int → Int → Int → Int → Int → Int → Int → (Nat → Nat) → SS → SS → SS → SS → Prop}
    (h : ∀ (hc' : Int) (ha' : Nat → Nat) (g0' g1' g2' g3' : SS) (past' : Nat → Int) (L P : Nat) (lv pv lo ts' : Nat → Int) (y1 y2 y3 y4 y5 y6 y7 y8 : Int) (lt' ln' bd' ah' bh' en' ms' : Nat → Int), HR hc' g0' g1' g2' g3' hc' past' → RS (n + 1) lt' ln' bd' ah' bh' en' st sh ms' → G26 (n + 1) lt' ln' ah' bh' en' st sh g e → Lay26 (n + 1) bd' ah' bh' en' st g e L P lv pv lo → post (n + 1) (n + 1) lt' ln' bd' ah' bh' en' (L : Int) (P : Int) lv pv lo ts' y1 y2 y3 y4 y5 y6 y7 y8 hc' ha' g0' g1' g2' g3') :
    wpX5_insert n lt ln bd ah bh en st sh L0 P0 lv0 pv0 lo0 ts x1 x2 x3 x4 x5 x6 x7 x8 hc ha g0 g1 g2 g3 (p : Int) p2 (q : Int) p4 p5 xp post := by
  have hn0 := R.2.1
  obtain ⟨m, rfl⟩ := Int.eq_ofNat_of_zero_le hn0
  obtain ⟨hc', ha', g0', g1', g2', g3', past', q1, q2, -⟩ := saveSim R H ha (hold_eq (ms := ms) (aside := fun _ => 0))
  obtain ⟨gg, hgd⟩ : ∃ gg : Nat → Int, gg = fun k : Nat => (p2 + (k : Int)) % 26 := ⟨_, rfl⟩
  have hg : ∀ k : Nat, 0 ≤ gg k ∧ gg k < 26 := fun k => by
    rw [hgd]
    exact ⟨Int.emod_nonneg _ (by decide), Int.emod_lt_of_pos _ (by decide)⟩
  have hgk : ∀ k : Nat, (p2 + (k : Int)) % 26 = gg k := fun k => by rw [hgd]
  have R2 := R.insert (p := p) (q := q) (by omega) (by omega) hq hg c4.1 c4.2.1
  have c0 : ∀ (f : Nat → Int) (i : Nat), i < p → cpyI f f (p : Int).toNat ((p : Int) + 1).toNat ((m : Int) - p).toNat i = f i := fun f i hi => by
    unfold cpyI
    rw [if_neg (by omega)]
  have c1 : ∀ (f : Nat → Int) (i : Nat), p ≤ i → i < m → cpyI f f (p : Int).toNat ((p : Int) + 1).toNat ((m : Int) - p).toNat (i + 1) = f i := fun f i h1 h2 => by
    unfold cpyI
    rw [if_pos (by omega), show (p : Int).toNat + (i + 1 - ((p : Int) + 1).toNat) = i by omega]
  have Gr := hG _ _ _ _ _ (show InsF (m : Int) p q p2 p4 p5 lt ln ah bh en (blk (cpyI lt lt ((p : Int) * 12).toNat (((p : Int) + 1) * 12).toNat (((m : Int) - p) * 12).toNat) gg (12 * p) q) (updI (cpyI ln ln (p : Int).toNat ((p : Int) + 1).toNat ((m : Int) - p).toNat) (p : Int).toNat (q : Int)) (updI (updI (cpyI ah ah (p : Int).toNat ((p : Int) + 1).toNat ((m : Int) - p).toNat) (p : Int).toNat (-1)) (p : Int).toNat p4) (updI (updI (cpyI bh bh (p : Int).toNat ((p : Int) + 1).toNat ((m : Int) - p).toNat) (p : Int).toNat (-1)) (p : Int).toNat p5) (updI (cpyI en en (p : Int).toNat ((p : Int) + 1).toNat ((m : Int) - p).toNat) (p : Int).toNat 0) from
    ⟨fun w hw => ⟨fun k hk => by
        rw [blk_out (by omega)]
        unfold cpyI
        rw [if_neg (by omega)], (updI_ne (by omega)).trans (c0 ln w hw), ((updI_ne (by omega)).trans (updI_ne (by omega))).trans (c0 ah w hw), ((updI_ne (by omega)).trans (updI_ne (by omega))).trans (c0 bh w hw), (updI_ne (by omega)).trans (c0 en w hw)⟩,
      fun w h1 h2 => ⟨fun k hk => by
        rw [blk_out (by omega)]
        unfold cpyI
        rw [if_pos (by omega), show ((p : Int) * 12).toNat + (12 * (w + 1) + k - (((p : Int) + 1) * 12).toNat) = 12 * w + k by omega], (updI_ne (by omega)).trans (c1 ln w h1 (by omega)), ((updI_ne (by omega)).trans (updI_ne (by omega))).trans (c1 ah w h1 (by omega)), ((updI_ne (by omega)).trans (updI_ne (by omega))).trans (c1 bh w h1 (by omega)), (updI_ne (by omega)).trans (c1 en w h1 (by omega))⟩,
      fun k hk => by
        rw [blk_in hk]
        exact (hgk k).symm, updI_eq (by omega), updI_eq (by omega), updI_eq (by omega), updI_eq (by omega)⟩)
  obtain ⟨L, P, lv, pv, lo, y1, y2⟩ := setLines26 R2 Gr lv0 pv0 lo0
  unfold wpX5_insert
  refine q5_ci (inR_of (by omega)) (inR_of (by omega)) (fun _ => q5_cr (inR_of (by omega)) (inR_lit rfl) (inR_lit rfl) (fun _ => q5_cr (inR_of (by omega)) (inR_lit rfl) (inR_lit rfl) (fun _ => q5_cs (inR_of (by omega)) (inR_of (by omega)) (fun _ => ⟨inR_of (by omega), fun _ => q2 _ (q3_open (by omega) (by omega) hn60 R.2.2.2.2.2.2.1 ⟨q + 1, ?_⟩), fun z => absurd hn60 z⟩) (fun z => absurd c4 z)) (fun z => absurd ⟨by omega, by omega⟩ z)) (fun z => absurd h2 z)) (fun z => absurd ⟨by omega, by omega⟩ z)
  have key : ∀ (f i : Nat), i + f = q → wpX5_insert_78 st sh xp post (f + 1) ((m : Int) + 1) (blk (cpyI lt lt ((p : Int) * 12).toNat (((p : Int) + 1) * 12).toNat (((m : Int) - p) * 12).toNat) gg (12 * p) i) (updI (cpyI ln ln (p : Int).toNat ((p : Int) + 1).toNat ((m : Int) - p).toNat) (p : Int).toNat (i : Int)) (updI (cpyI bd bd (p : Int).toNat ((p : Int) + 1).toNat ((m : Int) - p).toNat) (p : Int).toNat (sm (fun k => lw (gg k)) i)) (updI (cpyI ah ah (p : Int).toNat ((p : Int) + 1).toNat ((m : Int) - p).toNat) (p : Int).toNat (-1)) (updI (cpyI bh bh (p : Int).toNat ((p : Int) + 1).toNat ((m : Int) - p).toNat) (p : Int).toNat (-1)) (updI (cpyI en en (p : Int).toNat ((p : Int) + 1).toNat ((m : Int) - p).toNat) (p : Int).toNat 0) L0 P0 lv0 pv0 lo0 ts x1 x2 x3 x4 x5 x6 x7 x8 hc' ha' g0' g1' g2' g3' (p : Int) p2 (q : Int) p4 p5 (i : Int) := by
    intro f
    induction f with
    | zero =>
      intro i hi
      have e : i = q := by omega
      rw [wpX5_insert_78, e]
      exact ⟨inR_of (by omega), inR_of (by omega), fun _ => q3_putSigns (by omega) (by omega) (by omega) (y2 _ _ _ _ _ _ _ _ _ _ _ _ (fun ts' a1 a2 a3 a4 a5 a6 a7 a8 => h hc' ha' g0' g1' g2' g3' past' L P lv pv lo ts' a1 a2 a3 a4 a5 a6 a7 a8 _ _ _ _ _ _ _ q1 R2 Gr y1)), fun z => absurd (Int.le_refl _) z⟩
    | succ f ih =>
      intro i hi
      rw [wpX5_insert_78]
      refine ⟨inR_of (by omega), inR_of (by omega), fun z => absurd z (by omega), fun _ => ⟨by omega, by omega, ?_⟩⟩
      rw [hgk i]
      have h8 := ih (i + 1) (by omega)
      have hgi := hg i
      have e9 : updI (cpyI ln ln (p : Int).toNat ((p : Int) + 1).toNat ((m : Int) - p).toNat) (p : Int).toNat (i : Int) (p : Int).toNat = (i : Int) := updI_eq rfl
      have e10 : updI (cpyI bd bd (p : Int).toNat ((p : Int) + 1).toNat ((m : Int) - p).toNat) (p : Int).toNat (sm (fun k => lw (gg k)) i) (p : Int).toNat = sm (fun k => lw (gg k)) i := updI_eq rfl
      refine q3_addLetter (by omega) (by omega) (by omega) (by rw [e9]; omega) (inR_of (by omega)) ?_
      rw [e9, e10, if_pos (by omega), updI_upd, updI_upd, show ((p : Int) * 12 + (i : Int)).toNat = 12 * p + i by omega, blk_step]
      rw [sm_succ, show ((i + 1 : Nat) : Int) = (i : Int) + 1 by omega] at h8
      exact h8
  have h0 := key q 0 (by omega)
  rw [blk_zero] at h0
  exact h0
end Chg26
