/-! What the law's changes do to the object and to the law's rows. -/
def shD (e : Nat → Int) (a k : Nat) : Nat → Int := fun j => if a ≤ j ∧ j < k then e (j + 5) else e j
def shU (e : Nat → Int) (k hi : Nat) : Nat → Int := fun j => if k < j ∧ j ≤ hi then e (j - 5) else e j
def insE (e : Nat → Int) (n : Int) (p : Nat) (v0 v1 v2 v3 : Int) : Nat → Int := updI (updI (updI (updI (updI (shU e (5 * p + 4) (5 * n.toNat + 4)) (5 * p) v0) (5 * p + 1) v1) (5 * p + 2) v2) (5 * p + 3) v3) (5 * p + 4) 0
section Acts26
variable {sg : OS} {g e : Nat → Int}
theorem J26.num (J : J26 sg g e) : g 14 = sg.1 ∧ 0 ≤ sg.1 ∧ sg.1 ≤ 10 := by
  obtain ⟨ms, past, pasts, L, P, R, H, Gr, -⟩ := J
  exact ⟨Gr.2.1, R.2.1, Gr.1⟩
theorem J26.gin (J : J26 sg g e) {j : Nat} (hj : j < 14) : inR (g j) := by
  obtain ⟨ms, past, pasts, L, P, R, H, Gr, -⟩ := J
  obtain ⟨gn, g14, g6, g8, gw⟩ := Gr
  obtain ⟨t0, t0', t1, t1', t2, t2', t3, t3', t4, t4', t5⟩ := R.2.2.2.2.2.1
  have s8 := R.2.2.2.2.1
  have hc : j = 0 ∨ j = 1 ∨ j = 2 ∨ j = 3 ∨ j = 4 ∨ j = 5 ∨ 6 ≤ j := by omega
  rcases hc with rfl | rfl | rfl | rfl | rfl | rfl | hc
  · rw [g6 0 (by omega)]; exact inR_of (by omega)
  · rw [g6 1 (by omega)]; exact inR_of (by omega)
  · rw [g6 2 (by omega)]; exact inR_of (by omega)
  · rw [g6 3 (by omega)]; exact inR_of (by omega)
  · rw [g6 4 (by omega)]; exact inR_of (by omega)
  · rw [g6 5 (by omega)]; exact inR_of (by omega)
  · have h1 := g8 (j - 6) (by omega)
    have h2 := (s8 (j - 6) (by omega)).2
    rw [show 6 + (j - 6) = j by omega] at h1
    rw [h1]
    exact inR_of (by omega)
theorem J26.ein (J : J26 sg g e) {p : Nat} (hp : (p : Int) < sg.1) : inR (e (5 * p + 4)) := by
  obtain ⟨ms, past, pasts, L, P, R, H, Gr, -⟩ := J
  have hn := R.2.2.1
  have h1 := (Gr.2.2.2.2 p hp).2.2.2.1
  have h2 := R.2.2.2.2.2.2.1 p (by omega)
  rw [h1]
  exact inR_of (by omega)
theorem c_set (J : J26 sg g e) {p : Nat} (hp : p < 6) {x : Int} (hx : tb_LEAST_SETTING p ≤ x ∧ x ≤ tb_GREATEST_SETTING p) {post : Int → OS → Prop} (h : ∀ sg' : OS, J26 sg' (updI g p x) e → post (g p) sg') : pwL_sets sg (p : Int) x post := by
  obtain ⟨ms, past, pasts, L, P, R, H, Gr, eL, eP, Y, ex⟩ := J
  have e6 := Gr.2.2.1 p hp
  have Gr2 : G26 sg.1 sg.2.1 sg.2.2.1 sg.2.2.2.2.1 sg.2.2.2.2.2.1 sg.2.2.2.2.2.2.1 (updI sg.2.2.2.2.2.2.2.1 p x) sg.2.2.2.2.2.2.2.2.1 (updI g p x) e := by
    obtain ⟨gn, g14, g6, g8, gw⟩ := Gr
    refine ⟨gn, (updI_ne (by omega)).trans g14, fun i hi => ?_, fun i hi => (updI_ne (by omega)).trans (g8 i hi), gw⟩
    by_cases c : i = p
    · rw [updI_eq c, updI_eq c]
    · rw [updI_ne c, updI_ne c, g6 i hi]
  unfold pwL_sets
  refine cs_set R H hp hx Gr2 (fun hc' ha' g0' g1' g2' g3' past' L' P' lv pv lo ts' y1 y2 y3 y4 y5 y6 y7 y8 q1 q2 => ?_)
  rw [← e6]
  exact h _ ⟨_, past', hc', L', P', R.set hp hx, q1, Gr2, rfl, rfl, q2, ex⟩
theorem c_share (J : J26 sg g e) {p : Nat} (hp : p < 8) {x : Int} (hx : 0 ≤ x ∧ x ≤ 100) {post : Int → OS → Prop} (h : ∀ sg' : OS, J26 sg' (updI g (6 + p) x) e → post (g (6 + p)) sg') : pwL_shares sg (p : Int) x post := by
  obtain ⟨ms, past, pasts, L, P, R, H, Gr, eL, eP, Y, ex⟩ := J
  have e6 := Gr.2.2.2.1 p hp
  have Gr2 : G26 sg.1 sg.2.1 sg.2.2.1 sg.2.2.2.2.1 sg.2.2.2.2.2.1 sg.2.2.2.2.2.2.1 sg.2.2.2.2.2.2.2.1 (updI sg.2.2.2.2.2.2.2.2.1 p x) (updI g (6 + p) x) e := by
    obtain ⟨gn, g14, g6, g8, gw⟩ := Gr
    refine ⟨gn, (updI_ne (by omega)).trans g14, fun i hi => (updI_ne (by omega)).trans (g6 i hi), fun i hi => ?_, gw⟩
    by_cases c : i = p
    · rw [updI_eq (by omega), updI_eq c]
    · rw [updI_ne (by omega), updI_ne c, g8 i hi]
  unfold pwL_shares
  refine cs_share R H hp hx Gr2 (fun hc' ha' g0' g1' g2' g3' past' L' P' lv pv lo ts' y1 y2 y3 y4 y5 y6 y7 y8 q1 q2 => ?_)
  rw [← e6]
  exact h _ ⟨_, past', hc', L', P', R.setShare hp hx, q1, Gr2, rfl, rfl, q2, ex⟩
theorem c_end (J : J26 sg g e) {p : Nat} (hp : (p : Int) < sg.1) {x : Int} (hx : x = 0 ∨ x = 1) {post : Int → OS → Prop} (h : ∀ sg' : OS, J26 sg' g (updI e (5 * p + 4) x) → post (e (5 * p + 4)) sg') : pwL_ends sg (p : Int) x post := by
  obtain ⟨ms, past, pasts, L, P, R, H, Gr, eL, eP, Y, ex⟩ := J
  have e6 := (Gr.2.2.2.2 p hp).2.2.2.1
  have Gr2 : G26 sg.1 sg.2.1 sg.2.2.1 sg.2.2.2.2.1 sg.2.2.2.2.2.1 (updI sg.2.2.2.2.2.2.1 p x) sg.2.2.2.2.2.2.2.1 sg.2.2.2.2.2.2.2.2.1 g (updI e (5 * p + 4) x) := by
    obtain ⟨gn, g14, g6, g8, gw⟩ := Gr
    refine ⟨gn, g14, g6, g8, fun w hw => ?_⟩
    obtain ⟨c1, c2, c3, c4, c5, c6, c7⟩ := gw w hw
    refine ⟨(updI_ne (by omega)).trans c1, (updI_ne (by omega)).trans c2, (updI_ne (by omega)).trans c3, ?_, ?_, ?_, ?_⟩
    · by_cases c : w = p
      · rw [updI_eq (by omega), updI_eq c]
      · rw [updI_ne (by omega), updI_ne c, c4]
    · rw [updI_ne (by omega)]; exact c5
    · rw [updI_ne (by omega)]; exact c6
    · rw [updI_ne (by omega)]; exact c7
  unfold pwL_ends
  refine cs_end R H hp hx Gr2 (fun hc' ha' g0' g1' g2' g3' past' L' P' lv pv lo ts' y1 y2 y3 y4 y5 y6 y7 y8 q1 q2 => ?_)
  rw [← e6]
  exact h _ ⟨_, past', hc', L', P', R.putEnd hp hx, q1, Gr2, rfl, rfl, q2, ex⟩
theorem c_signs (J : J26 sg g e) {p : Nat} (hp : (p : Int) < sg.1) {x y : Int} (hx : (-1 ≤ x ∧ x ≤ 1) ∧ (-1 ≤ y ∧ y ≤ 7) ∧ y ≠ 1) {post : Int → OS → Prop} (h : ∀ sg' : OS, J26 sg' g (updI (updI e (5 * p + 2) x) (5 * p + 3) y) → (p : Int) < sg'.1 → ∀ V : Int, V = cW sg'.2.2.2.1 sg'.2.2.2.2.1 sg'.2.2.2.2.2.1 p → post V sg') : pwL_signs sg (p : Int) x y post := by
  obtain ⟨ms, past, pasts, L, P, R, H, Gr, eL, eP, Y, ex⟩ := J
  have Gr2 : G26 sg.1 sg.2.1 sg.2.2.1 (updI sg.2.2.2.2.1 p x) (updI sg.2.2.2.2.2.1 p y) sg.2.2.2.2.2.2.1 sg.2.2.2.2.2.2.2.1 sg.2.2.2.2.2.2.2.2.1 g (updI (updI e (5 * p + 2) x) (5 * p + 3) y) := by
    obtain ⟨gn, g14, g6, g8, gw⟩ := Gr
    refine ⟨gn, g14, g6, g8, fun w hw => ?_⟩
    obtain ⟨c1, c2, c3, c4, c5, c6, c7⟩ := gw w hw
    refine ⟨((updI_ne (by omega)).trans (updI_ne (by omega))).trans c1, ?_, ?_, ((updI_ne (by omega)).trans (updI_ne (by omega))).trans c4, ?_, ?_, ?_⟩
    · rw [updI_ne (by omega)]
      by_cases c : w = p
      · rw [updI_eq (by omega), updI_eq c]
      · rw [updI_ne (by omega), updI_ne c, c2]
    · by_cases c : w = p
      · rw [updI_eq (by omega), updI_eq c]
      · rw [updI_ne (by omega), updI_ne (by omega), updI_ne c, c3]
    · rw [updI_ne (by omega), updI_ne (by omega)]; exact c5
    · rw [updI_ne (by omega), updI_ne (by omega)]; exact c6
    · rw [updI_ne (by omega), updI_ne (by omega)]; exact c7
  unfold pwL_signs
  refine cs_signs R H hp hx Gr2 (fun hc' ha' g0' g1' g2' g3' past' L' P' lv pv lo ts' y1 y2 y3 y4 y5 y6 y7 y8 q1 q2 => ?_)
  refine h _ ?_ ?_ _ ?_
  · exact ⟨_, past', hc', L', P', R.putSigns hp hx.1 hx.2.1, q1, Gr2, rfl, rfl, q2, ex⟩
  · exact hp
  · rfl
theorem c_drop (J : J26 sg g e) {p : Nat} (hp : (p : Int) < sg.1) {post : Int → OS → Prop} (h : ∀ sg' : OS, J26 sg' (updI g 14 (sg.1 - 1)) (shD e (5 * p) 45) → post (sg.1 - 1) sg') : pwL_drops sg (p : Int) post := by
  obtain ⟨ms, past, pasts, L, P, R, H, Gr, eL, eP, Y, ex⟩ := J
  unfold pwL_drops
  refine cs_remove (g := updI g 14 (sg.1 - 1)) (e := shD e (5 * p) 45) R H hp (fun lt' ln' ah' bh' en' F => ?_) (fun hc' ha' g0' g1' g2' g3' past' L' P' lv pv lo ts' y1 y2 y3 y4 y5 y6 y7 y8 lt' ln' bd' ah' bh' en' ms' q1 R2 Gr2 q2 => ?_)
  · obtain ⟨gn, g14, g6, g8, gw⟩ := Gr
    refine ⟨by omega, updI_eq rfl, fun i hi => (updI_ne (by omega)).trans (g6 i hi), fun i hi => (updI_ne (by omega)).trans (g8 i hi), fun w hw => ?_⟩
    by_cases c : w < p
    · refine GW.cong (w := w) (gw w (by omega)) (R.2.2.2.2.2.2.2 w (by omega)).2.1 (F.1 w c) (fun i hi => ?_)
      unfold shD
      rw [if_neg (by omega)]
    · refine GW.cong (w := w + 1) (gw (w + 1) (by omega)) (R.2.2.2.2.2.2.2 (w + 1) (by omega)).2.1 (F.2 w (by omega) hw) (fun i hi => ?_)
      unfold shD
      rw [if_pos (by omega), show 5 * w + i + 5 = 5 * (w + 1) + i by omega]
  · exact h _ ⟨ms', past', hc', L', P', R2, q1, Gr2, rfl, rfl, q2, ex⟩
theorem c_add (J : J26 sg g e) (hn : sg.1 < 10) {p q : Nat} (hp : (p : Int) ≤ sg.1) (hq : 1 ≤ q ∧ q ≤ 12) {v0 v2 v3 : Int} (h0 : 0 ≤ v0 ∧ v0 ≤ 25) (hx : (-1 ≤ v2 ∧ v2 ≤ 1) ∧ (-1 ≤ v3 ∧ v3 ≤ 7) ∧ v3 ≠ 1) {post : Int → OS → Prop} (h : ∀ sg' : OS, J26 sg' (updI g 14 (sg.1 + 1)) (insE e sg.1 p v0 (q : Int) v2 v3) → post (sg.1 + 1) sg') : pwL_adds sg (p : Int) v0 (q : Int) v2 v3 post := by
  obtain ⟨ms, past, pasts, L, P, R, H, Gr, eL, eP, Y, ex⟩ := J
  have hn0 := R.2.1
  unfold pwL_adds
  refine cs_insert (g := updI g 14 (sg.1 + 1)) (e := insE e sg.1 p v0 (q : Int) v2 v3) R H (by omega) hp hq h0 hx (fun lt' ln' ah' bh' en' F => ?_) (fun hc' ha' g0' g1' g2' g3' past' L' P' lv pv lo ts' y1 y2 y3 y4 y5 y6 y7 y8 lt' ln' bd' ah' bh' en' ms' q1 R2 Gr2 q2 => ?_)
  · obtain ⟨gn, g14, g6, g8, gw⟩ := Gr
    refine ⟨by omega, updI_eq rfl, fun i hi => (updI_ne (by omega)).trans (g6 i hi), fun i hi => (updI_ne (by omega)).trans (g8 i hi), fun w hw => ?_⟩
    have far : ∀ j : Nat, j < 5 * p ∨ 5 * p + 5 ≤ j → insE e sg.1 p v0 (q : Int) v2 v3 j = shU e (5 * p + 4) (5 * sg.1.toNat + 4) j := fun j hj => by
      unfold insE
      rw [updI_ne (by omega), updI_ne (by omega), updI_ne (by omega), updI_ne (by omega), updI_ne (by omega)]
    have hcase : w < p ∨ w = p ∨ p < w := by omega
    rcases hcase with c | c | c
    · refine GW.cong (w := w) (gw w (by omega)) (R.2.2.2.2.2.2.2 w (by omega)).2.1 (F.1 w c) (fun i hi => ?_)
      rw [far _ (by omega)]
      unfold shU
      rw [if_neg (by omega)]
    · obtain ⟨-, -, f1, f2, f3, f4, f5⟩ := F
      have k0 : insE e sg.1 p v0 (q : Int) v2 v3 (5 * p) = v0 := by
        unfold insE
        rw [updI_ne (by omega), updI_ne (by omega), updI_ne (by omega), updI_ne (by omega), updI_eq rfl]
      rw [c]
      refine ⟨?_, ?_, ?_, ?_, ?_, ?_, fun k hk => ?_⟩
      · unfold insE
        rw [updI_ne (by omega), updI_ne (by omega), updI_ne (by omega), updI_eq rfl, f2]
      · unfold insE
        rw [updI_ne (by omega), updI_ne (by omega), updI_eq rfl, f3]
      · unfold insE
        rw [updI_ne (by omega), updI_eq rfl, f4]
      · unfold insE
        rw [updI_eq rfl, f5]
      · rw [k0]; exact h0.1
      · rw [k0]; omega
      · rw [k0]
        exact f1 k (by omega)
    · obtain ⟨w0, rfl⟩ : ∃ w0 : Nat, w = w0 + 1 := ⟨w - 1, by omega⟩
      refine GW.cong (w := w0) (gw w0 (by omega)) (R.2.2.2.2.2.2.2 w0 (by omega)).2.1 (F.2.1 w0 (by omega) (by omega)) (fun i hi => ?_)
      rw [far _ (by omega)]
      unfold shU
      rw [if_pos (by omega), show 5 * (w0 + 1) + i - 5 = 5 * w0 + i by omega]
  · exact h _ ⟨ms', past', hc', L', P', R2, q1, Gr2, rfl, rfl, q2, ex⟩
theorem c_end_no {post : Int → OS → Prop} {a b : Int} (ha : inR a) (hn : inR sg.1) (hno : ¬ (0 ≤ a ∧ a < sg.1)) (h : post (-100001) sg) : pwL_ends sg a b post := by
  unfold pwL_ends wpX5_endParagraph
  exact q5_ci ha hn (fun z => absurd z hno) (fun _ => ⟨fun _ => h, rfl⟩)
theorem c_signs_no {post : Int → OS → Prop} {a b c : Int} (ha : inR a) (hn : inR sg.1) (hno : ¬ (0 ≤ a ∧ a < sg.1)) (h : post (-100001) sg) : pwL_signs sg a b c post := by
  unfold pwL_signs wpX5_setSigns
  exact q5_ci ha hn (fun z => absurd z hno) (fun _ => ⟨fun _ => h, fun z => absurd z nIXIA', Or.inl rfl⟩)
theorem c_drop_no {post : Int → OS → Prop} {a : Int} (ha : inR a) (hn : inR sg.1) (hno : ¬ (0 ≤ a ∧ a < sg.1)) (h : post (-100001) sg) : pwL_drops sg a post := by
  unfold pwL_drops wpX5_removeWord
  exact q5_ci ha hn (fun z => absurd z hno) (fun _ => ⟨fun _ => h, rfl⟩)
theorem c_add_no {post : Int → OS → Prop} (hn : 0 ≤ sg.1 ∧ sg.1 ≤ 10) (h : post (-100002) sg) : pwL_adds sg 0 0 13 (-1) (-1) post := by
  unfold pwL_adds wpX5_insert
  exact q5_ci (inR_lit rfl) (inR_of (by omega)) (fun _ => q5_cr (inR_lit rfl) (inR_lit rfl) (inR_lit rfl) (fun _ => q5_cr (inR_lit rfl) (inR_lit rfl) (inR_lit rfl) (fun z => absurd z.2 (by decide)) (fun _ => ⟨fun z => absurd z nIAIX', fun _ => h, fun z => absurd z nIAIS', Or.inr (Or.inl rfl)⟩)) (fun z => absurd ⟨by decide, by decide⟩ z)) (fun z => absurd ⟨by omega, by omega⟩ z)
variable {post : Int → (Nat → Int) → (Nat → Int) → OS → Prop}
theorem u_241 (J : J26 sg g e) (hpost : ∀ (sg' : OS) (g' e' : Nat → Int), J26 sg' g' e' → post 1 g' e' sg') {p : Nat} (hp : p < 6) {x : Int} (hx : tb_LEAST_SETTING p ≤ x ∧ x ≤ tb_GREATEST_SETTING p) : wpL_acts_241 post g e sg (p : Int) x := by
  unfold wpL_acts_241
  rw [Int.toNat_natCast]
  exact ⟨by omega, by omega, by omega, by omega, c_set J hp hx (fun sg' J' => cmp2 rfl (J.gin (by omega)) (hpost _ _ _ J'))⟩
theorem u_148 (J : J26 sg g e) (hpost : ∀ (sg' : OS) (g' e' : Nat → Int), J26 sg' g' e' → post 1 g' e' sg') {v : Int} (hv : 0 ≤ v ∧ v ≤ 2147483647) : wpL_acts_148 post g e sg v := by
  obtain ⟨p, hp⟩ := Int.eq_ofNat_of_zero_le (Int.emod_nonneg v (show (6 : Int) ≠ 0 by decide))
  have hp6 : p < 6 := by omega
  unfold wpL_acts_148 wpL_acts_182 wpL_acts_212
  rw [hp]
  refine ⟨by omega, by omega, inR_of (by omega), fun c0 => ⟨inR_of (by omega), fun c1 => ⟨inR_of (by omega), fun c5 => ⟨by omega, by omega, by omega, by omega, u_241 J hpost hp6 ?_⟩, fun c5 => ⟨by omega, by omega, by omega, by omega, u_241 J hpost hp6 ?_⟩⟩, fun c1 => ⟨by omega, by omega, by omega, by omega, inR_of (by omega), fun _ => ⟨by omega, by omega, by omega, by omega, u_241 J hpost hp6 ?_⟩, fun _ => ⟨by omega, by omega, by omega, by omega, u_241 J hpost hp6 ?_⟩⟩⟩, fun c0 => ⟨by omega, by omega, by omega, by omega, inR_of (by omega), fun _ => ⟨by omega, by omega, by omega, by omega, u_241 J hpost hp6 ?_⟩, fun _ => ⟨by omega, by omega, by omega, by omega, u_241 J hpost hp6 ?_⟩⟩⟩
  · have hc : p = 2 ∨ p = 3 ∨ p = 4 := by omega
    rcases hc with rfl | rfl | rfl
    · exact ⟨show (0 : Int) ≤ v / 6 % 11 by omega, show v / 6 % 11 ≤ (10 : Int) by omega⟩
    · exact ⟨show (0 : Int) ≤ v / 6 % 11 by omega, show v / 6 % 11 ≤ (10 : Int) by omega⟩
    · exact ⟨show (0 : Int) ≤ v / 6 % 11 by omega, show v / 6 % 11 ≤ (10 : Int) by omega⟩
  · obtain rfl : p = 5 := by omega
    exact ⟨show (0 : Int) ≤ v / 6 % 2 by omega, show v / 6 % 2 ≤ (1 : Int) by omega⟩
  · obtain rfl : p = 1 := by omega
    exact ⟨show (2 : Int) ≤ 2 + v / 6 % 3 by omega, show 2 + v / 6 % 3 ≤ (20 : Int) by omega⟩
  · obtain rfl : p = 1 := by omega
    exact ⟨show (2 : Int) ≤ 2 + v / 6 % 19 by omega, show 2 + v / 6 % 19 ≤ (20 : Int) by omega⟩
  · obtain rfl : p = 0 := by omega
    exact ⟨show (20 : Int) ≤ 20 + v / 6 % 40 by omega, show 20 + v / 6 % 40 ≤ (200 : Int) by omega⟩
  · obtain rfl : p = 0 := by omega
    exact ⟨show (20 : Int) ≤ 20 + v / 6 % 181 by omega, show 20 + v / 6 % 181 ≤ (200 : Int) by omega⟩
theorem u_334 (J : J26 sg g e) (hpost : ∀ (sg' : OS) (g' e' : Nat → Int), J26 sg' g' e' → post 1 g' e' sg') {v w : Int} (hv : 0 ≤ v ∧ v ≤ 2147483647) (hw : 0 ≤ w ∧ (sg.1 = 0 ∨ w < sg.1)) : wpL_acts_334 post g e sg v sg.1 w := by
  obtain ⟨j1, j2, j3⟩ := J.num
  unfold wpL_acts_334
  refine ⟨inR_of (by omega), fun c => ?_, fun c => c_end_no (inR_lit rfl) (inR_of (by omega)) (by omega) (cmp1 rfl (inR_lit rfl) (hpost _ _ _ J))⟩
  obtain ⟨p, rfl⟩ := Int.eq_ofNat_of_zero_le hw.1
  have hp : (p : Int) < sg.1 := by omega
  have z4 : (5 * (p : Int) + 4).toNat = 5 * p + 4 := by omega
  have key : ∀ x : Int, x = 0 ∨ x = 1 → wpL_acts_401 post g (updI e (5 * p + 4) x) sg (e (5 * p + 4)) x (p : Int) := fun x hx => by
    unfold wpL_acts_401
    exact c_end J hp hx (fun sg' J' => cmp2 rfl (J.ein hp) (hpost _ _ _ J'))
  unfold wpL_acts_385
  rw [z4]
  refine ⟨by omega, by omega, by omega, by omega, inR_of (by omega), fun c3 => ⟨by omega, by omega, by omega, by omega, inR_of (by omega), fun c4 => absurd c4 (by omega), fun _ => key 1 (Or.inr rfl)⟩, fun c3 => ⟨by omega, by omega, by omega, by omega, inR_of (by omega), fun _ => key 0 (Or.inl rfl), fun c4 => absurd c4 (by omega)⟩⟩
theorem u_415 (J : J26 sg g e) (hpost : ∀ (sg' : OS) (g' e' : Nat → Int), J26 sg' g' e' → post 1 g' e' sg') {w v7 v8 : Int} (hw : 0 ≤ w ∧ (sg.1 = 0 ∨ w < sg.1)) (hx : (-1 ≤ v7 ∧ v7 ≤ 1) ∧ (-1 ≤ v8 ∧ v8 ≤ 7) ∧ v8 ≠ 1) : wpL_acts_415 post g e sg sg.1 w v7 v8 := by
  obtain ⟨j1, j2, j3⟩ := J.num
  unfold wpL_acts_415
  refine ⟨inR_of (by omega), fun c => ?_, fun c => c_signs_no (inR_lit rfl) (inR_of (by omega)) (by omega) (cmp1 rfl (inR_lit rfl) (hpost _ _ _ J))⟩
  obtain ⟨p, rfl⟩ := Int.eq_ofNat_of_zero_le hw.1
  have hp : (p : Int) < sg.1 := by omega
  rw [show (5 * (p : Int) + 2).toNat = 5 * p + 2 by omega, show (5 * (p : Int) + 3).toNat = 5 * p + 3 by omega]
  refine ⟨by omega, by omega, by omega, by omega, c_signs J hp hx (fun sg' J' hp' V hV => ?_)⟩
  have J2 := J'
  obtain ⟨ms, past, pasts, L, P, R, H, Gr, -⟩ := J'
  have hb := cW_bd R.okw hp'
  exact u_width R Gr hp' (cmp2 hV (inR_of (by rw [hV]; omega)) (hpost _ _ _ J2))
theorem u_495 (J : J26 sg g e) (hpost : ∀ (sg' : OS) (g' e' : Nat → Int), J26 sg' g' e' → post 1 g' e' sg') : wpL_acts_495 post g e sg sg.1 := by
  obtain ⟨j1, j2, j3⟩ := J.num
  unfold wpL_acts_495
  exact c_drop_no (inR_of (by omega)) (inR_of (by omega)) (by omega) (cmp1 rfl (inR_lit rfl) (hpost _ _ _ J))
theorem shD_step {e : Nat → Int} {a k : Nat} (h : a ≤ k) : updI (shD e a k) k (shD e a k (k + 5)) = shD e a (k + 1) := by
  funext j
  unfold updI shD
  by_cases c : j = k
  · rw [if_pos c, if_neg (by omega), if_pos (by omega), c]
  · rw [if_neg c]
    by_cases c2 : a ≤ j ∧ j < k
    · rw [if_pos c2, if_pos (by omega)]
    · rw [if_neg c2, if_neg (by omega)]
theorem shU_step {e : Nat → Int} {k hi : Nat} (h : k ≤ hi) (h5 : 5 ≤ k) : updI (shU e k hi) k (shU e k hi (k - 5)) = shU e (k - 1) hi := by
  funext j
  unfold updI shU
  by_cases c : j = k
  · rw [if_pos c, if_neg (by omega), if_pos (by omega), c]
  · rw [if_neg c]
    by_cases c2 : k < j ∧ j ≤ hi
    · rw [if_pos c2, if_pos (by omega)]
    · rw [if_neg c2, if_neg (by omega)]
theorem u_518 (J : J26 sg g e) (hpost : ∀ (sg' : OS) (g' e' : Nat → Int), J26 sg' g' e' → post 1 g' e' sg') {p : Nat} (hp : (p : Int) < sg.1) : ∃ n0 : Nat, wpL_acts_518 post n0 g e sg sg.1 (p : Int) (5 * (p : Int)) := by
  obtain ⟨j1, j2, j3⟩ := J.num
  have key : ∀ f k : Nat, 5 * p ≤ k → k + f = 45 → wpL_acts_518 post (f + 1) g (shD e (5 * p) k) sg sg.1 (p : Int) (k : Int) := by
    intro f
    induction f with
    | zero =>
      intro k h1 h2
      rw [show k = 45 by omega, wpL_acts_518, j1]
      exact ⟨inR_lit rfl, fun _ => c_drop J hp (fun sg' J' => cmp2 rfl (inR_of (by omega)) (hpost _ _ _ J')), fun c => absurd (Int.le_refl _) c⟩
    | succ f ih =>
      intro k h1 h2
      have h3 := ih (k + 1) (by omega) (by omega)
      rw [← shD_step h1, show ((k + 1 : Nat) : Int) = (k : Int) + 1 by omega] at h3
      rw [wpL_acts_518, show ((k : Int) + 5).toNat = k + 5 by omega, Int.toNat_natCast]
      exact ⟨inR_of (by omega), fun c => absurd c (by omega), fun _ => ⟨by omega, by omega, by omega, by omega, h3⟩⟩
  have h0 := key (45 - 5 * p) (5 * p) (Nat.le_refl _) (by omega)
  have e0 : shD e (5 * p) (5 * p) = e := by
    funext j
    unfold shD
    rw [if_neg (by omega)]
  rw [e0, show ((5 * p : Nat) : Int) = 5 * (p : Int) by omega] at h0
  exact ⟨_, h0⟩
theorem u_616 (J : J26 sg g e) (hpost : ∀ (sg' : OS) (g' e' : Nat → Int), J26 sg' g' e' → post 1 g' e' sg') (hn : sg.1 < 10) {v v7 v8 : Int} (hv : 0 ≤ v ∧ v ≤ 2147483647) (hx : (-1 ≤ v7 ∧ v7 ≤ 1) ∧ (-1 ≤ v8 ∧ v8 ≤ 7) ∧ v8 ≠ 1) {p : Nat} (hp : (p : Int) ≤ sg.1) : ∃ n0 : Nat, wpL_acts_616 post n0 g e sg v sg.1 v7 v8 (p : Int) (5 * sg.1 + 4) := by
  obtain ⟨j1, j2, j3⟩ := J.num
  obtain ⟨q, hq⟩ := Int.eq_ofNat_of_zero_le (show 0 ≤ 1 + v / 26 % 12 by omega)
  have key : ∀ f k : Nat, k = 5 * p + 4 + f → k ≤ 5 * sg.1.toNat + 4 → wpL_acts_616 post (f + 1) g (shU e k (5 * sg.1.toNat + 4)) sg v sg.1 v7 v8 (p : Int) (k : Int) := by
    intro f
    induction f with
    | zero =>
      intro k h1 h2
      rw [show k = 5 * p + 4 by omega, wpL_acts_616, j1, show (5 * (p : Int)).toNat = 5 * p by omega, show (5 * (p : Int) + 1).toNat = 5 * p + 1 by omega, show (5 * (p : Int) + 2).toNat = 5 * p + 2 by omega, show (5 * (p : Int) + 3).toNat = 5 * p + 3 by omega, show (5 * (p : Int) + 4).toNat = 5 * p + 4 by omega]
      refine ⟨inR_of (by omega), inR_of (by omega), fun _ => ⟨by omega, by omega, by omega, by omega, by omega, by omega, by omega, by omega, by omega, by omega, by omega, by omega, by omega, by omega, by omega, by omega, by omega, by omega, by omega, by omega, ?_⟩, fun c => absurd (by omega) c⟩
      have e1 : updI (updI (updI (updI (updI (shU e (5 * p + 4) (5 * sg.1.toNat + 4)) (5 * p) (v % 26)) (5 * p + 1) (1 + v / 26 % 12)) (5 * p + 2) v7) (5 * p + 3) v8) (5 * p + 4) 0 = insE e sg.1 p (v % 26) (q : Int) v7 v8 := by rw [hq]; rfl
      have e2 : insE e sg.1 p (v % 26) (q : Int) v7 v8 (5 * p + 1) = (q : Int) := by
        unfold insE
        rw [updI_ne (by omega), updI_ne (by omega), updI_ne (by omega), updI_eq rfl]
      rw [e1, e2]
      exact c_add J hn hp (by omega) (by omega) hx (fun sg' J' => cmp2 rfl (inR_of (by omega)) (hpost _ _ _ J'))
    | succ f ih =>
      intro k h1 h2
      have h3 := ih (k - 1) (by omega) (by omega)
      rw [← shU_step h2 (by omega), show ((k - 1 : Nat) : Int) = (k : Int) + -1 by omega] at h3
      rw [wpL_acts_616, show ((k : Int) - 5).toNat = k - 5 by omega, show ((k : Int)).toNat = k from rfl]
      exact ⟨inR_of (by omega), inR_of (by omega), fun c => absurd c (by omega), fun _ => ⟨by omega, by omega, by omega, by omega, h3⟩⟩
  have h0 := key (5 * sg.1.toNat - 5 * p) (5 * sg.1.toNat + 4) (by omega) (Nat.le_refl _)
  have e0 : shU e (5 * sg.1.toNat + 4) (5 * sg.1.toNat + 4) = e := by
    funext j
    unfold shU
    rw [if_neg (by omega)]
  rw [e0, show ((5 * sg.1.toNat + 4 : Nat) : Int) = 5 * sg.1 + 4 by omega] at h0
  exact ⟨_, h0⟩
theorem u_88 (J : J26 sg g e) (hpost : ∀ (sg' : OS) (g' e' : Nat → Int), J26 sg' g' e' → post 1 g' e' sg') {z v w v7 v8 : Int} (hv : 0 ≤ v ∧ v < 10000000) (hw : 0 ≤ w ∧ (sg.1 = 0 ∨ w < sg.1)) (hx : (-1 ≤ v7 ∧ v7 ≤ 1) ∧ (-1 ≤ v8 ∧ v8 ≤ 7) ∧ v8 ≠ 1) : wpL_acts_88 post g e sg z v sg.1 w v7 v8 := by
  obtain ⟨j1, j2, j3⟩ := J.num
  have hv2 : 0 ≤ v ∧ v ≤ 2147483647 := by omega
  obtain ⟨q, hq⟩ := Int.eq_ofNat_of_zero_le (Int.emod_nonneg v (show (8 : Int) ≠ 0 by decide))
  have hq8 : q < 8 := by omega
  unfold wpL_acts_88
  refine u_low (by decide) (by decide) (fun k k0 k1 => ?_)
  rw [hq, show (6 + (q : Int)).toNat = 6 + q by omega, updI_eq rfl]
  refine ⟨inR_of (by omega), fun _ => u_148 J hpost hv2, fun _ => u_148 J hpost hv2, fun _ => u_148 J hpost hv2, fun _ => ⟨by omega, by omega, by omega, by omega, by omega, by omega, by omega, by omega, by omega, by omega, by omega, by omega, by omega, by omega, by omega, by omega, by omega, by omega, ?_⟩, fun _ => u_334 J hpost hv2 hw, fun _ => u_334 J hpost hv2 hw, fun _ => u_415 J hpost hw hx, fun _ => u_415 J hpost hw hx, fun _ => ⟨inR_of (by omega), fun _ => u_495 J hpost, fun c => ⟨by omega, by omega, inR_of (by omega), fun _ => ?_, fun _ => u_495 J hpost⟩⟩, fun _ => ⟨inR_of (by omega), fun c => ⟨by omega, by omega, by omega, by omega, by omega, by omega, ?_⟩, fun c => c_add_no ⟨j2, j3⟩ (cmp1 rfl (inR_lit rfl) (hpost _ _ _ J))⟩⟩
  · exact c_share J hq8 ⟨by omega, by omega⟩ (fun sg' J' => cmp2 rfl (J.gin (by omega)) (hpost _ _ _ J'))
  · obtain ⟨p, rfl⟩ := Int.eq_ofNat_of_zero_le hw.1
    exact u_518 J hpost (by omega)
  · have m0 := Int.emod_nonneg (v / 7) (show sg.1 + 1 ≠ 0 by omega)
    have m1 := Int.emod_lt_of_pos (v / 7) (show 0 < sg.1 + 1 by omega)
    obtain ⟨p, hp⟩ := Int.eq_ofNat_of_zero_le m0
    rw [hp]
    exact u_616 J hpost (by omega) hv2 hx (by omega)
theorem u_acts (J : J26 sg g e) (z : Int) (hpost : ∀ (sg' : OS) (g' e' : Nat → Int), J26 sg' g' e' → post 1 g' e' sg') : wpL_acts g e sg z post := by
  obtain ⟨j1, j2, j3⟩ := J.num
  have k30 : ∀ v w : Int, 0 ≤ v → v < 10000000 → 0 ≤ w → (sg.1 = 0 ∨ w < sg.1) → wpL_acts_30 post g e sg z v sg.1 w := by
    intro v w v0 v1 w0 w1
    have k67 : ∀ v7 : Int, -1 ≤ v7 → v7 ≤ 1 → wpL_acts_67 post g e sg z v sg.1 w (v / 40 % 10 - 1) v7 := by
      intro v7 a b
      unfold wpL_acts_67 wpL_acts_82
      exact ⟨inR_of (by omega), fun _ => u_88 J hpost ⟨v0, v1⟩ ⟨w0, w1⟩ ⟨⟨a, b⟩, by omega, by omega⟩, fun c => ⟨inR_of (by omega), fun c2 => u_88 J hpost ⟨v0, v1⟩ ⟨w0, w1⟩ ⟨⟨a, b⟩, by omega, c⟩, fun _ => u_88 J hpost ⟨v0, v1⟩ ⟨w0, w1⟩ ⟨⟨a, b⟩, by omega, by omega⟩⟩⟩
    unfold wpL_acts_30
    exact ⟨by omega, by omega, by omega, by omega, by omega, by omega, by omega, by omega, inR_of (by omega), fun c => k67 _ (by omega) c, fun _ => k67 _ (by omega) (by omega)⟩
  unfold wpL_acts
  rw [j1]
  refine fun q1 _ => u_low (by decide) (by decide) (fun v v0 v1 => ⟨inR_of (by omega), fun c => ⟨by omega, by omega, by omega, by omega, k30 v _ v0 v1 (Int.emod_nonneg _ c) (Or.inr (Int.emod_lt_of_pos _ (by omega)))⟩, fun c => k30 v 0 v0 v1 (Int.le_refl _) (Or.inl c)⟩)
end Acts26
