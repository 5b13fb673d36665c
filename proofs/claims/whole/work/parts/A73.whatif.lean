/-! What the lines would be with another measure. -/
abbrev TP : Type := Int → Int → Int → (Nat → Int) → (Nat → Int) → (Nat → Int) → (Nat → Int) → Int → Int → Int → Int → Int → Int → Int → Int → Prop
def OutT (names : List String) (C : (String → Prop) → TP → Prop) (M : MP → Prop) : Prop :=
  (∃ v : Int, (∀ (xp : String → Prop) (post : TP), (∀ (l p : Int) (a b c d : Nat → Int) (y1 y2 y3 y4 y5 y6 y7 y8 : Int), post v l p a b c d y1 y2 y3 y4 y5 y6 y7 y8) → C xp post) ∧ ∀ P : MP, (∀ (l p me ml mr : Int) (line page : Nat → Int), P v 0 l p me ml mr line page) → M P) ∨
  (∃ (k : Nat) (nm : String) (r : Int), names[k]? = some nm ∧ (∀ (xp : String → Prop) (post : TP), xp nm → C xp post) ∧ ∀ P : MP, (∀ (l p me ml mr : Int) (line page : Nat → Int), P r ((k : Int) + 1) l p me ml mr line page) → M P)
section WhatIf
variable {n : Int} {lt ln bd ah bh en st sh ms : Nat → Int}
theorem tryM (R : RS n lt ln bd ah bh en st sh ms) {m : Int} (hm : 20 ≤ m ∧ m ≤ 200) (tlv tpv tlo : Nat → Int) :
    ∃ (L P : Nat) (lv pv lo : Nat → Int), LOK n en L n lv lo ∧
      (∀ (l0 p0 : Int) (ts : Nat → Int) (x1 x2 x3 x4 x5 x6 x7 x8 : Int) (post : Int → Int → (Nat → Int) → (Nat → Int) → (Nat → Int) → (Nat → Int) → Int → Int → Int → Int → Int → Int → Int → Int → Prop), (∀ (ts' : Nat → Int) (y1 y2 y3 y4 y5 y6 y7 y8 : Int), post (L : Int) (P : Int) lv pv lo ts' y1 y2 y3 y4 y5 y6 y7 y8) → wpX5_tryMeasure n bd ah bh en st sh l0 p0 tlv tpv tlo ts x1 x2 x3 x4 x5 x6 x7 x8 m post) ∧
      (∀ (l0 p0 me ml mr : Int) (line0 page0 : Nat → Int) (post : Int → Int → Int → Int → Int → (Nat → Int) → (Nat → Int) → Prop), (∀ line page : Nat → Int, (∀ l : Nat, l < L → LR lv line l) → post (L : Int) (P : Int) m (ms 2) (ms 3) line page) → wpX6_setAll l0 p0 me ml mr ms line0 page0 m (ms 2) (ms 3) post) := by
  obtain ⟨t0, t0', t1, t1', t2, t2', t3, t3', t4, t4', t5⟩ := R.2.2.2.2.2.1
  obtain ⟨L, P, lv, pv, lo, a1, a2⟩ := layoutSim R hm ⟨t2, t2'⟩ ⟨t3, t3'⟩ tlv tpv tlo
  have e0 : updI (updI (updI st 0 m) 2 (st 2)) 3 (st 3) 0 = m := rfl
  have e2 : updI (updI (updI st 0 m) 2 (st 2)) 3 (st 3) 2 = ms 2 := (R.2.2.2.1 2 (by omega)).symm
  have e3 : updI (updI (updI st 0 m) 2 (st 2)) 3 (st 3) 3 = ms 3 := (R.2.2.2.1 3 (by omega)).symm
  refine ⟨L, P, lv, pv, lo, a1.1, fun l0 p0 ts x1 x2 x3 x4 x5 x6 x7 x8 post hp => ?_, fun l0 p0 me ml mr line0 page0 post hp => ?_⟩
  · unfold wpX5_tryMeasure
    exact q3_setting (by decide) (by decide) (q3_setting (by decide) (by decide) (a2 _ _ _ _ _ _ _ _ _ _ _ _ (fun y1 y2 y3 y4 y5 y6 y7 y8 => hp _ _ _ _ _ _ _ _ _)))
  · obtain ⟨line, page, b1, b2, b3⟩ := a1.2.2 line0 page0
    rw [e0, e2, e3] at b3
    exact b3 _ _ _ _ _ _ (hp line page b1)
theorem o_linesWith (R : RS n lt ln bd ah bh en st sh ms) {p1 th l0 p0 me ml mr : Int} {line0 page0 : Nat → Int} (h1 : inR p1) (tl tp : Int) (tlv tpv tlo ts : Nat → Int) (x1 x2 x3 x4 x5 x6 x7 x8 : Int) :
    OutT [xIA] (fun xp post => wpX5_linesWith n bd ah bh en st sh tl tp tlv tpv tlo ts x1 x2 x3 x4 x5 x6 x7 x8 p1 xp post) (fun Q => wpX6_linesWith th l0 p0 me ml mr ms line0 page0 p1 Q) := by
  unfold OutT wpX5_linesWith wpX6_linesWith wpX6_tells wpX6_fails
  by_cases c1 : 20 ≤ p1 ∧ p1 ≤ 200
  · obtain ⟨L, P, lv, pv, lo, a1, a2, a3⟩ := tryM R c1 tlv tpv tlo
    exact Or.inl ⟨(L : Int), fun xp post hp => q5_cr h1 (inR_lit rfl) (inR_lit rfl) (fun _ => a2 _ _ _ _ _ _ _ _ _ _ _ _ (fun ts' y1 y2 y3 y4 y5 y6 y7 y8 => hp _ _ _ _ _ _ _ _ _ _ _ _ _ _)) (fun z => absurd c1 z), fun Q hQ => q6_in h1 (inR_lit rfl) (inR_lit rfl) (fun _ => ⟨inR_lit rfl, fun _ => a3 _ _ _ _ _ _ _ _ (fun line page hl => hQ _ _ _ _ _ _ _), fun z => absurd z (by decide)⟩) (fun z => absurd c1 z)⟩
  · exact Or.inr ⟨0, xIA, 0, rfl, fun xp post hp => q5_cr h1 (inR_lit rfl) (inR_lit rfl) (fun z => absurd z c1) (fun _ => hp), fun Q hQ => q6_in h1 (inR_lit rfl) (inR_lit rfl) (fun z => absurd z c1) (fun _ => ⟨inR_lit rfl, fun z => absurd rfl z, fun _ => hQ _ _ _ _ _ _ _⟩)⟩
theorem o_linesUnlent (R : RS n lt ln bd ah bh en st sh ms) {th l0 p0 me ml mr : Int} {line0 page0 : Nat → Int} (tl tp : Int) (tlv tpv tlo ts : Nat → Int) (x1 x2 x3 x4 x5 x6 x7 x8 : Int) :
    OutT [] (fun _ post => wpX5_linesUnlent n bd ah bh en st sh tl tp tlv tpv tlo ts x1 x2 x3 x4 x5 x6 x7 x8 post) (fun Q => wpX6_linesUnlent th l0 p0 me ml mr ms line0 page0 Q) := by
  obtain ⟨t0, t0', t1, t1', t2, t2', t3, t3', t4, t4', t5⟩ := R.2.2.2.2.2.1
  unfold OutT wpX5_linesUnlent wpX6_linesUnlent wpX6_tells
  obtain ⟨L, P, lv, pv, lo, a1, a2⟩ := layoutSim R (p2 := st 0) (p3 := 0) (p4 := 0) ⟨t0, t0'⟩ (by omega) (by omega) tlv tpv tlo
  have e0 : updI (updI (updI st 0 (st 0)) 2 0) 3 0 0 = ms 0 := (R.2.2.2.1 0 (by omega)).symm
  have e2 : updI (updI (updI st 0 (st 0)) 2 0) 3 0 2 = 0 := rfl
  have e3 : updI (updI (updI st 0 (st 0)) 2 0) 3 0 3 = 0 := rfl
  refine Or.inl ⟨(L : Int), fun _ post hp => q3_setting (by decide) (by decide) (a2 _ _ _ _ _ _ _ _ _ _ _ _ (fun y1 y2 y3 y4 y5 y6 y7 y8 => hp _ _ _ _ _ _ _ _ _ _ _ _ _ _)), fun Q hQ => ?_⟩
  obtain ⟨line, page, b1, b2, b3⟩ := a1.2.2 line0 page0
  rw [e0, e2, e3] at b3
  exact b3 _ _ _ _ _ _ (hQ _ _ _ _ _ _ _)
theorem measureLoop (R : RS n lt ln bd ah bh en st sh ms) {p1 : Int} (h1 : 1 ≤ p1 ∧ p1 ≤ 60) :
    ∀ (f : Nat) (m : Int), 20 ≤ m → m + f = 201 → ∀ tlv tpv tlo : Nat → Int, ∃ v : Int,
      (∀ (xp : String → Prop) (post : TP), (∀ (l p : Int) (a b c d : Nat → Int) (y1 y2 y3 y4 y5 y6 y7 y8 : Int), post v l p a b c d y1 y2 y3 y4 y5 y6 y7 y8) → ∃ n0 : Nat, ∀ (tl tp : Int) (ts : Nat → Int) (x1 x2 x3 x4 x5 x6 x7 x8 : Int), wpX5_measureFor_10 n bd ah bh en st sh xp post n0 tl tp tlv tpv tlo ts x1 x2 x3 x4 x5 x6 x7 x8 p1 m) ∧
      (∀ P : MP, (∀ (l p me ml mr : Int) (line page : Nat → Int), P v 0 l p me ml mr line page) → ∃ n0 : Nat, ∀ (th l p me ml mr : Int) (line page : Nat → Int), wpX6_measureFor_19 ms P n0 th l p me ml mr line page p1 m) := by
  have hn := R.2.2.1
  intro f
  induction f with
  | zero =>
    intro m hm hf tlv tpv tlo
    refine ⟨-1, fun xp post hp => ⟨1, fun tl tp ts x1 x2 x3 x4 x5 x6 x7 x8 => ?_⟩, fun P hP => ⟨1, fun th l p me ml mr line page => ?_⟩⟩
    · rw [wpX5_measureFor_10]
      exact ⟨inR_of (by omega), fun _ => hp _ _ _ _ _ _ _ _ _ _ _ _ _ _, fun c => absurd (by omega) c⟩
    · rw [wpX6_measureFor_19]
      exact ⟨inR_of (by omega), fun _ => hP _ _ _ _ _ _ _, fun c => absurd (by omega) c⟩
  | succ f ih =>
    intro m hm hf tlv tpv tlo
    obtain ⟨L, P, lv, pv, lo, a1, a2, a3⟩ := tryM R ⟨hm, by omega⟩ tlv tpv tlo
    have hLn := a1.1
    by_cases c : p1 < (L : Int)
    · obtain ⟨v, b1, b2⟩ := ih (m + 1) (by omega) (by omega) lv pv lo
      refine ⟨v, fun xp post hp => ?_, fun P2 hP => ?_⟩
      · obtain ⟨n0, h0⟩ := b1 xp post hp
        refine ⟨n0 + 1, fun tl tp ts x1 x2 x3 x4 x5 x6 x7 x8 => ?_⟩
        rw [wpX5_measureFor_10]
        exact ⟨inR_of (by omega), fun z => absurd z (by omega), fun _ => a2 _ _ _ _ _ _ _ _ _ _ _ _ (fun ts' y1 y2 y3 y4 y5 y6 y7 y8 => ⟨inR_of (by omega), inR_of (by omega), fun _ => h0 _ _ _ _ _ _ _ _ _ _ _, fun z => absurd c z⟩)⟩
      · obtain ⟨n0, h0⟩ := b2 P2 hP
        refine ⟨n0 + 1, fun th l p me ml mr line page => ?_⟩
        rw [wpX6_measureFor_19]
        exact ⟨inR_of (by omega), fun z => absurd z (by omega), fun _ => a3 _ _ _ _ _ _ _ _ (fun line page hl => ⟨inR_of (by omega), inR_of (by omega), fun _ => h0 _ _ _ _ _ _ _ _, fun z => absurd c z⟩)⟩
    · refine ⟨m, fun xp post hp => ⟨1, fun tl tp ts x1 x2 x3 x4 x5 x6 x7 x8 => ?_⟩, fun P2 hP => ⟨1, fun th l p me ml mr line page => ?_⟩⟩
      · rw [wpX5_measureFor_10]
        exact ⟨inR_of (by omega), fun z => absurd z (by omega), fun _ => a2 _ _ _ _ _ _ _ _ _ _ _ _ (fun ts' y1 y2 y3 y4 y5 y6 y7 y8 => ⟨inR_of (by omega), inR_of (by omega), fun z => absurd z c, fun _ => hp _ _ _ _ _ _ _ _ _ _ _ _ _ _⟩)⟩
      · rw [wpX6_measureFor_19]
        exact ⟨inR_of (by omega), fun z => absurd z (by omega), fun _ => a3 _ _ _ _ _ _ _ _ (fun line page hl => ⟨inR_of (by omega), inR_of (by omega), fun z => absurd z c, fun _ => hP _ _ _ _ _ _ _⟩)⟩
theorem o_measureFor (R : RS n lt ln bd ah bh en st sh ms) {p1 th l0 p0 me ml mr : Int} {line0 page0 : Nat → Int} (h1 : inR p1) (tl tp : Int) (tlv tpv tlo ts : Nat → Int) (x1 x2 x3 x4 x5 x6 x7 x8 : Int) :
    OutT [xIA] (fun xp post => wpX5_measureFor n bd ah bh en st sh tl tp tlv tpv tlo ts x1 x2 x3 x4 x5 x6 x7 x8 p1 xp post) (fun Q => wpX6_measureFor th l0 p0 me ml mr ms line0 page0 p1 Q) := by
  unfold OutT wpX5_measureFor wpX6_measureFor wpX6_fails
  by_cases c1 : 1 ≤ p1 ∧ p1 ≤ 60
  · obtain ⟨v, b1, b2⟩ := measureLoop R c1 181 20 (by omega) (by omega) tlv tpv tlo
    refine Or.inl ⟨v, fun xp post hp => q5_cr h1 (inR_lit rfl) (inR_lit rfl) (fun _ => ?_) (fun z => absurd c1 z), fun Q hQ => q6_in h1 (inR_lit rfl) (inR_lit rfl) (fun _ => ⟨inR_lit rfl, fun _ => ?_, fun z => absurd z (by decide)⟩) (fun z => absurd c1 z)⟩
    · obtain ⟨n0, h0⟩ := b1 xp post hp
      exact ⟨n0, h0 _ _ _ _ _ _ _ _ _ _ _⟩
    · obtain ⟨n0, h0⟩ := b2 Q hQ
      exact ⟨n0, h0 _ _ _ _ _ _ _ _⟩
  · exact Or.inr ⟨0, xIA, 0, rfl, fun xp post hp => q5_cr h1 (inR_lit rfl) (inR_lit rfl) (fun z => absurd z c1) (fun _ => hp), fun Q hQ => q6_in h1 (inR_lit rfl) (inR_lit rfl) (fun z => absurd z c1) (fun _ => ⟨inR_lit rfl, fun z => absurd rfl z, fun _ => hQ _ _ _ _ _ _ _⟩)⟩
theorem sqG_bd {L : Nat} {lv : Nat → Int} (hF : ∀ l : Nat, l < L → LF n en lv l) : 0 ≤ sm (sqG lv) L ∧ sm (sqG lv) L ≤ 40000 * (L : Int) := by
  have h := sm_bd (g := sqG lv) (a := 0) (b := 40000) L (fun k hk => by
    obtain ⟨f1, f2, f3, f4, f5, f6, f7, f8, f9, f10, f11, f12, f13, f14, f15, f16, f17, f18, f19, f20⟩ := hF k hk
    unfold sqG
    split
    · refine ⟨Int.mul_nonneg f19 f19, ?_⟩
      have h1 : lv (12 * k + 11) * lv (12 * k + 11) ≤ 200 * lv (12 * k + 11) := Int.mul_le_mul_of_nonneg_right f20 f19
      omega
    · omega)
  rw [Int.zero_mul] at h
  exact h
/-- past the widest measure nothing happens -/
theorem evTail (R : RS n lt ln bd ah bh en st sh ms) {p1 v2 v3 : Int} (h1 : 0 ≤ p1 ∧ p1 ≤ 20) {P : MP} (hP : ∀ (l p me ml mr : Int) (line page : Nat → Int), P v2 0 l p me ml mr line page) :
    ∀ (f : Nat) (m : Int), 0 ≤ m → (200 < m ∨ f = 0) → m + f = st 0 + p1 + 1 → ∀ (th l p me ml mr : Int) (line page : Nat → Int), wpX6_evenest_30 ms P (f + 1) th l p me ml mr line page p1 v2 v3 m := by
  obtain ⟨t0, t0', -⟩ := R.2.2.2.2.2.1
  have e0 : ms 0 = st 0 := R.2.2.2.1 0 (by omega)
  intro f
  induction f with
  | zero =>
    intro m h0 hm hf th l p me ml mr line page
    rw [wpX6_evenest_30, e0]
    exact ⟨inR_of (by omega), inR_of (by omega), fun _ => hP _ _ _ _ _ _ _, fun z => absurd (by omega) z⟩
  | succ f ih =>
    intro m h0 hm hf th l p me ml mr line page
    rw [wpX6_evenest_30, e0]
    refine ⟨inR_of (by omega), inR_of (by omega), fun z => absurd z (by omega), fun _ => q6_in (inR_of (by omega)) (inR_lit rfl) (inR_lit rfl) (fun z => absurd z (by omega)) (fun _ => ⟨inR_lit rfl, fun _ => ?_, fun z => absurd rfl z⟩)⟩
    unfold wpX6_evenest_111
    exact ih (m + 1) (by omega) (Or.inl (by omega)) (by omega) _ _ _ _ _ _ _ _
theorem evHead (R : RS n lt ln bd ah bh en st sh ms) {p1 v2 v3 : Int} (h1 : 0 ≤ p1 ∧ p1 ≤ 20) {P : MP} (hP : ∃ n0 : Nat, ∀ (th l p me ml mr : Int) (line page : Nat → Int), wpX6_evenest_30 ms P n0 th l p me ml mr line page p1 v2 v3 20) :
    ∀ (f : Nat) (m : Int), 0 ≤ m → m + f = 20 → ∃ n0 : Nat, ∀ (th l p me ml mr : Int) (line page : Nat → Int), wpX6_evenest_30 ms P n0 th l p me ml mr line page p1 v2 v3 m := by
  obtain ⟨t0, t0', -⟩ := R.2.2.2.2.2.1
  have e0 : ms 0 = st 0 := R.2.2.2.1 0 (by omega)
  intro f
  induction f with
  | zero =>
    intro m h0 hf
    have e : m = 20 := by omega
    subst e
    exact hP
  | succ f ih =>
    intro m h0 hf
    obtain ⟨n0, h9⟩ := ih (m + 1) (by omega) (by omega)
    refine ⟨n0 + 1, fun th l p me ml mr line page => ?_⟩
    rw [wpX6_evenest_30, e0]
    refine ⟨inR_of (by omega), inR_of (by omega), fun z => absurd z (by omega), fun _ => q6_in (inR_of (by omega)) (inR_lit rfl) (inR_lit rfl) (fun z => absurd z (by omega)) (fun _ => ⟨inR_lit rfl, fun _ => ?_, fun z => absurd rfl z⟩)⟩
    unfold wpX6_evenest_111
    exact h9 _ _ _ _ _ _ _ _
theorem evLoop (R : RS n lt ln bd ah bh en st sh ms) {p1 hi : Int} (h1 : 0 ≤ p1 ∧ p1 ≤ 20) (hhi : hi = (if st 0 + p1 < 200 then st 0 + p1 else 200)) :
    ∀ (f : Nat) (m v4 v5 v2 v3 : Int), 20 ≤ m → m + f = hi + 1 → ((v2 = -1 ∧ v4 = -1 ∧ m ≤ st 0) ∨ (v2 = v4 ∧ v3 = v5 ∧ v2 < m ∧ 20 ≤ v2 ∧ 0 ≤ v3 ∧ v3 ≤ 2400000)) → ∀ tlv tpv tlo : Nat → Int, ∃ v : Int,
      (∀ (xp : String → Prop) (post : TP), (∀ (l p : Int) (a b c d : Nat → Int) (y1 y2 y3 y4 y5 y6 y7 y8 : Int), post v l p a b c d y1 y2 y3 y4 y5 y6 y7 y8) → ∃ n0 : Nat, ∀ (tl tp : Int) (ts : Nat → Int) (x1 x2 x3 x4 x5 x6 x7 x8 : Int), wpX5_evenest_42 n bd ah bh en st sh xp post n0 tl tp tlv tpv tlo ts x1 x2 x3 x4 x5 x6 x7 x8 hi v4 v5 m) ∧
      (∀ P : MP, (∀ (l p me ml mr : Int) (line page : Nat → Int), P v 0 l p me ml mr line page) → ∃ n0 : Nat, ∀ (th l p me ml mr : Int) (line page : Nat → Int), wpX6_evenest_30 ms P n0 th l p me ml mr line page p1 v2 v3 m) := by
  have hn := R.2.2.1
  obtain ⟨t0, t0', -⟩ := R.2.2.2.2.2.1
  have e0 : ms 0 = st 0 := R.2.2.2.1 0 (by omega)
  have hb : hi ≤ 200 ∧ st 0 ≤ hi ∧ hi ≤ st 0 + p1 ∧ (hi = 200 ∨ hi = st 0 + p1) := by rw [hhi]; split <;> omega
  intro f
  induction f with
  | zero =>
    intro m v4 v5 v2 v3 hm hf hI tlv tpv tlo
    refine ⟨v4, fun xp post hp => ⟨1, fun tl tp ts x1 x2 x3 x4 x5 x6 x7 x8 => ?_⟩, fun P hP => ⟨(st 0 + p1 + 1 - m).toNat + 1, fun th l p me ml mr line page => ?_⟩⟩
    · rw [wpX5_evenest_42]
      exact ⟨inR_of (by omega), inR_of (by omega), fun _ => hp _ _ _ _ _ _ _ _ _ _ _ _ _ _, fun z => absurd (by omega) z⟩
    · have e : v2 = v4 := by omega
      rw [e]
      exact evTail R h1 hP (st 0 + p1 + 1 - m).toNat m (by omega) (by omega) (by omega) _ _ _ _ _ _ _ _
  | succ f ih =>
    intro m v4 v5 v2 v3 hm hf hI tlv tpv tlo
    obtain ⟨L, P, lv, pv, lo, a1, a2, a3⟩ := tryM R (m := m) ⟨hm, by omega⟩ tlv tpv tlo
    have hLn := a1.1
    have hF := a1.2.2.1
    have hq := sqG_bd hF
    obtain ⟨z, hz⟩ : ∃ z : Int, sm (sqG lv) L = z := ⟨_, rfl⟩
    rw [hz] at hq
    by_cases c : v4 ≠ -1 ∧ v5 ≤ z
    · -- not better
      have hI2 : v2 = v4 ∧ v3 = v5 ∧ v2 < m ∧ 20 ≤ v2 ∧ 0 ≤ v3 ∧ v3 ≤ 2400000 := by omega
      obtain ⟨v, b1, b2⟩ := ih (m + 1) v4 v5 v2 v3 (by omega) (by omega) (Or.inr (by omega)) lv pv lo
      refine ⟨v, fun xp post hp => ?_, fun P2 hP => ?_⟩
      · obtain ⟨n0, h0⟩ := b1 xp post hp
        refine ⟨n0 + 1, fun tl tp ts x1 x2 x3 x4 x5 x6 x7 x8 => ?_⟩
        rw [wpX5_evenest_42]
        refine ⟨inR_of (by omega), inR_of (by omega), fun z => absurd z (by omega), fun _ => a2 _ _ _ _ _ _ _ _ _ _ _ _ (fun ts' y1 y2 y3 y4 y5 y6 y7 y8 => q1_squares (by omega) hF ?_)⟩
        rw [hz]
        exact ⟨inR_of (by omega), fun z9 => absurd z9 c.1, fun _ => ⟨inR_of (by omega), inR_of (by omega), fun _ => h0 _ _ _ _ _ _ _ _ _ _ _, fun z9 => absurd c.2 z9⟩⟩
      · obtain ⟨n0, h0⟩ := b2 P2 hP
        refine ⟨n0 + 1, fun th l p me ml mr line page => ?_⟩
        rw [wpX6_evenest_30, e0]
        refine ⟨inR_of (by omega), inR_of (by omega), fun z => absurd z (by omega), fun _ => q6_in (inR_of (by omega)) (inR_lit rfl) (inR_lit rfl) (fun _ => ⟨inR_lit rfl, fun z => absurd z (by decide), fun _ => a3 _ _ _ _ _ _ _ _ (fun line page hl => q6_uneven R (by omega) hF hl ?_)⟩) (fun z => absurd ⟨hm, by omega⟩ z)⟩
        rw [hz]
        unfold wpX6_evenest_97 wpX6_evenest_110 wpX6_evenest_111
        exact ⟨inR_of (by omega), fun z => absurd z (by omega), fun _ => ⟨inR_of (by omega), inR_of (by omega), fun _ => ⟨inR_of (by omega), inR_of (by omega), fun _ => h0 _ _ _ _ _ _ _ _, fun z => absurd z (by omega)⟩, fun z => absurd (by omega) z⟩⟩
    · -- better
      obtain ⟨v, b1, b2⟩ := ih (m + 1) m z m z (by omega) (by omega) (Or.inr (by omega)) lv pv lo
      refine ⟨v, fun xp post hp => ?_, fun P2 hP => ?_⟩
      · obtain ⟨n0, h0⟩ := b1 xp post hp
        refine ⟨n0 + 1, fun tl tp ts x1 x2 x3 x4 x5 x6 x7 x8 => ?_⟩
        rw [wpX5_evenest_42]
        refine ⟨inR_of (by omega), inR_of (by omega), fun z => absurd z (by omega), fun _ => a2 _ _ _ _ _ _ _ _ _ _ _ _ (fun ts' y1 y2 y3 y4 y5 y6 y7 y8 => q1_squares (by omega) hF ?_)⟩
        rw [hz]
        exact ⟨inR_of (by omega), fun _ => h0 _ _ _ _ _ _ _ _ _ _ _, fun c4 => ⟨inR_of (by omega), inR_of (by omega), fun z9 => absurd ⟨c4, z9⟩ c, fun _ => h0 _ _ _ _ _ _ _ _ _ _ _⟩⟩
      · obtain ⟨n0, h0⟩ := b2 P2 hP
        refine ⟨n0 + 1, fun th l p me ml mr line page => ?_⟩
        rw [wpX6_evenest_30, e0]
        refine ⟨inR_of (by omega), inR_of (by omega), fun z => absurd z (by omega), fun _ => q6_in (inR_of (by omega)) (inR_lit rfl) (inR_lit rfl) (fun _ => ⟨inR_lit rfl, fun z => absurd z (by decide), fun _ => a3 _ _ _ _ _ _ _ _ (fun line page hl => q6_uneven R (by omega) hF hl ?_)⟩) (fun z => absurd ⟨hm, by omega⟩ z)⟩
        rw [hz]
        unfold wpX6_evenest_91 wpX6_evenest_97 wpX6_evenest_110 wpX6_evenest_111
        have go : inR m ∧ inR m ∧ (¬ m = m → wpX6_evenest_30 ms P2 n0 th (L : Int) (P : Int) m (ms 2) (ms 3) line page p1 m v3 (m + 1)) ∧ (m = m → wpX6_evenest_30 ms P2 n0 th (L : Int) (P : Int) m (ms 2) (ms 3) line page p1 m z (m + 1)) := ⟨inR_of (by omega), inR_of (by omega), fun z => absurd rfl z, fun _ => h0 _ _ _ _ _ _ _ _⟩
        refine ⟨inR_of (by omega), fun _ => go, fun c3 => ⟨inR_of (by omega), inR_of (by omega), fun z => absurd z (by omega), fun _ => go⟩⟩
theorem o_evenest (R : RS n lt ln bd ah bh en st sh ms) {p1 th l0 p0 me ml mr : Int} {line0 page0 : Nat → Int} (h1 : inR p1) (tl tp : Int) (tlv tpv tlo ts : Nat → Int) (x1 x2 x3 x4 x5 x6 x7 x8 : Int) :
    OutT [xIA] (fun xp post => wpX5_evenest n bd ah bh en st sh tl tp tlv tpv tlo ts x1 x2 x3 x4 x5 x6 x7 x8 p1 xp post) (fun Q => wpX6_evenest th l0 p0 me ml mr ms line0 page0 p1 Q) := by
  obtain ⟨t0, t0', -⟩ := R.2.2.2.2.2.1
  have e0 : ms 0 = st 0 := R.2.2.2.1 0 (by omega)
  unfold OutT wpX5_evenest wpX6_evenest wpX6_fails
  by_cases c1 : 0 ≤ p1 ∧ p1 ≤ 20
  · obtain ⟨hi, hhi⟩ : ∃ hi : Int, hi = (if st 0 + p1 < 200 then st 0 + p1 else 200) := ⟨_, rfl⟩
    have hb : hi ≤ 200 ∧ st 0 ≤ hi := by rw [hhi]; split <;> omega
    obtain ⟨m, hm⟩ : ∃ m : Int, m = (if 20 < st 0 - p1 then st 0 - p1 else 20) := ⟨_, rfl⟩
    have hmb : 20 ≤ m ∧ m ≤ st 0 ∧ (m = st 0 - p1 ∨ (m = 20 ∧ st 0 - p1 ≤ 20)) := by rw [hm]; split <;> omega
    obtain ⟨v, b1, b2⟩ := evLoop R c1 hhi (hi + 1 - m).toNat m (-1) 0 (-1) 0 (by omega) (by omega) (Or.inl ⟨rfl, rfl, by omega⟩) tlv tpv tlo
    refine Or.inl ⟨v, fun xp post hp => q5_cr h1 (inR_lit rfl) (inR_lit rfl) (fun _ => q3_setting (by decide) (by decide) ?_) (fun z => absurd c1 z), fun Q hQ => q6_in h1 (inR_lit rfl) (inR_lit rfl) (fun _ => ⟨inR_lit rfl, fun _ => ?_, fun z => absurd z (by decide)⟩) (fun z => absurd c1 z)⟩
    · obtain ⟨n0, h0⟩ := b1 xp post hp
      have h8 := h0 tl tp ts x1 x2 x3 x4 x5 x6 x7 x8
      rw [hhi, hm] at h8
      exact ⟨inR_of (show -2147483648 ≤ st 0 + p1 ∧ st 0 + p1 ≤ 2147483647 by omega), inR_of (show -2147483648 ≤ st 0 - p1 ∧ st 0 - p1 ≤ 2147483647 by omega), n0, h8⟩
    · rw [e0]
      rcases hmb.2.2 with e | e
      · obtain ⟨n0, h0⟩ := b2 Q hQ
        rw [← e]
        exact ⟨n0, h0 _ _ _ _ _ _ _ _⟩
      · have hb3 := b2 Q hQ
        rw [e.1] at hb3
        obtain ⟨n0, h0⟩ := evHead R c1 hb3 (20 - (st 0 - p1)).toNat (st 0 - p1) (by omega) (by omega)
        exact ⟨n0, h0 _ _ _ _ _ _ _ _⟩
  · exact Or.inr ⟨0, xIA, 0, rfl, fun xp post hp => q5_cr h1 (inR_lit rfl) (inR_lit rfl) (fun z => absurd z c1) (fun _ => hp), fun Q hQ => q6_in h1 (inR_lit rfl) (inR_lit rfl) (fun z => absurd z c1) (fun _ => ⟨inR_lit rfl, fun z => absurd rfl z, fun _ => hQ _ _ _ _ _ _ _⟩)⟩
end WhatIf
