/-! readWords. -/
section RW
variable {T : Int} {xb tx : Nat → Int} {st sh s0 : Nat → Int}
theorem rdSkip (hT : T ≤ 200) (B : ∀ i : Nat, (i : Int) < T → tx i = xb i ∧ 0 ≤ xb i ∧ xb i ≤ 127) {n : Int} {lt ln bd ah bh en : Nat → Int} : ∀ (d : Nat) (j q : Int), 0 ≤ j → j ≤ T → (T - j).toNat ≤ d → q ≠ 1 → inR q → (j < T → q = 0 ∨ xb j.toNat = 32) →
    ∃ (i q' : Int), j ≤ i ∧ i ≤ T ∧ q' ≠ 1 ∧ inR q' ∧ (i < T → q' = 0 ∧ xb i.toNat ≠ 32) ∧ (∃ fu : Nat, ∀ (post : RP) (r : Nat), wpX4_readInto_12 T xb post r q' n lt ln bd ah bh en i → wpX4_readInto_12 T xb post (fu + r) q n lt ln bd ah bh en j) ∧ ∀ P : Int → Prop, P i → wpX6_skips T j tx P := by
  intro d
  induction d with
  | zero =>
    intro j q h0 hj hd hq hq2 hq3
    refine ⟨j, q, Int.le_refl _, hj, hq, hq2, fun z => absurd z (by omega), ⟨0, fun post r h => by rw [Nat.zero_add]; exact h⟩, fun P hP => ⟨1, ?_⟩⟩
    rw [wpX6_skips_0]
    exact ⟨inR_of (by omega), inR_of (by omega), fun _ => hP, fun z => absurd (by omega) z⟩
  | succ d ih =>
    intro j q h0 hj hd hq hq2 hq3
    by_cases c1 : j < T
    · have b := (B j.toNat (by omega)).2
      have et := (B j.toNat (by omega)).1
      by_cases c32 : xb j.toNat = 32
      · obtain ⟨i, q', e1, e2, e3, e4, e5, ⟨fu, e6⟩, e7⟩ := ih (j + 1) 0 (by omega) (by omega) (by omega) (by decide) (inR_lit rfl) (fun _ => Or.inl rfl)
        refine ⟨i, q', by omega, e2, e3, e4, e5, ⟨fu + 1, fun post r h => ?_⟩, fun P hP => ?_⟩
        · rw [show fu + 1 + r = fu + r + 1 by omega]
          refine ri_step hT h0 c1 ?_
          rw [c32]
          exact acc_sp hq2 hq ⟨inR_lit rfl, fun _ => e6 post r h, fun z => absurd z (by decide)⟩
        · obtain ⟨n0, hn⟩ := e7 P hP
          refine ⟨n0 + 1, ?_⟩
          rw [wpX6_skips_0, et]
          exact ⟨inR_of (by omega), inR_of (by omega), fun z => absurd z (by omega), fun _ => ⟨h0, by omega, inR_of (by omega), fun z => absurd c32 z, fun _ => hn⟩⟩
      · have q0 : q = 0 := by
          rcases hq3 c1 with z | z
          · exact z
          · exact absurd z c32
        refine ⟨j, q, Int.le_refl _, hj, hq, hq2, fun _ => ⟨q0, c32⟩, ⟨0, fun post r h => by rw [Nat.zero_add]; exact h⟩, fun P hP => ⟨1, ?_⟩⟩
        rw [wpX6_skips_0, et]
        exact ⟨inR_of (by omega), inR_of (by omega), fun z => absurd z (by omega), fun _ => ⟨h0, by omega, inR_of (by omega), fun _ => hP, fun z => absurd z c32⟩⟩
    · refine ⟨j, q, Int.le_refl _, hj, hq, hq2, fun z => absurd z c1, ⟨0, fun post r h => by rw [Nat.zero_add]; exact h⟩, fun P hP => ⟨1, ?_⟩⟩
      rw [wpX6_skips_0]
      exact ⟨inR_of (by omega), inR_of (by omega), fun _ => hP, fun z => absurd (by omega) z⟩
abbrev RQ : Type := Int → Int → Int → Int → (Nat → Int) → (Nat → Int) → (Nat → Int) → Prop
def RO (T : Int) (tx : Nat → Int) (st sh s0 : Nat → Int) (C : RP → Nat → Prop) (j : Int) (s1 : Nat → Int) : Prop :=
  (∃ (q n : Int) (lt ln bd ah bh en s : Nat → Int), RS n lt ln bd ah bh en st sh s ∧ (∃ fu : Nat, ∀ (post : RP) (r : Nat), post (-1) q n lt ln bd ah bh en → C post (fu + r)) ∧
    ∀ (pasts th : Int) (past aside : Nat → Int) (post : RQ), wpX6_ends pasts th past aside (s 14) (fun z a b c => post z a b T s c aside) → ∃ n0 : Nat, wpX6_readWords_21 T tx post n0 pasts th j s1 past aside) ∨
  (∃ (f q n : Int) (lt ln bd ah bh en s : Nat → Int), 0 ≤ f ∧ f ≤ T ∧ (∀ i : Nat, i < 60 → en i = 0 ∨ en i = 1) ∧ (∀ i : Nat, 975 ≤ i → s i = s0 i) ∧ (∃ fu : Nat, ∀ (post : RP) (r : Nat), post f q n lt ln bd ah bh en → C post (fu + r)) ∧
    ∀ (pasts th : Int) (past aside : Nat → Int) (post : RQ), (∃ n0 : Nat, wpX6_readWords_41 T tx post n0 pasts th f s past aside 0) → ∃ n0 : Nat, wpX6_readWords_21 T tx post n0 pasts th j s1 past aside)
theorem rdAll (hT : T ≤ 200) (B : ∀ i : Nat, (i : Int) < T → tx i = xb i ∧ 0 ≤ xb i ∧ xb i ≤ 127) : ∀ (d : Nat) (j q : Int) (m : Nat) (lt ln bd ah bh en s : Nat → Int), 0 ≤ j → j ≤ T → (T - j).toNat ≤ d → q ≠ 1 → inR q → (j < T → q = 0 ∧ xb j.toNat ≠ 32) → RS (m : Int) lt ln bd ah bh en st sh s → (∀ i : Nat, 975 ≤ i → s i = s0 i) →
    RO T tx st sh s0 (fun post r => wpX4_readInto_12 T xb post r q (m : Int) lt ln bd ah bh en j) j s := by
  have fin : ∀ (j q : Int) (m : Nat) (lt ln bd ah bh en s : Nat → Int), 0 ≤ j → j = T → q ≠ 1 → inR q → RS (m : Int) lt ln bd ah bh en st sh s → RO T tx st sh s0 (fun post r => wpX4_readInto_12 T xb post r q (m : Int) lt ln bd ah bh en j) j s := by
    intro j q m lt ln bd ah bh en s h0 e hq hq2 R
    refine Or.inl ⟨q, (m : Int), lt, ln, bd, ah, bh, en, s, R, ⟨1, fun post r h => ?_⟩, fun pasts th past aside post h => ⟨1, ?_⟩⟩
    · show wpX4_readInto_12 T xb post (1 + r) q (m : Int) lt ln bd ah bh en j
      rw [Nat.add_comm 1 r, wpX4_readInto_12]
      exact ⟨inR_of (by omega), inR_of (by omega), fun _ => ⟨hq2, fun _ => h, fun z => absurd z hq⟩, fun z => absurd (by omega) z⟩
    · rw [wpX6_readWords_21]
      rw [e]
      exact ⟨inR_of (by omega), inR_of (by omega), fun _ => h, fun z => absurd (Int.le_refl _) z⟩
  intro d
  induction d with
  | zero =>
    intro j q m lt ln bd ah bh en s h0 hj hd hq hq2 hq3 R hs
    exact fin j q m lt ln bd ah bh en s h0 (by omega) hq hq2 R
  | succ d ih =>
    intro j q m lt ln bd ah bh en s h0 hj hd hq hq2 hq3 R hs
    by_cases c1 : j < T
    · obtain ⟨q0, c32⟩ := hq3 c1
      subst q0
      rcases rdW (T := T) hT B h0 c1 c32 R hs with ⟨i, q, l1, l2, l3, l4, l5, l6, s', b1, b2, b3, b4, b5, b6, b7, ⟨fu, b8⟩, b9⟩ | ⟨f, q, n, l1, l2, l3, l4, l5, l6, s', b1, b2, b3, b4, ⟨fu, b8⟩, b9⟩
      · obtain ⟨i2, q2, e1, e2, e3, e4, e5, ⟨fu2, e6⟩, e7⟩ := rdSkip hT B (n := (m : Int) + 1) (lt := l1) (ln := l2) (bd := l3) (ah := l4) (bh := l5) (en := l6) (T - i).toNat i q (by omega) b2 (Nat.le_refl _) b4 b5 (fun z => Or.inr (b3 z))
        rcases ih i2 q2 (m + 1) l1 l2 l3 l4 l5 l6 s' (by omega) e2 (by omega) e3 e4 e5 b6 b7 with ⟨q, n, k1, k2, k3, k4, k5, k6, s2, c1', ⟨fu3, c2⟩, c3⟩ | ⟨f, q, n, k1, k2, k3, k4, k5, k6, s2, d1, d2, d3, d4, ⟨fu3, c2⟩, c3⟩
        · refine Or.inl ⟨q, n, k1, k2, k3, k4, k5, k6, s2, c1', ⟨fu + (fu2 + fu3), fun post r h => ?_⟩, fun pasts th past aside post h => ?_⟩
          · rw [show fu + (fu2 + fu3) + r = fu + (fu2 + (fu3 + r)) by omega]
            exact b8 post _ (e6 post _ (c2 post r h))
          · obtain ⟨n0, hn⟩ := c3 pasts th past aside post h
            refine ⟨n0 + 1, ?_⟩
            rw [wpX6_readWords_21]
            exact ⟨inR_of (by omega), inR_of (by omega), fun z => absurd z (by omega), fun _ => b9 _ ⟨inR_lit rfl, fun _ => e7 _ hn, fun z => absurd z (by decide)⟩⟩
        · refine Or.inr ⟨f, q, n, k1, k2, k3, k4, k5, k6, s2, d1, d2, d3, d4, ⟨fu + (fu2 + fu3), fun post r h => ?_⟩, fun pasts th past aside post h => ?_⟩
          · rw [show fu + (fu2 + fu3) + r = fu + (fu2 + (fu3 + r)) by omega]
            exact b8 post _ (e6 post _ (c2 post r h))
          · obtain ⟨n0, hn⟩ := c3 pasts th past aside post h
            refine ⟨n0 + 1, ?_⟩
            rw [wpX6_readWords_21]
            exact ⟨inR_of (by omega), inR_of (by omega), fun z => absurd z (by omega), fun _ => b9 _ ⟨inR_lit rfl, fun _ => e7 _ hn, fun z => absurd z (by decide)⟩⟩
      · refine Or.inr ⟨f, q, n, l1, l2, l3, l4, l5, l6, s', b1, b2, b3, b4, ⟨fu, b8⟩, fun pasts th past aside post h => ⟨1, ?_⟩⟩
        rw [wpX6_readWords_21]
        exact ⟨inR_of (by omega), inR_of (by omega), fun z => absurd z (by omega), fun _ => b9 _ ⟨inR_lit rfl, fun z => absurd rfl z, fun _ => h⟩⟩
    · exact fin j q m lt ln bd ah bh en s h0 (by omega) hq hq2 R
theorem q6_restore {s aside past : Nat → Int} {pasts th f : Int} {post : RQ} (hf : 0 ≤ f ∧ f ≤ 200) (h : post (-10 - f) pasts 0 f (blk s aside 0 975) past aside) : ∃ n0 : Nat, wpX6_readWords_41 T tx post n0 pasts th f s past aside 0 := by
  refine ⟨976, ?_⟩
  have key : ∀ (g i : Nat), i + g = 975 → wpX6_readWords_41 T tx post (g + 1) pasts th f (blk s aside 0 i) past aside (i : Int) := by
    intro g
    induction g with
    | zero =>
      intro i hi
      have e : i = 975 := by omega
      rw [wpX6_readWords_41, e]
      unfold wpX6_tells
      exact ⟨inR_lit rfl, fun _ => h, fun z => absurd (by decide) z⟩
    | succ g ih =>
      intro i hi
      rw [wpX6_readWords_41]
      refine ⟨inR_of (by omega), fun z => absurd z (by omega), fun _ => ⟨by omega, by omega, by omega, by omega, ?_⟩⟩
      have h8 := ih (i + 1) (by omega)
      have e := blk_step (f := s) (g := aside) (b := 0) (i := i)
      rw [Nat.zero_add] at e
      rw [Int.toNat_natCast, e]
      exact h8
  have h0 := key 975 0 (by omega)
  rw [blk_zero] at h0
  exact h0
end RW
theorem o_readWords {n : Int} {lt ln bd ah bh en st sh ms past aside xb tx : Nat → Int} {hc pasts xl ty : Int} {g0 g1 g2 g3 : SS} {L P : Nat} {lv pv lo : Nat → Int} (R : RS n lt ln bd ah bh en st sh ms) (Y : Lay n en ms (tS st) L P lv pv lo) (H : HR hc g0 g1 g2 g3 pasts past) (X : TR xl xb ty tx) {dlt dln dbd dah dbh den : Nat → Int} (hd : ∀ i : Nat, i < 60 → den i = 0 ∨ den i = 1) (ha : Nat → Nat) (ts : Nat → Int) (x1 x2 x3 x4 x5 x6 x7 x8 xs dn th sp : Int) :
    ∃ (v n' : Int) (lt' ln' bd' ah' bh' en' ms' : Nat → Int) (L' P' : Nat) (lv' pv' lo' : Nat → Int) (hc' : Int) (ha' : Nat → Nat) (g0' g1' g2' g3' : SS) (past' : Nat → Int),
    RS n' lt' ln' bd' ah' bh' en' st sh ms' ∧ Lay n' en' ms' (tS st) L' P' lv' pv' lo' ∧ HR hc' g0' g1' g2' g3' hc' past' ∧
    (∀ post, (∀ (ts' : Nat → Int) (y1 y2 y3 y4 y5 y6 y7 y8 xs' dn' : Int) (k1 k2 k3 k4 k5 k6 : Nat → Int), (∀ i : Nat, i < 60 → k6 i = 0 ∨ k6 i = 1) → post v n' lt' ln' bd' ah' bh' en' (L' : Int) (P' : Int) lv' pv' lo' ts' y1 y2 y3 y4 y5 y6 y7 y8 xs' dn' k1 k2 k3 k4 k5 k6 hc' ha' g0' g1' g2' g3') →
      wpX5_readWords n lt ln bd ah bh en st sh (L : Int) (P : Int) lv pv lo ts x1 x2 x3 x4 x5 x6 x7 x8 xl xs xb dn dlt dln dbd dah dbh den hc ha g0 g1 g2 g3 post) ∧
    ∀ Q : RQ, (∀ (sp' : Int) (aside' : Nat → Int), Q v hc' 0 sp' ms' past' aside') → wpX6_readWords pasts ty th sp ms past aside tx Q := by
  obtain ⟨e, X1, X2, X3⟩ := X
  subst e
  have hn0 := R.2.1
  have hn60 := R.2.2.1
  have B : ∀ i : Nat, (i : Int) < xl → tx i = xb i ∧ 0 ≤ xb i ∧ xb i ≤ 127 := X3
  have o : ∀ j : Nat, j ≠ 14 → updI ms 14 0 j = ms j := fun j hj => updI_ne hj
  have R0 : RS ((0 : Nat) : Int) dlt dln dbd dah dbh den st sh (updI ms 14 0) :=
    ⟨updI_eq rfl, by omega, by omega, fun i hi => (o i (by omega)).trans (R.2.2.2.1 i hi), fun i hi => ⟨(o _ (by omega)).trans (R.2.2.2.2.1 i hi).1, (R.2.2.2.2.1 i hi).2⟩, R.2.2.2.2.2.1, hd, fun w hw => absurd hw (by omega)⟩
  obtain ⟨i2, q2, e1, e2, e3, e4, e5, ⟨fu2, e6⟩, e7⟩ := rdSkip X2 B (n := ((0 : Nat) : Int)) (lt := dlt) (ln := dln) (bd := dbd) (ah := dah) (bh := dbh) (en := den) (xl - 0).toNat 0 0 (Int.le_refl _) X1 (Nat.le_refl _) (by decide) (inR_lit rfl) (fun _ => Or.inl rfl)
  rcases rdAll (s0 := updI ms 14 0) X2 B (xl - i2).toNat i2 q2 0 dlt dln dbd dah dbh den (updI ms 14 0) (by omega) e2 (Nat.le_refl _) e3 e4 e5 R0 (fun _ _ => rfl) with ⟨q, m, k1, k2, k3, k4, k5, k6, s2, c1, ⟨fu3, c2⟩, c3⟩ | ⟨f, q, m, k1, k2, k3, k4, k5, k6, s2, d1, d2, d3, d4, ⟨fu3, c2⟩, c3⟩
  · obtain ⟨hc', ha', g0', g1', g2', g3', past', p1, p2, p3⟩ := saveSim R H ha (hold_eq (ms := ms) (aside := aside))
    obtain ⟨L', P', lv', pv', lo', y1, y2⟩ := setLinesSim c1 lv pv lo
    refine ⟨m, m, k1, k2, k3, k4, k5, k6, s2, L', P', lv', pv', lo', hc', ha', g0', g1', g2', g3', past', c1, y1, p1, fun post hp => ?_, fun Q hQ => ?_⟩
    · unfold wpX5_readWords wpX4_readInto
      refine ⟨fu2 + (fu3 + 0), e6 _ _ (c2 _ 0 ⟨inR_lit rfl, fun _ => p2 _ ?_, fun z => absurd rfl z⟩)⟩
      unfold wpX3_takeWords
      exact ⟨fun i hi => by rw [Nat.zero_add]; exact c1.2.2.2.2.2.2.1 i hi, y2 _ _ _ _ _ _ _ _ _ _ _ _ (fun ts' a1 a2 a3 a4 a5 a6 a7 a8 => hp _ _ _ _ _ _ _ _ _ _ _ _ _ _ _ _ _ c1.2.2.2.2.2.2.1)⟩
    · unfold wpX6_readWords
      refine q6_hold (e7 _ (c3 _ _ _ _ _ (p3 _ _ _ ?_)))
      rw [c1.1]
      exact hQ _ _
  · have es : blk s2 (blk aside ms 0 975) 0 975 = ms := by
      funext j
      by_cases c : j < 975
      · rw [hold_eq j c, hold_eq j c]
      · rw [blk_out (by omega), d4 j (by omega)]
        exact o j (by omega)
    refine ⟨-10 - f, n, lt, ln, bd, ah, bh, en, ms, L, P, lv, pv, lo, hc, ha, g0, g1, g2, g3, past, R, Y, by have h1 := H.1; subst h1; exact H, fun post hp => ?_, fun Q hQ => ?_⟩
    · unfold wpX5_readWords wpX4_readInto
      exact ⟨fu2 + (fu3 + 0), e6 _ _ (c2 _ 0 ⟨inR_of (by omega), fun z => absurd z (by omega), fun _ => hp _ _ _ _ _ _ _ _ _ _ _ _ _ _ _ _ _ d3⟩)⟩
    · unfold wpX6_readWords
      refine q6_hold (e7 _ (c3 _ _ _ _ _ (q6_restore (by omega) ?_)))
      rw [es]
      have h1 := H.1
      subst h1
      exact hQ _ _
