/-! Undo, and taking a word away. -/
section Und
variable {n : Int} {lt ln bd ah bh en st sh ms past aside : Nat → Int} {hc pasts : Int} {g0 g1 g2 g3 : SS}
theorem q6_undoLoop {p : Nat} (hp : p ≤ 3) {th : Int} {post : Int → Int → Int → (Nat → Int) → Prop} (h : post (p : Int) (p : Int) 0 (blk ms (bk past p) 0 975)) : ∃ n0 : Nat, wpX6_undo_25 past post n0 (p : Int) th ms 0 := by
  refine ⟨976, ?_⟩
  have key : ∀ (f i : Nat), i + f = 975 → wpX6_undo_25 past post (f + 1) (p : Int) th (blk ms (bk past p) 0 i) (i : Int) := by
    intro f
    induction f with
    | zero =>
      intro i hi
      have e : i = 975 := by omega
      rw [wpX6_undo_25]
      unfold wpX6_tells
      rw [e]
      exact ⟨inR_lit rfl, fun _ => h, fun c => absurd (by omega) c⟩
    | succ f ih =>
      intro i hi
      rw [wpX6_undo_25]
      refine ⟨inR_of (by omega), fun c => absurd c (by omega), fun _ => ⟨by omega, by omega, by omega, by omega, ?_⟩⟩
      have h8 := ih (i + 1) (by omega)
      rw [← blk_step, Nat.zero_add] at h8
      rw [show (975 * (p : Int) + (i : Int)).toNat = 975 * p + i by omega]
      exact h8
  have h0 := key 975 0 (by omega)
  rw [blk_zero] at h0
  exact h0
theorem o_undo (H : HR hc g0 g1 g2 g3 pasts past) {th : Int} (ha : Nat → Nat) (L0 P0 : Int) (lv0 pv0 lo0 ts : Nat → Int) (x1 x2 x3 x4 x5 x6 x7 x8 : Int) :
    OutU [xIS] pasts ms past aside (fun xp post => wpX5_undo n lt ln bd ah bh en st sh L0 P0 lv0 pv0 lo0 ts x1 x2 x3 x4 x5 x6 x7 x8 hc g0 g1 g2 g3 xp (fun v n lt ln bd ah bh en st sh L P lv pv lo ts y1 y2 y3 y4 y5 y6 y7 y8 hc => post v n lt ln bd ah bh en st sh L P lv pv lo ts y1 y2 y3 y4 y5 y6 y7 y8 hc ha g0 g1 g2 g3)) (fun Q => wpX6_undo pasts th ms past (fun v p t s => Q v p t s past aside)) := by
  obtain ⟨a1, a2, a3, a4, a5, a6, a7⟩ := H
  subst a1
  unfold OutU wpX5_undo wpX6_undo wpX6_fails
  have go : ∀ (k : Nat) (g : SS), pasts = (k : Int) + 1 → k ≤ 3 → RSg g (bk past k) → (∀ post : Int → Int → (Nat → Int) → (Nat → Int) → (Nat → Int) → (Nat → Int) → (Nat → Int) → (Nat → Int) → (Nat → Int) → (Nat → Int) → Prop, post (k : Int) g.1 g.2.1 g.2.2.1 g.2.2.2.1 g.2.2.2.2.1 g.2.2.2.2.2.1 g.2.2.2.2.2.2.1 g.2.2.2.2.2.2.2.1 g.2.2.2.2.2.2.2.2 → wpX0_restore pasts g0 g1 g2 g3 n lt ln bd ah bh en st sh post) → HR (k : Int) g0 g1 g2 g3 (k : Int) past →
    (∃ (v n' : Int) (lt' ln' bd' ah' bh' en' st' sh' ms' : Nat → Int) (L P : Nat) (lv pv lo : Nat → Int) (hc : Int) (ha2 : Nat → Nat) (g0' g1' g2' g3' : SS) (past' : Nat → Int),
    RS n' lt' ln' bd' ah' bh' en' st' sh' ms' ∧ Lay n' en' ms' (tS st') L P lv pv lo ∧ HR hc g0' g1' g2' g3' hc past' ∧
    (∀ (xp : String → Prop) (post : CP), (∀ (ts : Nat → Int) (y1 y2 y3 y4 y5 y6 y7 y8 : Int), post v n' lt' ln' bd' ah' bh' en' st' sh' (L : Int) (P : Int) lv pv lo ts y1 y2 y3 y4 y5 y6 y7 y8 hc ha2 g0' g1' g2' g3') → wpX5_undo n lt ln bd ah bh en st sh L0 P0 lv0 pv0 lo0 ts x1 x2 x3 x4 x5 x6 x7 x8 pasts g0 g1 g2 g3 xp (fun v n lt ln bd ah bh en st sh L P lv pv lo ts y1 y2 y3 y4 y5 y6 y7 y8 hc => post v n lt ln bd ah bh en st sh L P lv pv lo ts y1 y2 y3 y4 y5 y6 y7 y8 hc ha g0 g1 g2 g3)) ∧
    ∀ Q : MU, (∀ aside' : Nat → Int, Q v hc 0 ms' past' aside') → wpX6_undo pasts th ms past (fun v p t s => Q v p t s past aside)) := by
    intro k g hk hk3 hr hre hH
    have R2 : RSg g (blk ms (bk past k) 0 975) := RS.cong hr hold_eq
    obtain ⟨L, P, lv, pv, lo, y1, y2⟩ := setLinesSim R2 lv0 pv0 lo0
    refine ⟨(k : Int), g.1, g.2.1, g.2.2.1, g.2.2.2.1, g.2.2.2.2.1, g.2.2.2.2.2.1, g.2.2.2.2.2.2.1, g.2.2.2.2.2.2.2.1, g.2.2.2.2.2.2.2.2, _, L, P, lv, pv, lo, (k : Int), ha, g0, g1, g2, g3, past, R2, y1, hH, fun xp post hpost => ?_, fun Q hQ => ?_⟩
    · unfold wpX5_undo
      exact ⟨inR_of (by omega), fun _ => hre _ (y2 _ _ _ _ _ _ _ _ _ _ _ _ (fun ts' a1 a2 a3 a4 a5 a6 a7 a8 => hpost _ _ _ _ _ _ _ _ _)), fun z => absurd (by omega) z⟩
    · unfold wpX6_undo
      rw [show pasts - 1 = (k : Int) by omega]
      exact ⟨inR_of (by omega), fun _ => q6_undoLoop hk3 (hQ _), fun z => absurd z (by omega)⟩
  have f7 : ∀ (g : SS) (k : Nat), RSg g (bk past k) → ∀ i : Nat, i < 60 → (g.2.2.2.2.2.2.1 (0 + i) = 0 ∨ g.2.2.2.2.2.2.1 (0 + i) = 1) := fun g k hr i hi => by rw [Nat.zero_add]; exact hr.2.2.2.2.2.2.1 i hi
  have hc5 : pasts = 0 ∨ pasts = 1 ∨ pasts = 2 ∨ pasts = 3 ∨ pasts = 4 := by omega
  rcases hc5 with rfl | rfl | rfl | rfl | rfl
  · exact Or.inr ⟨0, xIS, 0, rfl, fun xp post hpost => ⟨inR_lit rfl, fun z => absurd z (by decide), fun _ => hpost⟩, fun Q hQ => ⟨inR_lit rfl, fun z => absurd rfl z, fun _ => hQ⟩⟩
  · exact Or.inl (go 0 g0 rfl (by omega) (a4 (by omega)) (fun post hp => Or.inl ⟨rfl, f7 g0 0 (a4 (by omega)), hp⟩) ⟨rfl, by omega, by omega, fun z => absurd z (by decide), fun z => absurd z (by decide), fun z => absurd z (by decide), fun z => absurd z (by decide)⟩)
  · exact Or.inl (go 1 g1 rfl (by omega) (a5 (by omega)) (fun post hp => Or.inr (Or.inl ⟨rfl, f7 g1 1 (a5 (by omega)), hp⟩)) ⟨rfl, by omega, by omega, fun _ => a4 (by omega), fun z => absurd z (by decide), fun z => absurd z (by decide), fun z => absurd z (by decide)⟩)
  · exact Or.inl (go 2 g2 rfl (by omega) (a6 (by omega)) (fun post hp => Or.inr (Or.inr (Or.inl ⟨rfl, f7 g2 2 (a6 (by omega)), hp⟩))) ⟨rfl, by omega, by omega, fun _ => a4 (by omega), fun _ => a5 (by omega), fun z => absurd z (by decide), fun z => absurd z (by decide)⟩)
  · exact Or.inl (go 3 g3 rfl (by omega) (a7 (by omega)) (fun post hp => Or.inr (Or.inr (Or.inr ⟨rfl, f7 g3 3 (a7 (by omega)), hp⟩))) ⟨rfl, by omega, by omega, fun _ => a4 (by omega), fun _ => a5 (by omega), fun _ => a6 (by omega), fun z => absurd z (by decide)⟩)
/-- what is known of one word -/
def WR (lt ln bd ah bh en ms : Nat → Int) (w : Nat) : Prop := 1 ≤ ln w ∧ ln w ≤ 12 ∧ ms (16 * w + 27) = ln w ∧ ms (16 * w + 28) = ah w ∧ ms (16 * w + 29) = bh w ∧ ms (16 * w + 30) = en w ∧ -1 ≤ ah w ∧ ah w ≤ 1 ∧ -1 ≤ bh w ∧ bh w ≤ 7 ∧
    (∀ k : Nat, (k : Int) < ln w → ms (16 * w + (15 + k)) = lt (12 * w + k) ∧ 0 ≤ lt (12 * w + k) ∧ lt (12 * w + k) < 26) ∧ bd w = sm (fun k => lw (lt (12 * w + k))) (ln w).toNat
theorem WR.cong {lt' ln' bd' ah' bh' en' ms' : Nat → Int} {w w' : Nat} (h : WR lt ln bd ah bh en ms w) (e1 : ln' w' = ln w) (e2 : bd' w' = bd w) (e3 : ah' w' = ah w) (e4 : bh' w' = bh w) (e5 : en' w' = en w) (elt : ∀ k : Nat, k < 12 → lt' (12 * w' + k) = lt (12 * w + k)) (ems : ∀ i : Nat, i < 16 → ms' (16 * w' + (15 + i)) = ms (16 * w + (15 + i))) : WR lt' ln' bd' ah' bh' en' ms' w' := by
  obtain ⟨b1, b2, b3, b4, b5, b6, b7, b8, b9, b10, b11, b12⟩ := h
  unfold WR
  rw [e1, e2, e3, e4, e5]
  refine ⟨b1, b2, ?_, ?_, ?_, ?_, b7, b8, b9, b10, fun k hk => ?_, ?_⟩
  · rw [← b3]; exact ems 12 (by omega)
  · rw [← b4]; exact ems 13 (by omega)
  · rw [← b5]; exact ems 14 (by omega)
  · rw [← b6]; exact ems 15 (by omega)
  · obtain ⟨c1, c2, c3⟩ := b11 k hk
    rw [elt k (by omega), ems k (by omega)]
    exact ⟨c1, c2, c3⟩
  · rw [b12]
    exact sm_cong (fun k hk => by rw [elt k (by omega)])
def msRem (ms : Nat → Int) (n : Int) (p : Nat) (i : Nat) : Nat → Int := fun j => if 15 + 16 * p ≤ j ∧ j < i then ms (j + 16) else if j = 14 then n - 1 else ms j
theorem RS.remove (R : RS n lt ln bd ah bh en st sh ms) {p : Nat} (hp : (p : Int) < n) :
    RS (n - 1) (cpyI lt lt (((p : Int) + 1) * 12).toNat ((p : Int) * 12).toNat ((n - p - 1) * 12).toNat) (cpyI ln ln ((p : Int) + 1).toNat (p : Int).toNat (n - p - 1).toNat) (cpyI bd bd ((p : Int) + 1).toNat (p : Int).toNat (n - p - 1).toNat) (cpyI ah ah ((p : Int) + 1).toNat (p : Int).toNat (n - p - 1).toNat) (cpyI bh bh ((p : Int) + 1).toNat (p : Int).toNat (n - p - 1).toNat) (cpyI en en ((p : Int) + 1).toNat (p : Int).toNat (n - p - 1).toNat) st sh (msRem ms n p (16 * n.toNat - 1)) := by
  obtain ⟨a1, a2, a3, a4, a5, a6, a7, a8⟩ := R
  have o : ∀ j : Nat, j < 14 → msRem ms n p (16 * n.toNat - 1) j = ms j := fun j hj => by
    unfold msRem
    rw [if_neg (by omega), if_neg (by omega)]
  have c0 : ∀ (f : Nat → Int) (i : Nat), i < p → cpyI f f ((p : Int) + 1).toNat (p : Int).toNat (n - p - 1).toNat i = f i := fun f i hi => by
    unfold cpyI
    rw [if_neg (by omega)]
  have c1 : ∀ (f : Nat → Int) (i : Nat), p ≤ i → (i : Int) < n - 1 → cpyI f f ((p : Int) + 1).toNat (p : Int).toNat (n - p - 1).toNat i = f (i + 1) := fun f i h1 h2 => by
    unfold cpyI
    rw [if_pos (by omega), show ((p : Int) + 1).toNat + (i - (p : Int).toNat) = i + 1 by omega]
  refine ⟨?_, by omega, by omega, fun i hi => (o i (by omega)).trans (a4 i hi), fun i hi => ⟨(o _ (by omega)).trans (a5 i hi).1, (a5 i hi).2⟩, a6, fun i hi => ?_, fun w hw => ?_⟩
  · unfold msRem
    rw [if_neg (by omega), if_pos rfl]
  · unfold cpyI
    split
    · exact a7 _ (by omega)
    · exact a7 i hi
  · by_cases c : w < p
    · exact WR.cong (w := w) (a8 w (by omega)) (c0 ln w c) (c0 bd w c) (c0 ah w c) (c0 bh w c) (c0 en w c) (fun k hk => by
        unfold cpyI
        rw [if_neg (by omega)]) (fun i hi => by
        unfold msRem
        rw [if_neg (by omega), if_neg (by omega)])
    · exact WR.cong (w := w + 1) (a8 (w + 1) (by omega)) (c1 ln w (by omega) hw) (c1 bd w (by omega) hw) (c1 ah w (by omega) hw) (c1 bh w (by omega) hw) (c1 en w (by omega) hw) (fun k hk => by
        unfold cpyI
        rw [if_pos (by omega), show (((p : Int) + 1) * 12).toNat + (12 * w + k - ((p : Int) * 12).toNat) = 12 * (w + 1) + k by omega]) (fun i hi => by
        unfold msRem
        rw [if_pos (by omega), show 16 * w + (15 + i) + 16 = 16 * (w + 1) + (15 + i) by omega])
theorem o_removeWord (R : RS n lt ln bd ah bh en st sh ms) (H : HR hc g0 g1 g2 g3 pasts past) {p1 th : Int} (h1 : inR p1) (ha : Nat → Nat) (L0 P0 : Int) (lv0 pv0 lo0 ts : Nat → Int) (x1 x2 x3 x4 x5 x6 x7 x8 : Int) :
    OutU [xIX] pasts ms past aside (fun xp post => wpX5_removeWord n lt ln bd ah bh en st sh L0 P0 lv0 pv0 lo0 ts x1 x2 x3 x4 x5 x6 x7 x8 hc ha g0 g1 g2 g3 p1 xp (fun v n lt ln bd ah bh en L P lv pv lo ts y1 y2 y3 y4 y5 y6 y7 y8 hc ha g0 g1 g2 g3 => post v n lt ln bd ah bh en st sh L P lv pv lo ts y1 y2 y3 y4 y5 y6 y7 y8 hc ha g0 g1 g2 g3)) (fun Q => wpX6_removeWord pasts th ms past aside p1 Q) := by
  have hn := R.2.2.1
  have hn0 := R.2.1
  unfold OutU wpX5_removeWord wpX6_removeWord wpX6_fails
  by_cases c1 : 0 ≤ p1 ∧ p1 < n
  · obtain ⟨p, hp⟩ := Int.eq_ofNat_of_zero_le c1.1
    subst hp
    have R2 := R.remove c1.2
    obtain ⟨hc', ha', g0', g1', g2', g3', past', q1, q2, q3⟩ := saveSim R H ha (hold_eq (ms := ms) (aside := aside))
    obtain ⟨L, P, lv, pv, lo, y1, y2⟩ := setLinesSim R2 lv0 pv0 lo0
    refine Or.inl ⟨n - 1, n - 1, _, _, _, _, _, _, st, sh, _, L, P, lv, pv, lo, hc', ha', g0', g1', g2', g3', past', R2, y1, q1, fun xp post hpost => q5_ci h1 (inR_of (by omega)) (fun _ => q2 _ (q3_close (by omega) c1.2 hn R.2.2.2.2.2.2.1 (y2 _ _ _ _ _ _ _ _ _ _ _ _ (fun ts' a1 a2 a3 a4 a5 a6 a7 a8 => hpost _ _ _ _ _ _ _ _ _)))) (fun z => absurd c1 z), fun Q hQ => q6_isWord R.1 (inR_of (by omega)) h1 (fun _ => ⟨inR_lit rfl, fun _ => q6_hold ?_, fun z => absurd z (by decide)⟩) (fun z => absurd c1 z)⟩
    rw [R.1]
    refine ⟨16 * n.toNat - 1 - (15 + 16 * p) + 1, ?_⟩
    have key : ∀ (f i : Nat), 15 + 16 * p ≤ i → i + f = 16 * n.toNat - 1 → wpX6_removeWord_37 Q (f + 1) pasts th (msRem ms n p i) past (blk aside ms 0 975) (i : Int) := by
      intro f
      induction f with
      | zero =>
        intro i hi0 hi
        have e : i = 16 * n.toNat - 1 := by omega
        have e14 : msRem ms n p i 14 = n - 1 := by
          unfold msRem
          rw [if_neg (by omega), if_pos rfl]
        rw [wpX6_removeWord_37, e14]
        refine ⟨inR_of (by omega), inR_of (by omega), fun _ => ?_, fun c => absurd (by omega) c⟩
        rw [e]
        exact q3 _ _ _ (hQ _)
      | succ f ih =>
        intro i hi0 hi
        have e14 : msRem ms n p i 14 = n - 1 := by
          unfold msRem
          rw [if_neg (by omega), if_pos rfl]
        rw [wpX6_removeWord_37, e14]
        refine ⟨inR_of (by omega), inR_of (by omega), fun c => absurd c (by omega), fun _ => ⟨by omega, by omega, by omega, by omega, ?_⟩⟩
        have h8 := ih (i + 1) (by omega) (by omega)
        have e : updI (msRem ms n p i) i (msRem ms n p i (i + 16)) = msRem ms n p (i + 1) := by
          funext j
          unfold updI msRem
          by_cases c : j = i
          · rw [if_pos c, if_neg (by omega), if_neg (by omega), if_pos (by omega), c]
          · rw [if_neg c]
            by_cases c2 : 15 + 16 * p ≤ j ∧ j < i
            · rw [if_pos c2, if_pos (by omega)]
            · rw [if_neg c2]
              by_cases c3 : j = 14
              · rw [if_pos c3, if_neg (by omega)]
              · rw [if_neg c3, if_neg (by omega)]
        rw [← e] at h8
        rw [show ((i : Int)).toNat = i by omega, show ((i : Int) + 16).toNat = i + 16 by omega]
        exact h8
    have h0 := key (16 * n.toNat - 1 - (15 + 16 * p)) (15 + 16 * p) (Nat.le_refl _) (by omega)
    have e : msRem ms n p (15 + 16 * p) = updI ms 14 (n - 1) := by
      funext j
      unfold updI msRem
      rw [if_neg (by omega)]
    rw [e] at h0
    rw [show ((15 + 16 * p : Nat) : Int) = 15 + 16 * (p : Int) by omega] at h0
    exact h0
  · exact Or.inr ⟨0, xIX, 0, rfl, fun xp post hpost => q5_ci h1 (inR_of (by omega)) (fun z => absurd z c1) (fun _ => hpost), fun Q hQ => q6_isWord R.1 (inR_of (by omega)) h1 (fun z => absurd z c1) (fun _ => ⟨inR_lit rfl, fun z => absurd rfl z, fun _ => hQ⟩)⟩
end Und
