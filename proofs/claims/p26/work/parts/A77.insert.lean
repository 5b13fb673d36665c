/-! Inserting a word. -/
theorem updI_upd {f : Nat → Int} {k : Nat} {a b : Int} : updI (updI f k a) k b = updI f k b := by
  funext j
  unfold updI
  by_cases c : j = k
  · rw [if_pos c, if_pos c]
  · rw [if_neg c, if_neg c, if_neg c]
def msOp (ms : Nat → Int) (m i : Nat) : Nat → Int := fun j => if i + 16 ≤ j ∧ j < 16 * m + 31 then ms (j - 16) else ms j
def msIn (ms g : Nat → Int) (m p q : Nat) (p4 p5 : Int) : Nat → Int := updI (updI (updI (blk (blk (updI (msOp ms m (15 + 16 * p)) 14 ((m : Int) + 1)) (fun _ => 0) (15 + 16 * p) 16) g (15 + 16 * p) q) (16 * p + 27) (q : Int)) (16 * p + 28) p4) (16 * p + 29) p5
section Ins
variable {lt ln bd ah bh en st sh ms past aside : Nat → Int} {hc pasts : Int} {g0 g1 g2 g3 : SS} {m p q : Nat}
theorem msIn_far {g : Nat → Int} {p4 p5 : Int} {j : Nat} (hq : q ≤ 12) (hj : j ≠ 14) (h : j < 15 + 16 * p ∨ 31 + 16 * p ≤ j) : msIn ms g m p q p4 p5 j = msOp ms m (15 + 16 * p) j := by
  unfold msIn
  rw [updI_ne (by omega), updI_ne (by omega), updI_ne (by omega), blk_out (by omega), blk_out (by omega), updI_ne hj]
theorem RS.insert (R : RS (m : Int) lt ln bd ah bh en st sh ms) (hm : m < 60) (hp : p ≤ m) (hq : 1 ≤ q ∧ q ≤ 12) {g : Nat → Int} (hg : ∀ k : Nat, 0 ≤ g k ∧ g k < 26) {p4 p5 : Int} (h4 : -1 ≤ p4 ∧ p4 ≤ 1) (h5 : -1 ≤ p5 ∧ p5 ≤ 7) :
    RS ((m : Int) + 1) (blk (cpyI lt lt ((p : Int) * 12).toNat (((p : Int) + 1) * 12).toNat (((m : Int) - p) * 12).toNat) g (12 * p) q) (updI (cpyI ln ln (p : Int).toNat ((p : Int) + 1).toNat ((m : Int) - p).toNat) (p : Int).toNat (q : Int)) (updI (cpyI bd bd (p : Int).toNat ((p : Int) + 1).toNat ((m : Int) - p).toNat) (p : Int).toNat (sm (fun k => lw (g k)) q)) (updI (updI (cpyI ah ah (p : Int).toNat ((p : Int) + 1).toNat ((m : Int) - p).toNat) (p : Int).toNat (-1)) (p : Int).toNat p4) (updI (updI (cpyI bh bh (p : Int).toNat ((p : Int) + 1).toNat ((m : Int) - p).toNat) (p : Int).toNat (-1)) (p : Int).toNat p5) (updI (cpyI en en (p : Int).toNat ((p : Int) + 1).toNat ((m : Int) - p).toNat) (p : Int).toNat 0) st sh (msIn ms g m p q p4 p5) := by
  obtain ⟨a1, a2, a3, a4, a5, a6, a7, a8⟩ := R
  have eP : (p : Int).toNat = p := rfl
  rw [updI_upd, updI_upd, eP]
  have o : ∀ j : Nat, j < 14 → msIn ms g m p q p4 p5 j = ms j := fun j hj => by
    rw [msIn_far hq.2 (by omega) (by omega)]
    unfold msOp
    rw [if_neg (by omega)]
  have c0 : ∀ (f : Nat → Int) (i : Nat), i < p → cpyI f f p ((p : Int) + 1).toNat ((m : Int) - p).toNat i = f i := fun f i hi => by
    unfold cpyI
    rw [if_neg (by omega)]
  have c1 : ∀ (f : Nat → Int) (i : Nat), p ≤ i → i < m → cpyI f f p ((p : Int) + 1).toNat ((m : Int) - p).toNat (i + 1) = f i := fun f i h1 h2 => by
    unfold cpyI
    rw [if_pos (by omega), show p + (i + 1 - ((p : Int) + 1).toNat) = i by omega]
  refine ⟨?_, by omega, by omega, fun i hi => (o i (by omega)).trans (a4 i hi), fun i hi => ⟨(o _ (by omega)).trans (a5 i hi).1, (a5 i hi).2⟩, a6, fun i hi => ?_, fun w hw => ?_⟩
  · unfold msIn
    rw [updI_ne (by omega), updI_ne (by omega), updI_ne (by omega), blk_out (by omega), blk_out (by omega), updI_eq rfl]
  · by_cases c : i = p
    · rw [updI_eq c]; exact Or.inl rfl
    · rw [updI_ne c]
      unfold cpyI
      split
      · exact a7 _ (by omega)
      · exact a7 i hi
  · have hcase : w < p ∨ w = p ∨ p < w := by omega
    rcases hcase with c | c | c
    · refine WR.cong (w := w) (a8 w (by omega)) ((updI_ne (by omega)).trans (c0 ln w c)) ((updI_ne (by omega)).trans (c0 bd w c)) ((updI_ne (by omega)).trans (c0 ah w c)) ((updI_ne (by omega)).trans (c0 bh w c)) ((updI_ne (by omega)).trans (c0 en w c)) (fun k hk => ?_) (fun i hi => ?_)
      · rw [blk_out (by omega)]
        unfold cpyI
        rw [if_neg (by omega)]
      · rw [msIn_far hq.2 (by omega) (by omega)]
        unfold msOp
        rw [if_neg (by omega)]
    · subst c
      rw [updI_eq rfl, updI_eq rfl, updI_eq rfl, updI_eq rfl, updI_eq rfl]
      refine ⟨by omega, by omega, ?_, ?_, ?_, ?_, h4.1, h4.2, h5.1, h5.2, fun k hk => ?_, ?_⟩
      · unfold msIn
        rw [updI_ne (by omega), updI_ne (by omega), updI_eq rfl]
      · unfold msIn
        rw [updI_ne (by omega), updI_eq rfl]
      · unfold msIn
        rw [updI_eq rfl]
      · unfold msIn
        rw [updI_ne (by omega), updI_ne (by omega), updI_ne (by omega), blk_out (by omega), show 16 * w + 30 = 15 + 16 * w + 15 by omega, blk_in (by omega)]
      · have e1 : msIn ms g m w q p4 p5 (16 * w + (15 + k)) = g k := by
          unfold msIn
          rw [updI_ne (by omega), updI_ne (by omega), updI_ne (by omega), show 16 * w + (15 + k) = 15 + 16 * w + k by omega, blk_in (by omega)]
        rw [e1, blk_in (by omega)]
        exact ⟨rfl, hg k⟩
      · rw [Int.toNat_natCast]
        exact sm_cong (fun k hk => by rw [blk_in hk])
    · obtain ⟨w0, rfl⟩ : ∃ w0 : Nat, w = w0 + 1 := ⟨w - 1, by omega⟩
      refine WR.cong (w := w0) (a8 w0 (by omega)) ((updI_ne (by omega)).trans (c1 ln w0 (by omega) (by omega))) ((updI_ne (by omega)).trans (c1 bd w0 (by omega) (by omega))) ((updI_ne (by omega)).trans (c1 ah w0 (by omega) (by omega))) ((updI_ne (by omega)).trans (c1 bh w0 (by omega) (by omega))) ((updI_ne (by omega)).trans (c1 en w0 (by omega) (by omega))) (fun k hk => ?_) (fun i hi => ?_)
      · rw [blk_out (by omega)]
        unfold cpyI
        rw [if_pos (by omega), show ((p : Int) * 12).toNat + (12 * (w0 + 1) + k - (((p : Int) + 1) * 12).toNat) = 12 * w0 + k by omega]
      · rw [msIn_far hq.2 (by omega) (by omega)]
        unfold msOp
        rw [if_pos (by omega), show 16 * (w0 + 1) + (15 + i) - 16 = 16 * w0 + (15 + i) by omega]
theorem q6_opens (e14 : ms 14 = (m : Int)) (hm : m < 60) (hp : p ≤ m) {post : (Nat → Int) → Prop} (h : post (blk (updI (msOp ms m (15 + 16 * p)) 14 ((m : Int) + 1)) (fun _ => 0) (15 + 16 * p) 16)) : wpX6_opens ms (p : Int) post := by
  have k61 : ∀ (Y : Nat → Int), post (blk Y (fun _ => 0) (15 + 16 * p) 16) → ∃ n0 : Nat, wpX6_opens_61 post n0 Y (p : Int) 0 := by
    intro Y hY
    refine ⟨17, ?_⟩
    have key : ∀ (f i : Nat), i + f = 16 → wpX6_opens_61 post (f + 1) (blk Y (fun _ => 0) (15 + 16 * p) i) (p : Int) (i : Int) := by
      intro f
      induction f with
      | zero =>
        intro i hi
        have e : i = 16 := by omega
        rw [wpX6_opens_61, e]
        exact ⟨inR_lit rfl, fun _ => hY, fun c => absurd (by omega) c⟩
      | succ f ih =>
        intro i hi
        rw [wpX6_opens_61]
        unfold wpX6_puts
        refine ⟨inR_of (by omega), fun c => absurd c (by omega), fun _ => ⟨by omega, by omega, ?_⟩⟩
        have h8 := ih (i + 1) (by omega)
        rw [← blk_step] at h8
        rw [show (15 + 16 * (p : Int) + (i : Int)).toNat = 15 + 16 * p + i by omega]
        exact h8
    have h0 := key 16 0 (by omega)
    rw [blk_zero] at h0
    exact h0
  unfold wpX6_opens
  rw [e14]
  refine ⟨16 * (m - p) + 1, ?_⟩
  have key : ∀ (f i : Nat), i = 15 + 16 * p + f → i ≤ 15 + 16 * m → wpX6_opens_16 post (f + 1) (msOp ms m i) (p : Int) ((i : Int) - 1) := by
    intro f
    induction f with
    | zero =>
      intro i hi hi2
      have e : msOp ms m i 14 = (m : Int) := by
        unfold msOp
        rw [if_neg (by omega)]
        exact e14
      rw [wpX6_opens_16, e]
      refine ⟨inR_of (by omega), inR_of (by omega), fun _ => ?_, fun c => absurd (by omega) c⟩
      rw [show i = 15 + 16 * p by omega]
      exact k61 _ h
    | succ f ih =>
      intro i hi hi2
      rw [wpX6_opens_16]
      refine ⟨inR_of (by omega), inR_of (by omega), fun c => absurd c (by omega), fun _ => ⟨by omega, by omega, by omega, by omega, ?_⟩⟩
      have h8 := ih (i - 1) (by omega) (by omega)
      have e : updI (msOp ms m i) (i + 15) (msOp ms m i (i - 1)) = msOp ms m (i - 1) := by
        funext j
        unfold updI msOp
        by_cases c : j = i + 15
        · rw [if_pos c, if_neg (by omega), if_pos (by omega), show j - 16 = i - 1 by omega]
        · rw [if_neg c]
          by_cases c2 : i + 16 ≤ j ∧ j < 16 * m + 31
          · rw [if_pos c2, if_pos (by omega)]
          · rw [if_neg c2, if_neg (by omega)]
      rw [← e] at h8
      rw [show ((i : Int) - 1 + 16).toNat = i + 15 by omega, show ((i : Int) - 1).toNat = i - 1 by omega, show (i : Int) - 1 + -1 = ((i - 1 : Nat) : Int) - 1 by omega]
      exact h8
  have h0 := key (16 * (m - p)) (15 + 16 * m) (by omega) (Nat.le_refl _)
  have e : msOp ms m (15 + 16 * m) = ms := by
    funext j
    unfold msOp
    rw [if_neg (by omega)]
  rw [e] at h0
  rw [show ((15 + 16 * m : Nat) : Int) = 15 + 16 * (m : Int) by omega] at h0
  exact h0
theorem o_insert {n : Int} (R : RS n lt ln bd ah bh en st sh ms) (H : HR hc g0 g1 g2 g3 pasts past) {p1 p2 p3 p4 p5 th : Int} (h1 : inR p1) (h2 : inR p2) (h3 : inR p3) (h4 : inR p4) (h5 : inR p5) (ha : Nat → Nat) (L0 P0 : Int) (lv0 pv0 lo0 ts : Nat → Int) (x1 x2 x3 x4 x5 x6 x7 x8 : Int) :
    OutU [xIX, xIA, xIS] pasts ms past aside (fun xp post => wpX5_insert n lt ln bd ah bh en st sh L0 P0 lv0 pv0 lo0 ts x1 x2 x3 x4 x5 x6 x7 x8 hc ha g0 g1 g2 g3 p1 p2 p3 p4 p5 xp (fun v n lt ln bd ah bh en L P lv pv lo ts y1 y2 y3 y4 y5 y6 y7 y8 hc ha g0 g1 g2 g3 => post v n lt ln bd ah bh en st sh L P lv pv lo ts y1 y2 y3 y4 y5 y6 y7 y8 hc ha g0 g1 g2 g3)) (fun Q => wpX6_insert pasts th ms past aside p1 p2 p3 p4 p5 Q) := by
  have hn := R.2.2.1
  have hn0 := R.2.1
  have e14 := R.1
  unfold OutU wpX5_insert wpX6_insert wpX6_insert_15 wpX6_insert_51 wpX6_fails
  rw [e14]
  have hin : inR n := inR_of (by omega)
  have hin1 : inR (n + 1) := inR_of (by omega)
  by_cases c1 : 0 ≤ p1 ∧ p1 < n + 1
  · by_cases c2 : 0 ≤ p2 ∧ p2 ≤ 25
    · by_cases c3 : 1 ≤ p3 ∧ p3 ≤ 12
      · by_cases c4 : (-1 ≤ p4 ∧ p4 ≤ 1) ∧ (-1 ≤ p5 ∧ p5 ≤ 7) ∧ p5 ≠ 1
        · by_cases c5 : n < 60
          · obtain ⟨m, rfl⟩ := Int.eq_ofNat_of_zero_le hn0
            obtain ⟨p, rfl⟩ := Int.eq_ofNat_of_zero_le c1.1
            obtain ⟨q, rfl⟩ := Int.eq_ofNat_of_zero_le (show 0 ≤ p3 by omega)
            obtain ⟨g, hgd⟩ : ∃ g : Nat → Int, g = fun k : Nat => (p2 + (k : Int)) % 26 := ⟨_, rfl⟩
            have hg : ∀ k : Nat, 0 ≤ g k ∧ g k < 26 := fun k => by
              rw [hgd]
              exact ⟨Int.emod_nonneg _ (by decide), Int.emod_lt_of_pos _ (by decide)⟩
            have hgk : ∀ k : Nat, (p2 + (k : Int)) % 26 = g k := fun k => by rw [hgd]
            have R2 := R.insert (p := p) (q := q) (by omega) (by omega) (by omega) hg c4.1 c4.2.1
            obtain ⟨hc', ha', g0', g1', g2', g3', past', q1, q2, q3⟩ := saveSim R H ha (hold_eq (ms := ms) (aside := aside))
            obtain ⟨L, P, lv, pv, lo, y1, y2⟩ := setLinesSim R2 lv0 pv0 lo0
            refine Or.inl ⟨(m : Int) + 1, (m : Int) + 1, _, _, _, _, _, _, st, sh, _, L, P, lv, pv, lo, hc', ha', g0', g1', g2', g3', past', R2, y1, q1, fun xp post hpost => q5_ci h1 hin1 (fun _ => q5_cr h2 (inR_lit rfl) (inR_lit rfl) (fun _ => q5_cr h3 (inR_lit rfl) (inR_lit rfl) (fun _ => q5_cs h4 h5 (fun _ => ⟨hin, fun _ => q2 _ (q3_open (by omega) (by omega) c5 R.2.2.2.2.2.2.1 ⟨q + 1, ?_⟩), fun z => absurd c5 z⟩) (fun z => absurd c4 z)) (fun z => absurd c3 z)) (fun z => absurd c2 z)) (fun z => absurd c1 z), fun Q hQ => ⟨h1, fun z => absurd z (by omega), fun _ => ⟨h1, hin, fun _ => q6_in h2 (inR_lit rfl) (inR_lit rfl) (fun _ => ⟨inR_lit rfl, fun z => absurd z (by decide), fun _ => q6_in h3 (inR_lit rfl) (inR_lit rfl) (fun _ => ⟨inR_lit rfl, fun z => absurd z (by decide), fun _ => q6_areSigns h4 h5 (fun _ => ⟨inR_lit rfl, fun _ => ⟨hin, fun _ => q6_hold (q6_opens e14 (by omega) (by omega) ⟨q + 1, ?_⟩), fun z => absurd z (by omega)⟩, fun z => absurd z (by decide)⟩) (fun z => absurd c4 z)⟩) (fun z => absurd c3 z)⟩) (fun z => absurd c2 z), fun z => absurd (by omega) z⟩⟩⟩
            · have key : ∀ (f i : Nat), i + f = q → wpX5_insert_78 st sh xp (fun v n lt ln bd ah bh en L P lv pv lo ts y1 y2 y3 y4 y5 y6 y7 y8 hc ha g0 g1 g2 g3 => post v n lt ln bd ah bh en st sh L P lv pv lo ts y1 y2 y3 y4 y5 y6 y7 y8 hc ha g0 g1 g2 g3) (f + 1) ((m : Int) + 1) (blk (cpyI lt lt ((p : Int) * 12).toNat (((p : Int) + 1) * 12).toNat (((m : Int) - p) * 12).toNat) g (12 * p) i) (updI (cpyI ln ln (p : Int).toNat ((p : Int) + 1).toNat ((m : Int) - p).toNat) (p : Int).toNat (i : Int)) (updI (cpyI bd bd (p : Int).toNat ((p : Int) + 1).toNat ((m : Int) - p).toNat) (p : Int).toNat (sm (fun k => lw (g k)) i)) (updI (cpyI ah ah (p : Int).toNat ((p : Int) + 1).toNat ((m : Int) - p).toNat) (p : Int).toNat (-1)) (updI (cpyI bh bh (p : Int).toNat ((p : Int) + 1).toNat ((m : Int) - p).toNat) (p : Int).toNat (-1)) (updI (cpyI en en (p : Int).toNat ((p : Int) + 1).toNat ((m : Int) - p).toNat) (p : Int).toNat 0) L0 P0 lv0 pv0 lo0 ts x1 x2 x3 x4 x5 x6 x7 x8 hc' ha' g0' g1' g2' g3' (p : Int) p2 (q : Int) p4 p5 (i : Int) := by
                intro f
                induction f with
                | zero =>
                  intro i hi
                  have e : i = q := by omega
                  rw [wpX5_insert_78, e]
                  exact ⟨h3, h3, fun _ => q3_putSigns (by omega) (by omega) (by omega) (y2 _ _ _ _ _ _ _ _ _ _ _ _ (fun ts' a1 a2 a3 a4 a5 a6 a7 a8 => hpost _ _ _ _ _ _ _ _ _)), fun z => absurd (Int.le_refl _) z⟩
                | succ f ih =>
                  intro i hi
                  rw [wpX5_insert_78]
                  refine ⟨inR_of (by omega), h3, fun z => absurd z (by omega), fun _ => ⟨by omega, by omega, ?_⟩⟩
                  rw [hgk i]
                  have h8 := ih (i + 1) (by omega)
                  have hgi := hg i
                  have e9 : updI (cpyI ln ln (p : Int).toNat ((p : Int) + 1).toNat ((m : Int) - p).toNat) (p : Int).toNat (i : Int) (p : Int).toNat = (i : Int) := updI_eq rfl
                  have e10 : updI (cpyI bd bd (p : Int).toNat ((p : Int) + 1).toNat ((m : Int) - p).toNat) (p : Int).toNat (sm (fun k => lw (g k)) i) (p : Int).toNat = sm (fun k => lw (g k)) i := updI_eq rfl
                  refine q3_addLetter (by omega) (by omega) (by omega) (by rw [e9]; omega) (inR_of (by omega)) ?_
                  rw [e9, e10, if_pos (by omega), updI_upd, updI_upd, show ((p : Int) * 12 + (i : Int)).toNat = 12 * p + i by omega, blk_step]
                  rw [sm_succ, show ((i + 1 : Nat) : Int) = (i : Int) + 1 by omega] at h8
                  exact h8
              have h0 := key q 0 (by omega)
              rw [blk_zero] at h0
              exact h0
            · have key : ∀ (f i : Nat), i + f = q → wpX6_insert_87 Q (f + 1) pasts th (blk (blk (updI (msOp ms m (15 + 16 * p)) 14 ((m : Int) + 1)) (fun _ => 0) (15 + 16 * p) 16) g (15 + 16 * p) i) past (blk aside ms 0 975) (p : Int) p2 (q : Int) p4 p5 (i : Int) := by
                intro f
                induction f with
                | zero =>
                  intro i hi
                  have e : i = q := by omega
                  rw [wpX6_insert_87, e]
                  unfold wpX6_puts
                  rw [show (15 + 16 * (p : Int) + 12).toNat = 16 * p + 27 by omega, show (15 + 16 * (p : Int) + 13).toNat = 16 * p + 28 by omega, show (15 + 16 * (p : Int) + 14).toNat = 16 * p + 29 by omega]
                  refine ⟨h3, h3, fun _ => ⟨by omega, by omega, by omega, by omega, by omega, by omega, ?_⟩, fun z => absurd (Int.le_refl _) z⟩
                  have e15 : msIn ms g m p q p4 p5 14 = (m : Int) + 1 := R2.1
                  have h9 := q3 th (msIn ms g m p q p4 p5 14) (fun z5 a b c => Q z5 a b (msIn ms g m p q p4 p5) c (blk aside ms 0 975)) (by rw [e15]; exact hQ _)
                  exact h9
                | succ f ih =>
                  intro i hi
                  rw [wpX6_insert_87]
                  unfold wpX6_puts
                  refine ⟨inR_of (by omega), h3, fun z => absurd z (by omega), fun _ => ⟨by omega, by omega, by omega, by omega, ?_⟩⟩
                  rw [hgk i, show (15 + 16 * (p : Int) + (i : Int)).toNat = 15 + 16 * p + i by omega, blk_step]
                  have h8 := ih (i + 1) (by omega)
                  exact h8
              have h0 := key q 0 (by omega)
              rw [blk_zero] at h0
              exact h0
          · exact Or.inr ⟨2, xIS, 0, rfl, fun xp post hpost => q5_ci h1 hin1 (fun _ => q5_cr h2 (inR_lit rfl) (inR_lit rfl) (fun _ => q5_cr h3 (inR_lit rfl) (inR_lit rfl) (fun _ => q5_cs h4 h5 (fun _ => ⟨hin, fun z => absurd z c5, fun _ => hpost⟩) (fun z => absurd c4 z)) (fun z => absurd c3 z)) (fun z => absurd c2 z)) (fun z => absurd c1 z), fun Q hQ => ⟨h1, fun z => absurd z (by omega), fun _ => ⟨h1, hin, fun _ => q6_in h2 (inR_lit rfl) (inR_lit rfl) (fun _ => ⟨inR_lit rfl, fun z => absurd z (by decide), fun _ => q6_in h3 (inR_lit rfl) (inR_lit rfl) (fun _ => ⟨inR_lit rfl, fun z => absurd z (by decide), fun _ => q6_areSigns h4 h5 (fun _ => ⟨inR_lit rfl, fun _ => ⟨hin, fun z => absurd (by omega) z, fun _ => hQ⟩, fun z => absurd z (by decide)⟩) (fun z => absurd c4 z)⟩) (fun z => absurd c3 z)⟩) (fun z => absurd c2 z), fun z => absurd (by omega) z⟩⟩⟩
        · exact Or.inr ⟨1, xIA, 0, rfl, fun xp post hpost => q5_ci h1 hin1 (fun _ => q5_cr h2 (inR_lit rfl) (inR_lit rfl) (fun _ => q5_cr h3 (inR_lit rfl) (inR_lit rfl) (fun _ => q5_cs h4 h5 (fun z => absurd z c4) (fun _ => hpost)) (fun z => absurd c3 z)) (fun z => absurd c2 z)) (fun z => absurd c1 z), fun Q hQ => ⟨h1, fun z => absurd z (by omega), fun _ => ⟨h1, hin, fun _ => q6_in h2 (inR_lit rfl) (inR_lit rfl) (fun _ => ⟨inR_lit rfl, fun z => absurd z (by decide), fun _ => q6_in h3 (inR_lit rfl) (inR_lit rfl) (fun _ => ⟨inR_lit rfl, fun z => absurd z (by decide), fun _ => q6_areSigns h4 h5 (fun z => absurd z c4) (fun _ => ⟨inR_lit rfl, fun z => absurd rfl z, fun _ => hQ⟩)⟩) (fun z => absurd c3 z)⟩) (fun z => absurd c2 z), fun z => absurd (by omega) z⟩⟩⟩
      · exact Or.inr ⟨1, xIA, 0, rfl, fun xp post hpost => q5_ci h1 hin1 (fun _ => q5_cr h2 (inR_lit rfl) (inR_lit rfl) (fun _ => q5_cr h3 (inR_lit rfl) (inR_lit rfl) (fun z => absurd z c3) (fun _ => hpost)) (fun z => absurd c2 z)) (fun z => absurd c1 z), fun Q hQ => ⟨h1, fun z => absurd z (by omega), fun _ => ⟨h1, hin, fun _ => q6_in h2 (inR_lit rfl) (inR_lit rfl) (fun _ => ⟨inR_lit rfl, fun z => absurd z (by decide), fun _ => q6_in h3 (inR_lit rfl) (inR_lit rfl) (fun z => absurd z c3) (fun _ => ⟨inR_lit rfl, fun _ => hQ, fun z => absurd rfl z⟩)⟩) (fun z => absurd c2 z), fun z => absurd (by omega) z⟩⟩⟩
    · exact Or.inr ⟨1, xIA, 0, rfl, fun xp post hpost => q5_ci h1 hin1 (fun _ => q5_cr h2 (inR_lit rfl) (inR_lit rfl) (fun z => absurd z c2) (fun _ => hpost)) (fun z => absurd c1 z), fun Q hQ => ⟨h1, fun z => absurd z (by omega), fun _ => ⟨h1, hin, fun _ => q6_in h2 (inR_lit rfl) (inR_lit rfl) (fun z => absurd z c2) (fun _ => ⟨inR_lit rfl, fun _ => hQ, fun z => absurd rfl z⟩), fun z => absurd (by omega) z⟩⟩⟩
  · exact Or.inr ⟨0, xIX, 0, rfl, fun xp post hpost => q5_ci h1 hin1 (fun z => absurd z c1) (fun _ => hpost), fun Q hQ => ⟨h1, fun _ => hQ, fun _ => ⟨h1, hin, fun z => absurd ⟨by omega, by omega⟩ c1, fun _ => hQ⟩⟩⟩
end Ins
