/-! What is kept for undo. -/
abbrev RSg (g : SS) (ms : Nat → Int) : Prop := RS g.1 g.2.1 g.2.2.1 g.2.2.2.1 g.2.2.2.2.1 g.2.2.2.2.2.1 g.2.2.2.2.2.2.1 g.2.2.2.2.2.2.2.1 g.2.2.2.2.2.2.2.2 ms
theorem RS.cong {n : Int} {lt ln bd ah bh en st sh ms ms' : Nat → Int} (h : RS n lt ln bd ah bh en st sh ms) (e : ∀ j : Nat, j < 975 → ms' j = ms j) : RS n lt ln bd ah bh en st sh ms' := by
  obtain ⟨a1, a2, a3, a4, a5, a6, a7, a8⟩ := h
  refine ⟨(e 14 (by omega)).trans a1, a2, a3, fun i hi => (e i (by omega)).trans (a4 i hi), fun i hi => ⟨(e _ (by omega)).trans (a5 i hi).1, (a5 i hi).2⟩, a6, a7, fun w hw => ?_⟩
  obtain ⟨b1, b2, b3, b4, b5, b6, b7, b8, b9, b10, b11, b12⟩ := a8 w hw
  exact ⟨b1, b2, (e _ (by omega)).trans b3, (e _ (by omega)).trans b4, (e _ (by omega)).trans b5, (e _ (by omega)).trans b6, b7, b8, b9, b10, fun k hk => ⟨(e _ (by omega)).trans (b11 k hk).1, (b11 k hk).2⟩, b12⟩
def bk (past : Nat → Int) (k : Nat) : Nat → Int := fun j => past (975 * k + j)
def HR (hc : Int) (g0 g1 g2 g3 : SS) (pasts : Int) (past : Nat → Int) : Prop :=
  pasts = hc ∧ 0 ≤ hc ∧ hc ≤ 4 ∧ (0 < hc → RSg g0 (bk past 0)) ∧ (1 < hc → RSg g1 (bk past 1)) ∧ (2 < hc → RSg g2 (bk past 2)) ∧ (3 < hc → RSg g3 (bk past 3))
theorem blk_step {f g : Nat → Int} {b i : Nat} : updI (blk f g b i) (b + i) (g i) = blk f g b (i + 1) := by
  funext j
  unfold updI blk
  by_cases c : j = b + i
  · rw [if_pos c, if_pos (by omega), c, Nat.add_sub_cancel_left]
  · rw [if_neg c]
    by_cases c2 : b ≤ j ∧ j < b + i
    · rw [if_pos c2, if_pos (by omega)]
    · rw [if_neg c2, if_neg (by omega)]
theorem blk_zero {f g : Nat → Int} {b : Nat} : blk f g b 0 = f := by
  funext j
  unfold blk
  rw [if_neg (by omega)]
theorem hold_eq {ms aside : Nat → Int} : ∀ j : Nat, j < 975 → blk aside ms 0 975 j = ms j := fun j hj => by
  have h := blk_in (f := aside) (g := ms) (b := 0) hj
  rw [Nat.zero_add] at h
  exact h
theorem q6_hold {ms aside : Nat → Int} {post : (Nat → Int) → Prop} (h : post (blk aside ms 0 975)) : wpX6_hold ms aside post := by
  unfold wpX6_hold
  refine ⟨976, ?_⟩
  have key : ∀ (f i : Nat), i + f = 975 → wpX6_hold_2 ms post (f + 1) (blk aside ms 0 i) (i : Int) := by
    intro f
    induction f with
    | zero =>
      intro i hi
      have e : i = 975 := by omega
      rw [wpX6_hold_2]
      rw [e]
      exact ⟨inR_lit rfl, fun _ => h, fun c => absurd (by omega) c⟩
    | succ f ih =>
      intro i hi
      rw [wpX6_hold_2]
      refine ⟨inR_of (by omega), fun c => absurd c (by omega), fun _ => ⟨by omega, by omega, by omega, by omega, ?_⟩⟩
      have h8 := ih (i + 1) (by omega)
      rw [← blk_step, Nat.zero_add] at h8
      exact h8
  have h0 := key 975 0 (by omega)
  rw [blk_zero] at h0
  exact h0
/-- the row of states after one more is kept -/
def pastS (past aside : Nat → Int) (p : Nat) : Nat → Int := if p = 4 then blk (fun j => if j < 2925 then past (j + 975) else past j) aside 2925 975 else blk past aside (975 * p) 975
theorem q6_ends {pasts : Nat} (hp : pasts ≤ 4) {th p1 : Int} {past aside : Nat → Int} {post : Int → Int → Int → (Nat → Int) → Prop} (h : post p1 (if pasts = 4 then 4 else (pasts : Int) + 1) 0 (pastS past aside pasts)) : wpX6_ends (pasts : Int) th past aside p1 post := by
  have key : ∀ (q : Nat) (past0 : Nat → Int), q ≤ 3 → post p1 ((q : Int) + 1) 0 (blk past0 aside (975 * q) 975) → wpX6_ends_49 aside post (q : Int) th past0 p1 := by
    intro q past0 hq hpost
    unfold wpX6_ends_49
    refine ⟨976, ?_⟩
    have loop : ∀ (f i : Nat), i + f = 975 → wpX6_ends_51 aside post (f + 1) (q : Int) th (blk past0 aside (975 * q) i) p1 (i : Int) := by
      intro f
      induction f with
      | zero =>
        intro i hi
        have e : i = 975 := by omega
        rw [wpX6_ends_51]
        unfold wpX6_tells
        rw [e]
        exact ⟨inR_lit rfl, fun _ => hpost, fun c => absurd (by omega) c⟩
      | succ f ih =>
        intro i hi
        rw [wpX6_ends_51]
        refine ⟨inR_of (by omega), fun c => absurd c (by omega), fun _ => ⟨by omega, by omega, by omega, by omega, ?_⟩⟩
        have h8 := ih (i + 1) (by omega)
        rw [← blk_step] at h8
        rw [show (975 * (q : Int) + (i : Int)).toNat = 975 * q + i by omega]
        exact h8
    have h0 := loop 975 0 (by omega)
    rw [blk_zero] at h0
    exact h0
  unfold pastS at h
  unfold wpX6_ends
  refine ⟨inR_of (by omega), fun c => ?_, fun c => ?_⟩
  · rw [if_neg (by omega), if_neg (by omega)] at h
    exact key pasts past (by omega) h
  · rw [if_pos (by omega), if_pos (by omega)] at h
    refine ⟨2926, ?_⟩
    have loop : ∀ (f i : Nat), i + f = 2925 → wpX6_ends_10 aside post (f + 1) (pasts : Int) th (fun j => if j < i then past (j + 975) else past j) p1 (i : Int) := by
      intro f
      induction f with
      | zero =>
        intro i hi
        have e : i = 2925 := by omega
        rw [wpX6_ends_10]
        refine ⟨inR_of (by omega), fun _ => ?_, fun c => absurd (by omega) c⟩
        rw [show (pasts : Int) - 1 = ((3 : Nat) : Int) by omega, e]
        exact key 3 _ (Nat.le_refl _) h
      | succ f ih =>
        intro i hi
        rw [wpX6_ends_10]
        refine ⟨inR_of (by omega), fun c => absurd c (by omega), fun _ => ⟨by omega, by omega, by omega, by omega, ?_⟩⟩
        have h8 := ih (i + 1) (by omega)
        have e : updI (fun j => if j < i then past (j + 975) else past j) i (if i + 975 < i then past (i + 975 + 975) else past (i + 975)) = (fun j => if j < i + 1 then past (j + 975) else past j) := by
          funext j
          show (if j = i then (if i + 975 < i then past (i + 975 + 975) else past (i + 975)) else (if j < i then past (j + 975) else past j)) = (if j < i + 1 then past (j + 975) else past j)
          by_cases c : j = i
          · rw [if_pos c, if_neg (by omega), if_pos (by omega), c]
          · rw [if_neg c]
            by_cases c2 : j < i
            · rw [if_pos c2, if_pos (by omega)]
            · rw [if_neg c2, if_neg (by omega)]
        rw [← e] at h8
        rw [show ((i : Int)).toNat = i by omega, show ((i : Int) + 975).toNat = i + 975 by omega]
        exact h8
    have h0 := loop 2925 0 (by omega)
    have e : (fun j => if j < 0 then past (j + 975) else past j) = past := by
      funext j
      rw [if_neg (by omega)]
    rw [e] at h0
    exact h0
theorem saveSim {n : Int} {lt ln bd ah bh en st sh ms aside past : Nat → Int} {hc pasts : Int} {g0 g1 g2 g3 : SS} (R : RS n lt ln bd ah bh en st sh ms) (H : HR hc g0 g1 g2 g3 pasts past) (ha : Nat → Nat) (hs : ∀ j : Nat, j < 975 → aside j = ms j) :
    ∃ (hc' : Int) (ha' : Nat → Nat) (g0' g1' g2' g3' : SS) (past' : Nat → Int), HR hc' g0' g1' g2' g3' hc' past' ∧ (∀ post : Int → (Nat → Nat) → SS → SS → SS → SS → Prop, post hc' ha' g0' g1' g2' g3' → wpX0_save hc ha g0 g1 g2 g3 n lt ln bd ah bh en st sh post) ∧
      ∀ (th p1 : Int) (post : Int → Int → Int → (Nat → Int) → Prop), post p1 hc' 0 past' → wpX6_ends pasts th past aside p1 post := by
  obtain ⟨a1, a2, a3, a4, a5, a6, a7⟩ := H
  have hen : ∀ i : Nat, i < 60 → (en (0 + i) = 0 ∨ en (0 + i) = 1) := fun i hi => by rw [Nat.zero_add]; exact R.2.2.2.2.2.2.1 i hi
  have new : ∀ (f : Nat → Int) (k : Nat), RSg (n, lt, ln, bd, ah, bh, en, st, sh) (bk (blk f aside (975 * k) 975) k) := fun f k => R.cong (fun j hj => by
    unfold bk
    rw [blk_in hj]
    exact hs j hj)
  have old : ∀ (f : Nat → Int) (k i : Nat) (g : SS), i < k → RSg g (bk f i) → RSg g (bk (blk f aside (975 * k) 975) i) := fun f k i g hi hr => RS.cong hr (fun j hj => by
    unfold bk
    exact blk_out (by omega))
  subst a1
  have hc5 : pasts = 0 ∨ pasts = 1 ∨ pasts = 2 ∨ pasts = 3 ∨ pasts = 4 := by omega
  rcases hc5 with rfl | rfl | rfl | rfl | rfl
  · refine ⟨1, ha, (n, lt, ln, bd, ah, bh, en, st, sh), g1, g2, g3, pastS past aside 0, ⟨rfl, by omega, by omega, fun _ => new past 0, fun z => absurd z (by omega), fun z => absurd z (by omega), fun z => absurd z (by omega)⟩, fun post hp => Or.inl ⟨rfl, hen, hp⟩, fun th p1 post hp => q6_ends (pasts := 0) (by omega) hp⟩
  · refine ⟨2, ha, g0, (n, lt, ln, bd, ah, bh, en, st, sh), g2, g3, pastS past aside 1, ⟨rfl, by omega, by omega, fun _ => old past 1 0 g0 (by omega) (a4 (by omega)), fun _ => new past 1, fun z => absurd z (by omega), fun z => absurd z (by omega)⟩, fun post hp => Or.inr (Or.inl ⟨rfl, hen, hp⟩), fun th p1 post hp => q6_ends (pasts := 1) (by omega) hp⟩
  · refine ⟨3, ha, g0, g1, (n, lt, ln, bd, ah, bh, en, st, sh), g3, pastS past aside 2, ⟨rfl, by omega, by omega, fun _ => old past 2 0 g0 (by omega) (a4 (by omega)), fun _ => old past 2 1 g1 (by omega) (a5 (by omega)), fun _ => new past 2, fun z => absurd z (by omega)⟩, fun post hp => Or.inr (Or.inr (Or.inl ⟨rfl, hen, hp⟩)), fun th p1 post hp => q6_ends (pasts := 2) (by omega) hp⟩
  · refine ⟨4, ha, g0, g1, g2, (n, lt, ln, bd, ah, bh, en, st, sh), pastS past aside 3, ⟨rfl, by omega, by omega, fun _ => old past 3 0 g0 (by omega) (a4 (by omega)), fun _ => old past 3 1 g1 (by omega) (a5 (by omega)), fun _ => old past 3 2 g2 (by omega) (a6 (by omega)), fun _ => new past 3⟩, fun post hp => Or.inr (Or.inr (Or.inr (Or.inl ⟨rfl, hen, hp⟩))), fun th p1 post hp => q6_ends (pasts := 3) (by omega) hp⟩
  · have sh1 : ∀ (k : Nat) (g : SS), k < 3 → RSg g (bk past (k + 1)) → RSg g (bk (fun j => if j < 2925 then past (j + 975) else past j) k) := fun k g hk hr => RS.cong hr (fun j hj => by
      show (if 975 * k + j < 2925 then past (975 * k + j + 975) else past (975 * k + j)) = past (975 * (k + 1) + j)
      rw [if_pos (by omega), show 975 * k + j + 975 = 975 * (k + 1) + j by omega])
    refine ⟨4, rotH ha, g1, g2, g3, (n, lt, ln, bd, ah, bh, en, st, sh), pastS past aside 4, ⟨rfl, by omega, by omega, fun _ => old _ 3 0 g1 (by omega) (sh1 0 g1 (by omega) (a5 (by omega))), fun _ => old _ 3 1 g2 (by omega) (sh1 1 g2 (by omega) (a6 (by omega))), fun _ => old _ 3 2 g3 (by omega) (sh1 2 g3 (by omega) (a7 (by omega))), fun _ => new _ 3⟩, fun post hp => Or.inr (Or.inr (Or.inr (Or.inr ⟨rfl, hen, hp⟩))), fun th p1 post hp => q6_ends (pasts := 4) (by omega) hp⟩
theorem setLinesSim {n : Int} {lt ln bd ah bh en st sh ms : Nat → Int} (R : RS n lt ln bd ah bh en st sh ms) (lv0 pv0 lo0 : Nat → Int) :
    ∃ (L P : Nat) (lv pv lo : Nat → Int), Lay n en ms (tS st) L P lv pv lo ∧
      ∀ (l0 p0 : Int) (ts : Nat → Int) (x1 x2 x3 x4 x5 x6 x7 x8 : Int) (post : Int → Int → (Nat → Int) → (Nat → Int) → (Nat → Int) → (Nat → Int) → Int → Int → Int → Int → Int → Int → Int → Int → Prop), (∀ (ts' : Nat → Int) (y1 y2 y3 y4 y5 y6 y7 y8 : Int), post (L : Int) (P : Int) lv pv lo ts' y1 y2 y3 y4 y5 y6 y7 y8) → wpX5_setLines n bd ah bh en st sh l0 p0 lv0 pv0 lo0 ts x1 x2 x3 x4 x5 x6 x7 x8 post := by
  obtain ⟨t0, t0', t1, t1', t2, t2', t3, t3', t4, t4', t5⟩ := R.2.2.2.2.2.1
  obtain ⟨L, P, lv, pv, lo, a1, a2⟩ := layoutSim R (p2 := st 0) (p3 := st 2) (p4 := st 3) ⟨t0, t0'⟩ ⟨t2, t2'⟩ ⟨t3, t3'⟩ lv0 pv0 lo0
  refine ⟨L, P, lv, pv, lo, a1, fun l0 p0 ts x1 x2 x3 x4 x5 x6 x7 x8 post hp => ?_⟩
  unfold wpX5_setLines
  exact q3_setting (by decide) (by decide) (q3_setting (by decide) (by decide) (q3_setting (by decide) (by decide) (a2 _ _ _ _ _ _ _ _ _ _ _ _ (fun y1 y2 y3 y4 y5 y6 y7 y8 => hp _ _ _ _ _ _ _ _ _))))
