/-! The law's own reading of the pages and of the whole. -/
section IsSo26
variable {n : Int} {lt ln bd ah bh en st sh ms g e : Nat → Int} {sg : OS} {L P : Nat} {lv pv lo x y : Nat → Int} {post : Int → (Nat → Int) → (Nat → Int) → Prop}
theorem tele {p F L' : Nat} (hL : L' ≤ L) (hD : ∀ l : Nat, l < L → DB lv l) (hi : ∀ l : Nat, l < L → (lv (12 * l) = (p : Int) ↔ F ≤ l ∧ l < L')) : ∀ c : Nat, F + c + 1 ≤ L' → lv (12 * (F + c) + 8) = sr (fun l => lv (12 * l + 5) + lv (12 * l + 6)) F (c + 1) - sr (fun l => lv (12 * l + 7)) F (c + 1) := by
  intro c
  induction c with
  | zero =>
    intro h
    have hd := hD F (by omega)
    have hp := (hi F (by omega)).2 ⟨Nat.le_refl _, by omega⟩
    unfold DB at hd
    rw [if_neg (fun z => by
      have := (hi (F - 1) (by omega)).1 (z.2.trans hp)
      omega)] at hd
    rw [sr_succ, sr_succ]
    show lv (12 * F + 8) = 0 + (lv (12 * F + 5) + lv (12 * F + 6)) - (0 + lv (12 * F + 7))
    omega
  | succ c ih =>
    intro h
    have h1 := ih (by omega)
    have hd := hD (F + c + 1) (by omega)
    have hp := (hi (F + c) (by omega)).2 ⟨by omega, by omega⟩
    have hp2 := (hi (F + c + 1) (by omega)).2 ⟨by omega, by omega⟩
    unfold DB at hd
    rw [show F + c + 1 - 1 = F + c from rfl, if_pos ⟨by omega, hp.trans hp2.symm⟩, h1] at hd
    rw [sr_succ _ F (c + 1), sr_succ _ F (c + 1)]
    show lv (12 * (F + c + 1) + 8) = sr (fun l => lv (12 * l + 5) + lv (12 * l + 6)) F (c + 1) + (lv (12 * (F + c + 1) + 5) + lv (12 * (F + c + 1) + 6)) - (sr (fun l => lv (12 * l + 7)) F (c + 1) + lv (12 * (F + c + 1) + 7))
    omega
theorem u_803 (Q : Reads sg n ln bd ah bh en st sh L P lv pv) (K : LOK n en L n lv lo) (hD : ∀ l : Nat, l < L → DB lv l) (hP0 : ∀ l : Nat, l < L → 0 ≤ lv (12 * l) ∧ lv (12 * l) < (P : Int)) (hPL : P ≤ L) (hL : L ≤ 10) (hW : XY L P lv pv x y) {p F L' : Nat} {tk : Int} (hp : p < P) (hF : F < L') (hL' : L' ≤ L) (htk : tk = 0 ∨ tk = 1) (hpi : pageIs pv lv p F L' tk) (hi : ∀ l : Nat, l < L → (lv (12 * l) = (p : Int) ↔ F ≤ l ∧ l < L')) {k774 : K10} {v6 v7 v8 v9 v10 : Int}
    (h : k774 x y n v6 v7 v8 v9 v10 1 ((p : Int) + 1)) :
    ∀ (f i c : Nat) (v14 : Int), i + f = L → (i ≤ F → v14 = -1 ∧ c = 0) → (F < i → v14 = (F : Int)) → (F ≤ i → i ≤ L' → F + c = i) → (L' ≤ i → F + c = L') → wpL_isSo_803 g e sg post k774 (f + 1) x y n v6 v7 v8 v9 v10 (p : Int) v14 (c : Int) (sr (fun l => lv (12 * l + 5) + lv (12 * l + 6)) F c) (sr (fun l => lv (12 * l + 7)) F c) (i : Int) := by
  obtain ⟨⟨w1, w2, w3, w4⟩, w5⟩ := hW
  have w5 := w5 p hp
  obtain ⟨p0, p1, p2, p3, p4, p5⟩ := hpi
  have b1 : ∀ c : Nat, F + c ≤ L' → 0 * (c : Int) ≤ sr (fun l => lv (12 * l + 5) + lv (12 * l + 6)) F c ∧ sr (fun l => lv (12 * l + 5) + lv (12 * l + 6)) F c ≤ 20 * (c : Int) := fun c hc => sr_bd c (fun i h1 h2 => by
    obtain ⟨f1, f2, f3, f4, f5, f6, f7, f8, f9, f10, f11, -⟩ := K.2.2.1 i (by omega)
    show 0 ≤ lv (12 * i + 5) + lv (12 * i + 6) ∧ lv (12 * i + 5) + lv (12 * i + 6) ≤ 20
    omega)
  have b2 : ∀ c : Nat, F + c ≤ L' → 0 * (c : Int) ≤ sr (fun l => lv (12 * l + 7)) F c ∧ sr (fun l => lv (12 * l + 7)) F c ≤ 10 * (c : Int) := fun c hc => sr_bd c (fun i h1 h2 => by
    obtain ⟨f1, f2, f3, f4, f5, f6, f7, f8, f9, f10, f11, f12, f13, -⟩ := K.2.2.1 i (by omega)
    show 0 ≤ lv (12 * i + 7) ∧ lv (12 * i + 7) ≤ 10
    omega)
  intro f
  induction f with
  | zero =>
    intro i c v14 hif a1 a2 a3 a4
    have ei : i = L := by omega
    have ec : F + c = L' := a4 (by omega)
    have ev : v14 = (F : Int) := a2 (by omega)
    have c1 : 0 < c := by omega
    have ht := tele (lv := lv) hL' hD hi (c - 1) (by omega)
    rw [show F + (c - 1) = L' - 1 by omega, show c - 1 + 1 = c by omega] at ht
    have bb1 := b1 c (by omega)
    have bb2 := b2 c (by omega)
    have ecc : L' - F = c := by omega
    rw [ecc] at p2 p3
    have z12 : (12 + (p : Int)).toNat = 12 + p := by omega
    rw [ei, wpL_isSo_803, w2, z12, w5, p5]
    refine ⟨inR_of (by omega), inR_of (by omega), fun _ => ?_, fun z => absurd (Int.le_refl _) z⟩
    refine Q.2.2.1 p 0 _ hp (by decide) (cmp2 (p0.trans ev.symm) (inR_of (by rw [Nat.add_zero, p0]; omega)) ?_)
    refine Q.2.2.1 p 1 _ hp (by decide) (cmp2 (by rw [p1]; omega) (inR_of (by rw [p1]; omega)) ?_)
    refine Q.2.2.1 p 2 _ hp (by decide) (cmp2 p2 (inR_of (by rw [p2]; omega)) ?_)
    refine Q.2.2.1 p 3 _ hp (by decide) (cmp2 p3 (inR_of (by rw [p3]; omega)) ?_)
    refine Q.2.2.1 p 4 _ hp (by decide) (cmp2 (p4.trans ht) (inR_of (by rw [p4, ht]; omega)) ?_)
    refine Q.2.2.1 p 5 _ hp (by decide) ⟨by omega, by omega, cmp2 p5 (inR_of (by rw [p5]; omega)) ?_⟩
    unfold wpL_isSo_1013
    exact h
  | succ f ih =>
    intro i c v14 hif a1 a2 a3 a4
    have hii := hi i (by omega)
    have hpi := hP0 i (by omega)
    obtain ⟨x0, x1, x2, x3, x4, -⟩ := w1 i (by omega)
    have z2 : (6 * (i : Int) + 2).toNat = 6 * i + 2 := by omega
    have z3 : (6 * (i : Int) + 3).toNat = 6 * i + 3 := by omega
    have z4 : (6 * (i : Int) + 4).toNat = 6 * i + 4 := by omega
    have zy : (2 + (i : Int)).toNat = 2 + i := by omega
    rw [wpL_isSo_803, w2, zy, w4 i (by omega)]
    refine ⟨inR_of (by omega), inR_of (by omega), fun z => absurd z (by omega), fun _ => ⟨by omega, by omega, inR_of (by omega), inR_of (by omega), fun z => ?_, fun z => ?_⟩⟩
    · have ho : ¬ (F ≤ i ∧ i < L') := fun q => z (hii.2 q)
      have h1 := ih (i + 1) c v14 (by omega) (fun q => a1 (by omega)) (fun q => a2 (by omega)) (fun q1 q2 => by omega) (fun q => a4 (by omega))
      rw [show ((i + 1 : Nat) : Int) = (i : Int) + 1 by omega] at h1
      unfold wpL_isSo_829 wpL_isSo_846 wpL_isSo_848 wpL_isSo_862 wpL_isSo_895 wpL_isSo_918
      rw [Int.add_zero, Int.add_zero, Int.add_zero]
      exact ⟨inR_lit rfl, fun _ => ⟨inR_lit rfl, fun _ => ⟨inR_lit rfl, fun _ => ⟨inR_lit rfl, fun _ => h1, fun q => absurd rfl q⟩, fun q => absurd rfl q⟩, fun q => absurd rfl q⟩, fun q => absurd rfl q⟩
    · have ho := hii.1 z
      have h1 := ih (i + 1) (c + 1) (F : Int) (by omega) (fun q => absurd q (by omega)) (fun q => rfl) (fun q1 q2 => by have := a3 ho.1 (by omega); omega) (fun q => by have := a3 ho.1 (by omega); omega)
      have ec := a3 ho.1 (by omega)
      rw [show ((i + 1 : Nat) : Int) = (i : Int) + 1 by omega, show ((c + 1 : Nat) : Int) = (c : Int) + 1 by omega, show sr (fun l => lv (12 * l + 5) + lv (12 * l + 6)) F (c + 1) = sr (fun l => lv (12 * l + 5) + lv (12 * l + 6)) F c + (lv (12 * (F + c) + 5) + lv (12 * (F + c) + 6)) from rfl, show sr (fun l => lv (12 * l + 7)) F (c + 1) = sr (fun l => lv (12 * l + 7)) F c + lv (12 * (F + c) + 7) from rfl, ec] at h1
      have tail : wpL_isSo_848 g e sg post k774 (wpL_isSo_803 g e sg post k774 (f + 1)) x y n v6 v7 v8 v9 v10 (p : Int) (c : Int) (sr (fun l => lv (12 * l + 5) + lv (12 * l + 6)) F c) (sr (fun l => lv (12 * l + 7)) F c) (i : Int) 1 (F : Int) := by
        unfold wpL_isSo_848 wpL_isSo_862 wpL_isSo_895 wpL_isSo_918
        rw [z2, z3, z4, x2, x3, x4]
        exact ⟨inR_lit rfl, fun q => absurd q (by decide), fun _ => ⟨inR_lit rfl, fun q => absurd q (by decide), fun _ => ⟨by omega, by omega, by omega, by omega, inR_lit rfl, fun q => absurd q (by decide), fun _ => ⟨by omega, by omega, h1⟩⟩⟩⟩
      unfold wpL_isSo_829 wpL_isSo_846
      refine ⟨inR_lit rfl, fun q => absurd q (by decide), fun _ => ⟨?_, fun q => ?_, fun q => ?_⟩⟩
      · by_cases q : i ≤ F
        · rw [(a1 q).1]; exact inR_lit rfl
        · rw [a2 (by omega)]; exact inR_of (by omega)
      · have ev : v14 = (F : Int) := a2 (by
          by_cases q2 : i ≤ F
          · have := (a1 q2).1; omega
          · omega)
        rw [ev]
        exact tail
      · have ef : i = F := by
          by_cases q2 : i ≤ F
          · omega
          · have := a2 (by omega); omega
        rw [← ef] at tail ⊢
        exact tail
theorem u_1021 (R : RS n lt ln bd ah bh en st sh ms) (Gr : G26 n lt ln ah bh en st sh g e) (Q : Reads sg n ln bd ah bh en st sh L P lv pv) (K : LOK n en L n lv lo) (hX : ∀ l : Nat, l < L → LX (cW bd ah bh) st lv l ∧ DB lv l) (hPL : P ≤ L) (hL : L ≤ 10) (hW : XY L P lv pv x y) (h : post 1 x y) :
    wpL_isSo_1021 g e sg post x y n (sm (fun w => pe n en (w : Int)) n.toNat) (sm (lendG lv) L) (sm (fun l => lv (12 * l + 9)) L) (sm (fun l => lv (12 * l + 5) + lv (12 * l + 6)) L) (sm (fun l => lv (12 * l + 11)) L) 1 := by
  obtain ⟨⟨w1, w2, w3, w4⟩, w5⟩ := hW
  have hn := R.2.1
  have hn10 := Gr.1
  have e0 := Gr.2.2.1 0 (by omega)
  obtain ⟨-, -, -, q4, -, -, q7, q8, q9⟩ := Q
  have s1 := sm_bd (g := fun w => pe n en ((w : Nat) : Int)) (a := 0) (b := 1) n.toNat (fun k hk => by
    show 0 ≤ pe n en (k : Int) ∧ pe n en (k : Int) ≤ 1
    have := pe_01 n en (k : Int)
    omega)
  have s2 := sm_bd (g := lendG lv) (a := 0) (b := 1) L (fun k hk => by unfold lendG; split <;> omega)
  have s3 := sm_bd (g := fun l => lv (12 * l + 9)) (a := 0) (b := 1) L (fun k hk => by
    have := (K.2.2.1 k hk).2.2.2.2.2.2.2.2.2.2.2.2.2.2.2.1
    show 0 ≤ lv (12 * k + 9) ∧ lv (12 * k + 9) ≤ 1
    omega)
  have s4 := sm_bd (g := fun l => lv (12 * l + 5) + lv (12 * l + 6)) (a := 0) (b := 20) L (fun k hk => by
    obtain ⟨f1, f2, f3, f4, f5, f6, f7, f8, f9, f10, f11, -⟩ := K.2.2.1 k hk
    show 0 ≤ lv (12 * k + 5) + lv (12 * k + 6) ∧ lv (12 * k + 5) + lv (12 * k + 6) ≤ 20
    omega)
  have s5 := sm_bd (g := fun l => lv (12 * l + 11)) (a := 0) (b := 200) L (fun k hk => by
    obtain ⟨f1, f2, f3, f4, f5, f6, f7, f8, f9, f10, f11, f12, f13, f14, f15, f16, f17, f18, f19, f20⟩ := K.2.2.1 k hk
    exact ⟨f19, f20⟩)
  have s6 := sm_bd (g := sqG lv) (a := 0) (b := 40000) L (fun k hk => by
    obtain ⟨f1, f2, f3, f4, f5, f6, f7, f8, f9, f10, f11, f12, f13, f14, f15, f16, f17, f18, f19, f20⟩ := K.2.2.1 k hk
    have m1 : lv (12 * k + 11) * lv (12 * k + 11) ≤ 200 * 200 := Int.mul_le_mul f20 f20 f19 (by decide)
    have m2 : 0 ≤ lv (12 * k + 11) * lv (12 * k + 11) := Int.mul_nonneg f19 f19
    unfold sqG
    split <;> omega)
  have fin : ∀ m : UInt64, vf_n64 m → (∀ p : UInt64 → Prop, p m → pwP_meanEmpty sg p) → wpL_isSo_1041 g e sg post x y n (sm (fun w => pe n en (w : Int)) n.toNat) (sm (lendG lv) L) (sm (fun l => lv (12 * l + 9)) L) (sm (fun l => lv (12 * l + 5) + lv (12 * l + 6)) L) 1 m := by
    intro m hv hm
    unfold wpL_isSo_1041
    rw [w2, w3, e0]
    refine ⟨inR_lit rfl, fun c => absurd c (by decide), fun _ => ?_⟩
    refine (q4 _).2.2.2.1 (cmp2 rfl (inR_of (by omega)) ?_)
    refine (q4 _).2.2.2.2.1 (cmp2 rfl (inR_of (by omega)) ?_)
    refine (q4 _).2.2.2.2.2.1 (cmp2 rfl (inR_of (by omega)) ?_)
    refine (q4 _).2.2.2.2.2.2.1 (cmp2 rfl (inR_of (by omega)) ?_)
    refine q7 _ (u_uneven R Gr hL w1 K.2.2.1 (fun l hl => (hX l hl).1) w2 (cmp2 rfl (inR_of (by omega)) ?_))
    refine hm _ (cmp1 (cmp_same hv) (by rw [cmp_same hv]; exact inR_lit rfl) ?_)
    refine (q9 _).1 (cmp1 rfl (inR_lit rfl) ?_)
    refine (q9 _).2.1 (cmp1 rfl (inR_lit rfl) ?_)
    exact (q9 _).2.2 (cmp1 rfl (inR_lit rfl) h)
  unfold wpL_isSo_1021
  rw [w2]
  refine ⟨inR_of (by omega), fun c => ?_, fun c => ?_⟩
  · have hv := noNaN (sm (fun l => lv (12 * l + 11)) L) (L : Int) (by omega) (by omega) (by omega) (by omega)
    exact ⟨hv, fin _ hv (fun p hp => q8 p (fun z => absurd z (by omega)) (fun _ => hp))⟩
  · exact fin _ nan0 (fun p hp => q8 p (fun _ => hp) (fun z => absurd z (by omega)))
theorem u_774 (Q : Reads sg n ln bd ah bh en st sh L P lv pv) (K : LOK n en L n lv lo) (hX : ∀ l : Nat, l < L → LX (cW bd ah bh) st lv l ∧ DB lv l) (hP : PX P L pv lv) (hL : L ≤ 10) (hW : XY L P lv pv x y) {v6 v7 v8 v9 v10 : Int} (h : wpL_isSo_1021 g e sg post x y n v6 v7 v8 v9 v10 1) :
    ∀ f p : Nat, p + f = P → wpL_isSo_774 g e sg post (f + 1) x y n v6 v7 v8 v9 v10 1 (p : Int) := by
  have hPL := hP.1
  have w3 := hW.1.2.2.1
  intro f
  induction f with
  | zero =>
    intro p hp
    rw [show p = P by omega, wpL_isSo_774, w3]
    exact ⟨inR_of (by omega), inR_of (by omega), fun _ => h, fun c => absurd (Int.le_refl _) c⟩
  | succ f ih =>
    intro p hp
    have h1 := ih (p + 1) (by omega)
    rw [show ((p + 1 : Nat) : Int) = (p : Int) + 1 by omega] at h1
    obtain ⟨F, L', tk, d1, d2, d3, d4, d5⟩ := hP.2.2 p (by omega)
    rw [wpL_isSo_774, w3]
    refine ⟨inR_of (by omega), inR_of (by omega), fun c => absurd c (by omega), fun _ => ⟨inR_lit rfl, fun c => absurd c (by decide), fun _ => ⟨L + 1, ?_⟩⟩⟩
    exact u_803 (g := g) (e := e) (post := post) Q K (fun l hl => (hX l hl).2) hP.2.1 hPL hL hW (by omega) d1 d2 d3 d4 d5 h1 L 0 0 (-1) (by omega) (fun _ => ⟨rfl, rfl⟩) (fun q => absurd q (by omega)) (fun q1 q2 => by omega) (fun q => absurd q (by omega))
theorem u_86 (Gr : G26 n lt ln ah bh en st sh g e) (Q : Reads sg n ln bd ah bh en st sh L P lv pv) (hst : OKt st) (hsh : ∀ i : Nat, i < 8 → 0 ≤ sh i ∧ sh i ≤ 100) (h : ∃ n0 : Nat, wpL_isSo_154 g e sg post n0 x y n 0 0 0 0 0 1 0 0) :
    ∀ f k : Nat, k + f = 8 → wpL_isSo_86 g e sg post (f + 1) x y n 0 0 0 0 0 1 (k : Int) := by
  obtain ⟨t0, t0', t1, t1', t2, t2', t3, t3', t4, t4', t5⟩ := hst
  intro f
  induction f with
  | zero =>
    intro k hk
    rw [show k = 8 by omega, wpL_isSo_86]
    exact ⟨inR_lit rfl, fun _ => h, fun c => absurd (by decide) c⟩
  | succ f ih =>
    intro k hk
    have h1 := ih (k + 1) (by omega)
    rw [show ((k + 1 : Nat) : Int) = (k : Int) + 1 by omega] at h1
    have g8 := Gr.2.2.2.1 k (by omega)
    have s8 := hsh k (by omega)
    have z6 : (6 + (k : Int)).toNat = 6 + k := by omega
    have hd : wpL_isSo_135 g e sg post (wpL_isSo_86 g e sg post (f + 1)) x y n 0 0 0 0 0 (k : Int) := by
      unfold wpL_isSo_135 wpL_isSo_140
      exact h1
    rw [wpL_isSo_86, z6, g8, Int.toNat_natCast]
    refine ⟨inR_of (by omega), fun c => absurd c (by omega), fun _ => ⟨inR_lit rfl, fun c => absurd c (by decide), fun _ => ?_⟩⟩
    refine Q.2.2.2.2.2.1 k _ (by omega) ⟨by omega, by omega, cmp2 rfl (inR_of (by omega)) ⟨inR_of (by omega), fun _ => hd, fun c => ?_⟩⟩
    have g6 := Gr.2.2.1 k (by omega)
    have sb : inR (st k) := by
      have hc : k = 0 ∨ k = 1 ∨ k = 2 ∨ k = 3 ∨ k = 4 ∨ k = 5 := by omega
      rcases hc with rfl | rfl | rfl | rfl | rfl | rfl <;> exact inR_of (by omega)
    exact Q.2.2.2.2.1 k _ (by omega) ⟨by omega, by omega, cmp2 g6.symm sb hd⟩
end IsSo26
theorem u_isSo {sg : OS} {g e x y : Nat → Int} {post : Int → (Nat → Int) → (Nat → Int) → Prop} (J : J26 sg g e) (h : ∀ x' y' : Nat → Int, post 1 x' y') : wpL_isSo g e x y sg post := by
  obtain ⟨n, lt, ln, bd, ah, bh, en, st, sh, ms, L, P, lv, pv, lo, R, Gr, Y, Q⟩ := reads26 J
  obtain ⟨K, hX, hP, hlay⟩ := Y
  have hn10 := Gr.1
  have hn0 := R.2.1
  have k1 := K.1
  have k5 := K.2.2.2.2.1
  have k6 := K.2.2.2.2.2.1
  have hPL := hP.1
  unfold wpL_isSo
  rw [Gr.2.1, Gr.2.2.1 0 (by omega)]
  refine hlay _ x y (fun x' y' hxy => ?_)
  have w2 := hxy.1.2.1
  have w3 := hxy.1.2.2.1
  have h1021 := u_1021 (post := post) R Gr Q K hX hPL (by omega) hxy (h x' y')
  have h771 : wpL_isSo_771 g e sg post x' y' n (sm (fun w => pe n en (w : Int)) n.toNat) (sm (lendG lv) L) (sm (fun l => lv (12 * l + 9)) L) (sm (fun l => lv (12 * l + 5) + lv (12 * l + 6)) L) (sm (fun l => lv (12 * l + 11)) L) 1 := by
    unfold wpL_isSo_771
    exact ⟨P + 1, u_774 (post := post) Q K hX hP (by omega) hxy h1021 P 0 (by omega)⟩
  have h154 : ∃ n0 : Nat, wpL_isSo_154 g e sg post n0 x' y' n 0 0 0 0 0 1 0 0 :=
    ⟨L + 1, u_154 (post := post) R Gr Q K hX hP.2.1 hPL (by omega) hxy.1 h771 L 0 0 (by omega) (fun c => k5 c) (fun c => by have := k6 c.symm; omega) 0 (fun i0 c => absurd c (by omega))⟩
  show pwL_wholeOf0 sg 0 _
  rw [w2, w3]
  refine (Q.2.2.2.1 _).1 (cmp2 rfl (inR_of (by omega)) ?_)
  refine (Q.2.2.2.1 _).2.1 (cmp2 rfl (inR_of (by omega)) ?_)
  refine (Q.2.2.2.1 _).2.2.1 (cmp2 rfl (inR_of (by omega)) ?_)
  refine (Q.2.2.2.1 _).2.2.2.2.2.2.2 (cmp1 rfl (inR_lit rfl) ?_)
  unfold wpL_isSo_81
  exact ⟨9, u_86 (post := post) Gr Q R.2.2.2.2.2.1 (fun i hi => (R.2.2.2.2.1 i hi).2) h154 8 0 (by omega)⟩
