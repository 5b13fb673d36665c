/-! The law's row (table of 6 numbers). -/
section Row
variable {n : Int} {lt ln bd ah bh en st sh ms g e : Nat → Int}
theorem u_rowz_191 {ax : Nat → Int} {post : Int → (Nat → Int) → Prop} {L : Nat} (hL : L < 1) {first pays q need right : Int} (hn : inR need) (hr : inR right)
    (hp : ∀ x' : Nat → Int, xout ax x' L → x' (6 * L) = first → x' (6 * L + 1) = q → x' (6 * L + 2) = need - (if right < need then right else need) → x' (6 * L + 3) = (if right < need then right else need) → x' (6 * L + 4) = pays → x' (6 * L + 5) = 0 → post q x') :
    wpL_rowz_191 g e post ax first (6 * (L : Int)) pays q 1 need right := by
  have z0 : (6 * (L : Int)).toNat = 6 * L := by omega
  have z1 : (6 * (L : Int) + 1).toNat = 6 * L + 1 := by omega
  have z2 : (6 * (L : Int) + 2).toNat = 6 * L + 2 := by omega
  have z3 : (6 * (L : Int) + 3).toNat = 6 * L + 3 := by omega
  have z4 : (6 * (L : Int) + 4).toNat = 6 * L + 4 := by omega
  have z5 : (6 * (L : Int) + 5).toNat = 6 * L + 5 := by omega
  have key : ∀ v : Int, v = (if right < need then right else need) → wpL_rowz_235 g e post (updI (updI ax (6 * L) first) (6 * L + 1) q) (6 * (L : Int)) pays q 1 need v (6 * (L : Int) + 3) := by
    intro v hv
    rw [← hv] at hp
    unfold wpL_rowz_235 wpL_rowz_261
    rw [z2, z3, z4, z5]
    refine ⟨by omega, by omega, inR_lit rfl, fun z => absurd z (by decide), fun _ => ⟨by omega, by omega, by omega, by omega, by omega, by omega, inR_lit rfl, fun z => absurd z (by decide), fun _ => ⟨by omega, by omega, ?_⟩⟩⟩
    refine hp _ (fun k hk => ?_) ?_ ?_ ?_ ?_ ?_ ?_
    · simp only [updI]
      repeat rw [if_neg (by omega)]
    all_goals
      simp only [updI]
      (repeat rw [if_neg (by omega)]) <;> first | rfl | ((first | rw [if_pos rfl] | rw [if_pos trivial]); try (first | rfl | ((first | rw [if_pos rfl] | rw [if_pos trivial]); rfl)))
  unfold wpL_rowz_191
  rw [z0, z1]
  refine ⟨by omega, by omega, by omega, by omega, inR_lit rfl, fun _ => ⟨hn, hr, fun c => key _ ?_, fun c => key _ ?_⟩, fun z => absurd z (by decide)⟩
  · rw [if_neg (by omega)]
  · rw [if_pos (by omega)]
theorem u_rowz_191w {ax : Nat → Int} {post : Int → (Nat → Int) → Prop} {L : Nat} (hL : L < 1) {first pays q need right : Int}
    (hp : ∀ x' : Nat → Int, xout ax x' L → x' (6 * L) = first → x' (6 * L + 1) = q → x' (6 * L + 2) = 0 → x' (6 * L + 3) = 0 → x' (6 * L + 4) = pays → x' (6 * L + 5) = 1 → post q x') :
    wpL_rowz_191 g e post ax first (6 * (L : Int)) pays q 0 need right := by
  have z0 : (6 * (L : Int)).toNat = 6 * L := by omega
  have z1 : (6 * (L : Int) + 1).toNat = 6 * L + 1 := by omega
  have z2 : (6 * (L : Int) + 2).toNat = 6 * L + 2 := by omega
  have z3 : (6 * (L : Int) + 3).toNat = 6 * L + 3 := by omega
  have z4 : (6 * (L : Int) + 4).toNat = 6 * L + 4 := by omega
  have z5 : (6 * (L : Int) + 5).toNat = 6 * L + 5 := by omega
  unfold wpL_rowz_191 wpL_rowz_235 wpL_rowz_261
  rw [z0, z1, z2, z3, z4, z5]
  refine ⟨by omega, by omega, by omega, by omega, inR_lit rfl, fun z => absurd rfl z, fun _ => ⟨by omega, by omega, inR_lit rfl, fun _ => ⟨by omega, by omega, by omega, by omega, inR_lit rfl, fun _ => ⟨by omega, by omega, ?_⟩, fun z => absurd rfl z⟩, fun z => absurd rfl z⟩⟩
  refine hp _ (fun k hk => ?_) ?_ ?_ ?_ ?_ ?_ ?_
  · simp only [updI]
    repeat rw [if_neg (by omega)]
  all_goals
    simp only [updI]
    (repeat rw [if_neg (by omega)]) <;> first | rfl | ((first | rw [if_pos rfl] | rw [if_pos trivial]))
theorem u_rowz_53 (R : RS n lt ln bd ah bh en st sh ms) (Gr : G26 n lt ln ah bh en st sh g e) {a D : Nat} (hD : ((a + D : Nat) : Int) ≤ n) {debt later pays at_ : Int} {ax : Nat → Int} {post : Int → (Nat → Int) → Prop} (hd : 0 ≤ debt ∧ debt ≤ 1000) (hpy : 0 ≤ pays ∧ pays ≤ 10 ∧ pays ≤ debt) (hlt : 0 ≤ later ∧ later ≤ 19)
    (hA : ∀ p : Nat, p < D → fitq (cW bd ah bh) (cR sh bh (st 3)) (st 0 - pays) (lfO ah sh st a) (debt - pays) (st 4 * later) a p → (∀ p' : Nat, p < p' → p' < D → ¬ fitq (cW bd ah bh) (cR sh bh (st 3)) (st 0 - pays) (lfO ah sh st a) (debt - pays) (st 4 * later) a p') → wpL_rowz_191 g e post ax (a : Int) at_ pays ((p : Int) + 1) 1 (ndq (cW bd ah bh) (st 0 - pays) a p) (cR sh bh (st 3) (a + p)))
    (hB : (∀ p : Nat, p < D → ¬ fitq (cW bd ah bh) (cR sh bh (st 3)) (st 0 - pays) (lfO ah sh st a) (debt - pays) (st 4 * later) a p) → ∀ v12 v13 : Int, wpL_rowz_191 g e post ax (a : Int) at_ pays 1 0 v12 v13) :
    ∀ (d : Nat) (v12 v13 : Int), d ≤ D → (∀ p : Nat, d ≤ p → p < D → ¬ fitq (cW bd ah bh) (cR sh bh (st 3)) (st 0 - pays) (lfO ah sh st a) (debt - pays) (st 4 * later) a p) → ∃ n0 : Nat, wpL_rowz_53 g e post n0 ax (a : Int) (st 0) 1 debt later at_ pays ((d : Int) + 1) 0 v12 v13 := by
  have hn := R.2.2.1
  obtain ⟨t0, t0', t1, t1', t2, t2', t3, t3', t4, t4', t5⟩ := R.2.2.2.2.2.1
  have e2 := Gr.2.2.1 2 (by omega)
  have e3 := Gr.2.2.1 3 (by omega)
  have e4 := Gr.2.2.1 4 (by omega)
  have hl19 : 0 ≤ st 4 * later ∧ st 4 * later ≤ 1000 := by
    have h1 : st 4 * later ≤ 10 * later := Int.mul_le_mul_of_nonneg_right t4' hlt.1
    have h2 : 0 ≤ st 4 * later := Int.mul_nonneg t4 hlt.1
    omega
  intro d
  induction d with
  | zero =>
    intro v12 v13 _ hno
    have h9 := hB (fun p hp => hno p (Nat.zero_le _) hp) v12 v13
    refine ⟨1, ?_⟩
    rw [wpL_rowz_53, show ((0 : Nat) : Int) + 1 = 1 by omega]
    exact ⟨inR_lit rfl, fun _ => h9, fun z => absurd (Int.le_refl 1) z⟩
  | succ d ih =>
    intro v12 v13 hdD hno
    have hw := R.2.2.2.2.2.2.2
    obtain ⟨-, -, -, -, -, -, a7, a8, -, -, -, -⟩ := hw a (by omega)
    obtain ⟨-, -, -, -, -, -, -, -, a9, a10, -, -⟩ := hw (a + d) (by omega)
    obtain ⟨gn, g14, g6, g8, gw⟩ := Gr
    have Gr : G26 n lt ln ah bh en st sh g e := ⟨gn, g14, g6, g8, gw⟩
    have ca := (gw a (by omega)).2.1
    have cb := (gw (a + d) (by omega)).2.2.1
    have hnt : 0 ≤ nt (cW bd ah bh) a (d + 1) ∧ nt (cW bd ah bh) a (d + 1) ≤ 5000 := by
      have h1 := sr_bd (g := cW bd ah bh) (a := a) (lo := 2) (hi := 78) (d + 1) (fun k hk1 hk2 => cW_bd R.okw (by omega))
      unfold nt
      omega
    have hov := ov_bd a7 (by omega : ah a ≤ 7) R.okw.2.2.2
    have hcr := cR_bd R.okw ⟨t3, t3'⟩ (w := a + d) (by omega)
    -- behind the two margins
    have scan : ∀ nd : Int, nd = ndq (cW bd ah bh) (st 0 - pays) a d → ∃ n0 : Nat, wpL_rowz_92 g e post (wpL_rowz_53 g e post n0) ax (a : Int) (st 0) 1 debt later at_ pays ((d : Int) + 1) nd := by
      intro nd hnd
      have nd1 : 0 ≤ nd ∧ nd ≤ 6000 := by rw [hnd]; unfold ndq; split <;> omega
      have body : ∀ k53 : (Nat → Int) → Int → Int → Int → Int → Int → Int → Int → Int → Int → Int → Int → Prop, (fitq (cW bd ah bh) (cR sh bh (st 3)) (st 0 - pays) (lfO ah sh st a) (debt - pays) (st 4 * later) a d → k53 ax (a : Int) (st 0) 1 debt later at_ pays ((d : Int) + 1) 1 nd (cR sh bh (st 3) (a + d))) →
          (¬ fitq (cW bd ah bh) (cR sh bh (st 3)) (st 0 - pays) (lfO ah sh st a) (debt - pays) (st 4 * later) a d → k53 ax (a : Int) (st 0) 1 debt later at_ pays ((d : Int) + 1) 0 nd (cR sh bh (st 3) (a + d))) → wpL_rowz_92 g e post k53 ax (a : Int) (st 0) 1 debt later at_ pays ((d : Int) + 1) nd := by
        intro k53 k1 k0
        unfold fitq at k1 k0
        rw [← hnd] at k1 k0
        unfold wpL_rowz_92
        rw [show (5 * (a : Int) + 2).toNat = 5 * a + 2 by omega, ca, e2]
        refine ⟨inR_lit rfl, fun z => absurd z (by decide), fun _ => ⟨by omega, by omega, u_hang R Gr a7 (by omega) ⟨t2, t2'⟩ ?_⟩⟩
        unfold wpL_rowz_117
        rw [show (5 * ((a : Int) + ((d : Int) + 1) - 1) + 3).toNat = 5 * (a + d) + 3 by omega, cb, e3]
        refine ⟨inR_lit rfl, fun z => absurd z (by decide), fun _ => ⟨by omega, by omega, u_hang R Gr a9 a10 ⟨t3, t3'⟩ ?_⟩⟩
        unfold wpL_rowz_147 wpL_rowz_181 wpL_rowz_185 wpL_rowz_186
        rw [e4]
        have el : (if st 2 < ov sh (ah a) then st 2 else ov sh (ah a)) = lfO ah sh st a := rfl
        have er : (if st 3 < ov sh (bh (a + d)) then st 3 else ov sh (bh (a + d))) = cR sh bh (st 3) (a + d) := rfl
        rw [el, er]
        have bl : 0 ≤ lfO ah sh st a ∧ lfO ah sh st a ≤ 10 := by unfold lfO; split <;> omega
        exact ⟨inR_of (by omega), fun c => k1 (Or.inl c), fun c => ⟨inR_of (by omega), inR_of (by omega), fun c2 => k0 (by omega), fun c2 => ⟨inR_of (by omega), inR_of (by omega), fun c3 => k0 (by omega), fun c3 => k1 (by omega)⟩⟩⟩
      by_cases hf : fitq (cW bd ah bh) (cR sh bh (st 3)) (st 0 - pays) (lfO ah sh st a) (debt - pays) (st 4 * later) a d
      · have h9 := hA d (by omega) hf (fun p' h1 h2 => hno p' (by omega) h2)
        rw [← hnd] at h9
        refine ⟨1, body _ (fun _ => ?_) (fun z => absurd hf z)⟩
        rw [wpL_rowz_53]
        exact ⟨inR_of (by omega), fun _ => h9, fun _ => ⟨inR_lit rfl, fun _ => h9, fun z => absurd z (by decide)⟩⟩
      · obtain ⟨n0, h0⟩ := ih nd (cR sh bh (st 3) (a + d)) (by omega) (fun p h1 h2 => by
          by_cases c : p = d
          · rw [c]; exact hf
          · exact hno p (by omega) h2)
        exact ⟨n0, body _ (fun z => absurd z hf) (fun _ => h0)⟩
    obtain ⟨n0, h0⟩ := scan _ rfl
    refine ⟨n0 + 1, ?_⟩
    rw [wpL_rowz_53]
    refine ⟨inR_of (by omega), fun z => absurd z (by omega), fun _ => ⟨inR_lit rfl, fun z => absurd rfl z, fun _ => ?_⟩⟩
    rw [show ((d + 1 : Nat) : Int) + 1 + -1 = ((d + 1 : Nat) : Int) by omega]
    refine u_natural R Gr (by omega) ?_
    rw [show ((d + 1 : Nat) : Int) = (d : Int) + 1 by omega]
    unfold ndq at h0
    refine ⟨inR_of (by omega), fun c => ?_, fun c => ?_⟩
    · by_cases c2 : st 0 - pays < nt (cW bd ah bh) a (d + 1)
      · rw [if_pos c2] at h0
        rw [show nt (cW bd ah bh) a (d + 1) - st 0 + pays = nt (cW bd ah bh) a (d + 1) - (st 0 - pays) by omega]
        exact h0
      · rw [if_neg c2] at h0
        rw [show nt (cW bd ah bh) a (d + 1) - st 0 + pays = 0 by omega]
        exact h0
    · rw [if_neg (by omega)] at h0
      exact h0
theorem u_rowz (R : RS n lt ln bd ah bh en st sh ms) (Gr : G26 n lt ln ah bh en st sh g e) {L a : Nat} (hL : L < 1) (ha : (a : Int) < n) {debt later : Int} {ax : Nat → Int} {post : Int → (Nat → Int) → Prop} (hd : 0 ≤ debt ∧ debt ≤ 1000) (hlt : 0 ≤ later ∧ later ≤ 19)
    (hp : ∀ (r : RW) (x' : Nat → Int), r = rwOf n bd ah bh en sh st a debt later → xout ax x' L → xrow x' L (a : Int) (if st 4 < debt then st 4 else debt) r → post r.1 x') :
    wpL_rowz g e ax (a : Int) (st 0) 1 debt later (6 * (L : Int)) post := by
  have hn := R.2.2.1
  have hen := R.2.2.2.2.2.2.1
  obtain ⟨t0, t0', t1, t1', t2, t2', t3, t3', t4, t4', t5⟩ := R.2.2.2.2.2.1
  have e4 := Gr.2.2.1 4 (by omega)
  obtain ⟨D, d1, d2, d3, d4⟩ := ex_D (n := n) (en := en) (n - a - 1).toNat a (by omega)
  have main : ∀ pays : Int, pays = (if st 4 < debt then st 4 else debt) → wpL_rowz_16 g e post ax (a : Int) (st 0) 1 debt later (6 * (L : Int)) pays := by
    intro pays hpy
    have hpb : 0 ≤ pays ∧ pays ≤ 10 ∧ pays ≤ debt := by rw [hpy]; split <;> omega
    have hl := rowGo_last (n := n) (W := cW bd ah bh) (RO := cR sh bh (st 3)) (E := en) (own := st 0 - pays) (left := lfO ah sh st a) (dl := debt - pays) (lim := st 4 * later) (a := a) (D := D) d2 (fun p h1 => pe_zero (hen _ (by omega)) (d3 p h1)) (fun p h1 => pe_one (d4 p h1)) n.toNat 0 0 (1, cW bd ah bh a, 0, 0, 1) (by omega) (by omega) (by simp [sr])
    rw [Nat.add_zero] at hl
    have er : rwOf n bd ah bh en sh st a debt later = rowGo n (cW bd ah bh) (cR sh bh (st 3)) en (st 0 - pays) (lfO ah sh st a) (debt - pays) (st 4 * later) a n.toNat a 0 (1, cW bd ah bh a, 0, 0, 1) := by
      unfold rwOf lfO
      rw [← hpy]
    rw [← er] at hl
    rw [← hpy] at hp
    have fin : ∀ (v12 v13 : Int), ∃ n0 : Nat, wpL_rowz_53 g e post n0 ax (a : Int) (st 0) 1 debt later (6 * (L : Int)) pays ((D : Int) + 1) 0 v12 v13 := by
      intro v12 v13
      refine u_rowz_53 R Gr d2 hd hpb hlt (fun p h1 h2 h3 => ?_) (fun h1 v12 v13 => ?_) D v12 v13 (Nat.le_refl _) (fun p h1 h2 => absurd h2 (by omega))
      · have e1 : rwOf n bd ah bh en sh st a debt later = resq (cW bd ah bh) (cR sh bh (st 3)) (st 0 - pays) a p := by
          rcases hl with ⟨p2, -, q2, q3, q4, q5⟩ | ⟨q1, -⟩
          · have : p2 = p := by
              by_cases c1 : p2 < p
              · exact absurd h2 (q4 p c1 h1)
              · by_cases c2 : p < p2
                · exact absurd q3 (h3 p2 c2 q2)
                · omega
            rw [← this]
            exact q5
          · exact absurd h2 (q1 p (Nat.zero_le _) h1)
        have hcr := cR_bd R.okw ⟨t3, t3'⟩ (w := a + p) (by omega)
        have hnt : 0 ≤ nt (cW bd ah bh) a (p + 1) ∧ nt (cW bd ah bh) a (p + 1) ≤ 5000 := by
          have h1 := sr_bd (g := cW bd ah bh) (a := a) (lo := 2) (hi := 78) (p + 1) (fun k hk1 hk2 => cW_bd R.okw (by omega))
          unfold nt
          omega
        have nd1 : 0 ≤ ndq (cW bd ah bh) (st 0 - pays) a p ∧ ndq (cW bd ah bh) (st 0 - pays) a p ≤ 6000 := by unfold ndq; split <;> omega
        exact u_rowz_191 hL (inR_of (by omega)) (inR_of (by omega)) (fun x' o1 o2 o3 o4 o5 o6 o7 => hp (resq (cW bd ah bh) (cR sh bh (st 3)) (st 0 - pays) a p) x' e1.symm o1 ⟨o2, o3, o4, o5, o6, o7⟩)
      · have e1 : rwOf n bd ah bh en sh st a debt later = (1, cW bd ah bh a, 0, 0, 1) := by
          rcases hl with ⟨p2, -, q2, q3, -, -⟩ | ⟨-, q2⟩
          · exact absurd q3 (h1 p2 q2)
          · exact q2
        exact u_rowz_191w hL (fun x' o1 o2 o3 o4 o5 o6 o7 => hp (1, cW bd ah bh a, 0, 0, 1) x' e1.symm o1 ⟨o2, o3, o4, o5, o6, o7⟩)
    unfold wpL_rowz_16
    refine ⟨D, ?_⟩
    have up : ∀ (k i : Nat), i + k + 1 = D → wpL_rowz_21 g e post (k + 1) ax (a : Int) (st 0) 1 debt later (6 * (L : Int)) pays ((i : Int) + 1) := by
      intro k
      induction k with
      | zero =>
        intro i hi
        rw [wpL_rowz_21]
        have h8 := d4 i (by omega)
        rw [show ((a + i : Nat) : Int) = (a : Int) + ((i : Int) + 1) - 1 by omega] at h8
        refine u_closes R Gr (by omega) (by omega) ?_
        rw [h8]
        have h9 := fin 0 0
        rw [show (D : Int) = (i : Int) + 1 by omega] at h9
        exact ⟨inR_lit rfl, fun _ => h9, fun z => absurd z (by decide)⟩
      | succ k ih =>
        intro i hi
        rw [wpL_rowz_21]
        have h8 := d3 i (by omega)
        rw [show ((a + i : Nat) : Int) = (a : Int) + ((i : Int) + 1) - 1 by omega] at h8
        refine u_closes R Gr (by omega) (by omega) ?_
        rw [h8]
        have h9 := ih (i + 1) (by omega)
        rw [show ((i + 1 : Nat) : Int) = (i : Int) + 1 by omega] at h9
        exact ⟨inR_lit rfl, fun z => absurd rfl z, fun _ => h9⟩
    have h7 := up (D - 1) 0 (by omega)
    rw [show D - 1 + 1 = D by omega] at h7
    exact h7
  unfold wpL_rowz
  rw [e4]
  refine ⟨inR_of (by omega), inR_of (by omega), fun c => main debt ?_, fun c => main (st 4) ?_⟩
  · rw [if_neg (by omega)]
  · rw [if_pos (by omega)]
end Row
