/-! The law's own reading of the lines and the words. -/
theorem cmp2 {a b : Int} {A B : Prop} (e : a = b) (h0 : inR a) (h : B) : inR a ∧ inR b ∧ (¬ a = b → A) ∧ (a = b → B) := ⟨h0, e ▸ h0, fun c => absurd e c, fun _ => h⟩
theorem cmp1 {a b : Int} {A B : Prop} (e : a = b) (h0 : inR a) (h : B) : inR a ∧ (¬ a = b → A) ∧ (a = b → B) := ⟨h0, fun c => absurd e c, fun _ => h⟩
abbrev K11 : Type := (Nat → Int) → (Nat → Int) → Int → Int → Int → Int → Int → Int → Int → Int → Int → Prop
abbrev K10 : Type := (Nat → Int) → (Nat → Int) → Int → Int → Int → Int → Int → Int → Int → Int → Prop
section Lines26
variable {n : Int} {lt ln bd ah bh en st sh ms g e : Nat → Int}
theorem u_empty (R : RS n lt ln bd ah bh en st sh ms) (Gr : G26 n lt ln ah bh en st sh g e) {x lv : Nat → Int} {l : Nat} {post : Int → Prop} (hl : l < 10) (hx : XM x lv l) (hf : LF n en lv l) (hX : LX (cW bd ah bh) st lv l) (h : post (lv (12 * l + 11))) : wpL_empty e x (st 0) (l : Int) post := by
  have z0 : (6 * (l : Int)).toNat = 6 * l := by omega
  have z1 : (6 * (l : Int) + 1).toNat = 6 * l + 1 := by omega
  have z2 : (6 * (l : Int) + 2).toNat = 6 * l + 2 := by omega
  have z3 : (6 * (l : Int) + 3).toNat = 6 * l + 3 := by omega
  have z4 : (6 * (l : Int) + 4).toNat = 6 * l + 4 := by omega
  have z5 : (6 * (l : Int) + 5).toNat = 6 * l + 5 := by omega
  obtain ⟨x0, x1, x2, x3, x4, x5⟩ := hx
  obtain ⟨f1, f2, f3, f4, f5, f6, f7, f8, f9, f10, f11, f12, f13, f14, f15, f16, f17, f18, f19, f20⟩ := hf
  obtain ⟨a, ha⟩ := Int.eq_ofNat_of_zero_le f1
  obtain ⟨q, hq⟩ := Int.eq_ofNat_of_zero_le (show 0 ≤ lv (12 * l + 2) by omega)
  obtain ⟨n1, n2⟩ := hX
  rw [ha, hq, Int.toNat_natCast, Int.toNat_natCast] at n1
  unfold wpL_empty
  rw [z0, z1, z2, z3, z4, z5, x0, x1, x2, x3, x4, x5, ha, hq]
  refine ⟨by omega, by omega, inR_of (by omega), fun c => ⟨by omega, by omega, by omega, by omega, by omega, by omega, by omega, by omega, by omega, by omega, u_natural R Gr (by omega) ?_⟩, fun c => ?_⟩
  · rw [if_pos (by omega)] at f18
    rw [show st 0 - lv (12 * l + 7) + lv (12 * l + 5) + lv (12 * l + 6) - nt (cW bd ah bh) a q = lv (12 * l + 11) by omega]
    exact h
  · rw [if_neg (by omega)] at f18
    rw [f18] at h
    exact h
theorem u_uneven (R : RS n lt ln bd ah bh en st sh ms) (Gr : G26 n lt ln ah bh en st sh g e) {x y lv : Nat → Int} {L : Nat} {post : Int → Prop} (hL : L ≤ 10) (hx : ∀ l : Nat, l < L → XM x lv l) (hf : ∀ l : Nat, l < L → LF n en lv l) (hX : ∀ l : Nat, l < L → LX (cW bd ah bh) st lv l) (hy : y 0 = (L : Int)) (h : post (sm (sqG lv) L)) : wpL_uneven g e x y (st 0) post := by
  have key : ∀ f i : Nat, i + f = L → wpL_uneven_6 g e x y post (f + 1) (st 0) (sm (sqG lv) i) (i : Int) := by
    intro f
    induction f with
    | zero =>
      intro i hi
      rw [show i = L by omega, wpL_uneven_6, hy]
      exact ⟨inR_of (by omega), inR_of (by omega), fun _ => h, fun c => absurd (Int.le_refl _) c⟩
    | succ f ih =>
      intro i hi
      have z0 : (6 * (i : Int)).toNat = 6 * i := by omega
      have z1 : (6 * (i : Int) + 1).toNat = 6 * i + 1 := by omega
      obtain ⟨x0, x1, -⟩ := hx i (by omega)
      obtain ⟨f1, f2, f3, f4, f5, f6, f7, f8, f9, f10, f11, f12, f13, f14, f15, f16, f17, -⟩ := hf i (by omega)
      have h1 := ih (i + 1) (by omega)
      rw [show sm (sqG lv) (i + 1) = sm (sqG lv) i + sqG lv i from rfl, show ((i + 1 : Nat) : Int) = (i : Int) + 1 by omega] at h1
      have hs : sqG lv i = if lv (12 * i + 10) = 0 then lv (12 * i + 11) * lv (12 * i + 11) else 0 := rfl
      rw [hs] at h1
      have p01 := pe_01 n en (lv (12 * i + 1) + lv (12 * i + 2) - 1)
      rw [wpL_uneven_6, hy]
      refine ⟨inR_of (by omega), inR_of (by omega), fun c => absurd c (by omega), fun _ => u_empty R Gr (by omega) (hx i (by omega)) (hf i (by omega)) (hX i (by omega)) ?_⟩
      rw [z0, z1, x0, x1]
      refine ⟨by omega, by omega, by omega, by omega, u_closes R Gr (by omega) (by omega) ?_⟩
      rw [← f17] at p01 ⊢
      unfold wpL_uneven_64
      refine ⟨inR_of (by omega), fun c => ?_, fun c => ?_⟩
      · rw [if_pos c] at h1
        exact h1
      · rw [if_neg c] at h1
        exact h1
  exact ⟨L + 1, key L 0 (by omega)⟩
variable {sg : OS} {L P : Nat} {lv pv lo x y : Nat → Int} {post : Int → (Nat → Int) → (Nat → Int) → Prop}
theorem u_562 (R : RS n lt ln bd ah bh en st sh ms) (Gr : G26 n lt ln ah bh en st sh g e) (Q : Reads sg n ln bd ah bh en st sh L P lv pv) {l a q : Nat} (hl : l < L) (hL : L ≤ 10) (h1 : lv (12 * l + 1) = (a : Int)) (h2 : lv (12 * l + 2) = (q : Int)) (hn : ((a + q : Nat) : Int) ≤ n) (hb5 : 0 ≤ lv (12 * l + 5) ∧ lv (12 * l + 5) ≤ 10) (hb0 : inR (lv (12 * l))) {k154 : K11} {v7 v8 v9 v10 dd : Int}
    (h : k154 x y n (sm (fun w => pe n en (w : Int)) (a + q)) v7 v8 v9 v10 1 dd ((l : Int) + 1)) :
    ∀ (f j : Nat), j + f = q → wpL_isSo_562 g e sg post k154 (f + 1) x y n (sm (fun w => pe n en (w : Int)) (a + j)) v7 v8 v9 v10 1 dd (l : Int) (lv (12 * l)) (a : Int) (q : Int) (-lv (12 * l + 5) + sr (fun v => cW bd ah bh v + 2) a j) ((a + j : Nat) : Int) := by
  have hn60 := R.2.2.1
  have hn10 := Gr.1
  intro f
  induction f with
  | zero =>
    intro j hj
    rw [show j = q by omega, wpL_isSo_562]
    refine ⟨inR_of (by omega), inR_of (by omega), fun _ => ?_, fun c => absurd (by omega) c⟩
    unfold wpL_isSo_765
    exact h
  | succ f ih =>
    intro j hj
    have hw : ((a + j : Nat) : Int) < n := by omega
    have hr := Q.1 l a (a + j) hl h1 (by omega) (by rw [h1, h2]; omega)
    obtain ⟨c1, c2, c3, c4, -⟩ := Gr.2.2.2.2 (a + j) hw
    obtain ⟨b1, b2, -, -, -, -, b7, b8, b9, b10, -⟩ := R.2.2.2.2.2.2.2 (a + j) hw
    have ben := R.2.2.2.2.2.2.1 (a + j) (by omega)
    have bcw := cW_bd R.okw hw
    have bsr := sr_bd (g := fun v => cW bd ah bh v + 2) (a := a) (lo := 0) (hi := 80) j (fun i h3 h4 => by
      have := cW_bd R.okw (w := i) (by omega)
      show 0 ≤ cW bd ah bh i + 2 ∧ cW bd ah bh i + 2 ≤ 80
      omega)
    have z1 : (5 * ((a + j : Nat) : Int) + 1).toNat = 5 * (a + j) + 1 := by omega
    have z2 : (5 * ((a + j : Nat) : Int) + 2).toNat = 5 * (a + j) + 2 := by omega
    have z3 : (5 * ((a + j : Nat) : Int) + 3).toNat = 5 * (a + j) + 3 := by omega
    have z4 : (5 * ((a + j : Nat) : Int) + 4).toNat = 5 * (a + j) + 4 := by omega
    have he : eg bd ah bh lv l a (a + j) = -lv (12 * l + 5) + sr (fun v => cW bd ah bh v + 2) a j := by
      unfold eg
      rw [Nat.add_sub_cancel_left]
    have h3 := ih (j + 1) (by omega)
    rw [show sm (fun w => pe n en (w : Int)) (a + (j + 1)) = sm (fun w => pe n en (w : Int)) (a + j) + pe n en ((a + j : Nat) : Int) from rfl, show sr (fun v => cW bd ah bh v + 2) a (j + 1) = sr (fun v => cW bd ah bh v + 2) a j + (cW bd ah bh (a + j) + 2) from rfl, show ((a + (j + 1) : Nat) : Int) = ((a + j : Nat) : Int) + 1 by omega,
      show -lv (12 * l + 5) + (sr (fun v => cW bd ah bh v + 2) a j + (cW bd ah bh (a + j) + 2)) = -lv (12 * l + 5) + sr (fun v => cW bd ah bh v + 2) a j + (cW bd ah bh (a + j) + 2) by omega] at h3
    have fin : wpL_isSo_724 g e sg post k154 (wpL_isSo_562 g e sg post k154 (f + 1)) x y n (sm (fun w => pe n en (w : Int)) (a + j)) v7 v8 v9 v10 dd (l : Int) (lv (12 * l)) (a : Int) (q : Int) (-lv (12 * l + 5) + sr (fun v => cW bd ah bh v + 2) a j) ((a + j : Nat) : Int) 1 := by
      unfold wpL_isSo_724
      refine u_width R Gr hw (u_closes R Gr (by omega) hw ?_)
      unfold wpL_isSo_756
      rcases pe_01 n en ((a + j : Nat) : Int) with hp | hp
      · rw [hp] at h3 ⊢
        exact ⟨inR_lit rfl, fun _ => h3, fun c => absurd rfl c⟩
      · rw [hp] at h3 ⊢
        exact ⟨inR_lit rfl, fun c => absurd c (by decide), fun _ => h3⟩
    rw [wpL_isSo_562, z1, z2, z3, z4, c1, c2, c3, c4]
    refine ⟨inR_of (by omega), inR_of (by omega), fun c => absurd c (by omega), fun _ => ⟨inR_lit rfl, fun c => absurd c (by decide), fun _ => ?_⟩⟩
    refine (hr _).1 ⟨by omega, by omega, cmp2 rfl (inR_of (by omega)) ?_⟩
    refine (hr _).2.1 (u_width R Gr hw (cmp2 rfl (inR_of (by omega)) ?_))
    refine (hr _).2.2.1 ⟨by omega, by omega, cmp2 rfl (inR_of (by omega)) ?_⟩
    refine (hr _).2.2.2.1 ⟨by omega, by omega, cmp2 rfl (inR_of (by omega)) ?_⟩
    refine (hr _).2.2.2.2.1 ⟨by omega, by omega, cmp2 rfl (inR_of (by omega)) ?_⟩
    refine (hr _).2.2.2.2.2.1 (cmp2 rfl (inR_of (by omega)) ?_)
    refine (hr _).2.2.2.2.2.2.1 (cmp2 rfl (inR_of (by omega)) ?_)
    refine (hr _).2.2.2.2.2.2.2.1 (cmp2 rfl hb0 ?_)
    refine (hr _).2.2.2.2.2.2.2.2 (cmp2 he (inR_of (by rw [he]; omega)) fin)
theorem u_245 (R : RS n lt ln bd ah bh en st sh ms) (Gr : G26 n lt ln ah bh en st sh g e) (Q : Reads sg n ln bd ah bh en st sh L P lv pv) {l a q : Nat} (hl : l < L) (hL : L ≤ 10) (h1 : lv (12 * l + 1) = (a : Int)) (h2 : lv (12 * l + 2) = (q : Int)) (hf : LF n en lv l) (hX : LX (cW bd ah bh) st lv l) (hxm : XM x lv l) (hb0 : 0 ≤ lv (12 * l) ∧ lv (12 * l) ≤ 10) {k154 : K11} {v7 v8 v9 v10 w0 : Int} (hw0 : lv (12 * l + 8) = w0 + (lv (12 * l + 5) + lv (12 * l + 6)) - lv (12 * l + 7))
    (h : k154 x y n (sm (fun w => pe n en (w : Int)) (a + q)) (v7 + lendG lv l) (v8 + lv (12 * l + 9)) (v9 + (lv (12 * l + 5) + lv (12 * l + 6))) (v10 + lv (12 * l + 11)) 1 (lv (12 * l + 8)) ((l : Int) + 1)) :
    wpL_isSo_245 g e sg post k154 x y n (sm (fun w => pe n en (w : Int)) a) v7 v8 v9 v10 (l : Int) (6 * (l : Int)) (lv (12 * l)) (a : Int) (q : Int) (st 0 - lv (12 * l + 7)) w0 := by
  have hf0 := hf
  have hx0 := hxm
  obtain ⟨x0, x1, x2, x3, x4, x5⟩ := hxm
  obtain ⟨f1, f2, f3, f4, f5, f6, f7, f8, f9, f10, f11, f12, f13, f14, f15, f16, f17, f18, f19, f20⟩ := hf
  have hn10 := Gr.1
  have e0 := Gr.2.2.1 0 (by omega)
  have z2 : (6 * (l : Int) + 2).toNat = 6 * l + 2 := by omega
  have z3 : (6 * (l : Int) + 3).toNat = 6 * l + 3 := by omega
  have z4 : (6 * (l : Int) + 4).toNat = 6 * l + 4 := by omega
  have z5 : (6 * (l : Int) + 5).toNat = 6 * l + 5 := by omega
  have hnt : lv (12 * l + 3) = nt (cW bd ah bh) a q := by
    have := hX.1
    rw [h1, h2, Int.toNat_natCast, Int.toNat_natCast] at this
    exact this
  have key501 : ∀ c : Int, c = lendG lv l → wpL_isSo_501 g e sg post k154 x y n (sm (fun w => pe n en (w : Int)) a) v8 v9 v10 1 (lv (12 * l + 8)) (l : Int) (6 * (l : Int)) (lv (12 * l)) (a : Int) (q : Int) c v7 := by
    intro c hc
    unfold wpL_isSo_501
    rw [z2, z3, z5, x2, x3, x5, e0]
    refine ⟨by omega, by omega, by omega, by omega, by omega, by omega, u_empty R Gr (by omega) hx0 hf0 hX ⟨by omega, by omega, q + 1, ?_⟩⟩
    rw [hc]
    have h9 := u_562 (g := g) (e := e) (post := post) R Gr Q hl hL h1 h2 (by omega) ⟨f8, f9⟩ (inR_of (by omega)) h q 0 (by omega)
    rw [show sr (fun v => cW bd ah bh v + 2) a 0 = 0 from rfl, Int.add_zero, Nat.add_zero] at h9
    exact h9
  have k446 : ∀ c : Int, c = lv (12 * l + 10) → wpL_isSo_446 g e sg post k154 x y n (sm (fun w => pe n en (w : Int)) a) v7 v8 v9 v10 (lv (12 * l + 8)) (l : Int) (6 * (l : Int)) (lv (12 * l)) (a : Int) (q : Int) c (lv (12 * l + 10)) := by
    intro c hc
    have p01 := pe_01 n en (lv (12 * l + 1) + lv (12 * l + 2) - 1)
    rw [← f17] at p01
    unfold wpL_isSo_446
    rw [e0]
    refine cmp2 hc.symm (inR_of (by omega)) (Q.2.1 l 11 _ hl (by decide) (u_empty R Gr (by omega) hx0 hf0 hX (cmp2 rfl (inR_of (by omega)) ?_)))
    unfold wpL_isSo_476
    rw [z2, z3, x2, x3]
    exact ⟨by omega, by omega, by omega, by omega, inR_of (by omega), fun c => key501 0 (by unfold lendG; rw [if_pos c]), fun c => key501 1 (by unfold lendG; rw [if_neg c])⟩
  have hpe : pe n en ((a : Int) + (q : Int) - 1) = lv (12 * l + 10) := by rw [f17, h1, h2]
  have p01 := pe_01 n en ((a : Int) + (q : Int) - 1)
  rw [hpe] at p01
  unfold wpL_isSo_245
  rw [z2, z3, z4, z5, x2, x3, x4, x5, show w0 + lv (12 * l + 5) + lv (12 * l + 6) - lv (12 * l + 7) = lv (12 * l + 8) by omega]
  refine ⟨by omega, by omega, by omega, by omega, by omega, by omega, u_closes R Gr (by omega) (by omega) ?_⟩
  rw [hpe]
  refine Q.2.1 l 0 _ hl (by decide) (cmp2 rfl (inR_of (by rw [Nat.add_zero]; omega)) ?_)
  refine Q.2.1 l 1 _ hl (by decide) (cmp2 h1 (inR_of (by omega)) ?_)
  refine Q.2.1 l 2 _ hl (by decide) (cmp2 h2 (inR_of (by omega)) ?_)
  refine Q.2.1 l 3 _ hl (by decide) (u_natural R Gr (by omega) (cmp2 hnt (inR_of (by omega)) ?_))
  refine Q.2.1 l 4 _ hl (by decide) (cmp2 hX.2 (inR_of (by omega)) ?_)
  refine Q.2.1 l 5 _ hl (by decide) ⟨by omega, by omega, cmp2 rfl (inR_of (by omega)) ?_⟩
  refine Q.2.1 l 6 _ hl (by decide) ⟨by omega, by omega, cmp2 rfl (inR_of (by omega)) ?_⟩
  refine Q.2.1 l 7 _ hl (by decide) ⟨by omega, by omega, cmp2 rfl (inR_of (by omega)) ?_⟩
  refine Q.2.1 l 8 _ hl (by decide) (cmp2 rfl (inR_of (by omega)) ?_)
  refine Q.2.1 l 9 _ hl (by decide) ⟨by omega, by omega, cmp2 rfl (inR_of (by omega)) ?_⟩
  refine Q.2.1 l 10 _ hl (by decide) ⟨inR_of (by omega), fun c => k446 0 c.symm, fun c => k446 1 (by omega)⟩
theorem u_154 (R : RS n lt ln bd ah bh en st sh ms) (Gr : G26 n lt ln ah bh en st sh g e) (Q : Reads sg n ln bd ah bh en st sh L P lv pv) (K : LOK n en L n lv lo) (hX : ∀ l : Nat, l < L → LX (cW bd ah bh) st lv l ∧ DB lv l) (hP0 : ∀ l : Nat, l < L → 0 ≤ lv (12 * l) ∧ lv (12 * l) < (P : Int)) (hPL : P ≤ L) (hL : L ≤ 10) (hW : LwI lv x y L P)
    (h : wpL_isSo_771 g e sg post x y n (sm (fun w => pe n en (w : Int)) n.toNat) (sm (lendG lv) L) (sm (fun l => lv (12 * l + 9)) L) (sm (fun l => lv (12 * l + 5) + lv (12 * l + 6)) L) (sm (fun l => lv (12 * l + 11)) L) 1) :
    ∀ (f i B : Nat), i + f = L → (i < L → lv (12 * i + 1) = (B : Int)) → (i = L → (B : Int) = n) → ∀ dd : Int, (∀ i0 : Nat, i = i0 + 1 → dd = lv (12 * i0 + 8)) → wpL_isSo_154 g e sg post (f + 1) x y n (sm (fun w => pe n en (w : Int)) B) (sm (lendG lv) i) (sm (fun l => lv (12 * l + 9)) i) (sm (fun l => lv (12 * l + 5) + lv (12 * l + 6)) i) (sm (fun l => lv (12 * l + 11)) i) 1 dd (i : Int) := by
  obtain ⟨w1, w2, w3, w4⟩ := hW
  have e0 := Gr.2.2.1 0 (by omega)
  intro f
  induction f with
  | zero =>
    intro i B hi b1 b2 dd hd
    have ei : i = L := by omega
    have eB : B = n.toNat := by have := b2 ei; omega
    rw [ei, eB, wpL_isSo_154, w2]
    exact ⟨inR_of (by omega), inR_of (by omega), fun _ => h, fun c => absurd (Int.le_refl _) c⟩
  | succ f ih =>
    intro i B hi b1 b2 dd hd
    have hf := K.2.2.1 i (by omega)
    have b1 := b1 (by omega)
    have k4 := K.2.2.2.1 i
    have k7 := K.2.2.2.2.2.2.1 i
    have hdb := (hX i (by omega)).2
    have hp := hP0 i (by omega)
    have hp1 := hP0 (i - 1) (by omega)
    have hxm := w1 i (by omega)
    obtain ⟨x0, x1, -, -, x4, -⟩ := w1 i (by omega)
    obtain ⟨q, hq⟩ := Int.eq_ofNat_of_zero_le (show 0 ≤ lv (12 * i + 2) by have := hf.2.1; omega)
    have h3 := ih (i + 1) (B + q) (by omega) (fun c => by have := k4 c; omega) (fun c => by have := k7 c; omega) (lv (12 * i + 8)) (fun i0 c => by rw [show i0 = i by omega])
    rw [show sm (lendG lv) (i + 1) = sm (lendG lv) i + lendG lv i from rfl, show sm (fun l => lv (12 * l + 9)) (i + 1) = sm (fun l => lv (12 * l + 9)) i + lv (12 * i + 9) from rfl, show sm (fun l => lv (12 * l + 5) + lv (12 * l + 6)) (i + 1) = sm (fun l => lv (12 * l + 5) + lv (12 * l + 6)) i + (lv (12 * i + 5) + lv (12 * i + 6)) from rfl,
      show sm (fun l => lv (12 * l + 11)) (i + 1) = sm (fun l => lv (12 * l + 11)) i + lv (12 * i + 11) from rfl, show ((i + 1 : Nat) : Int) = (i : Int) + 1 by omega] at h3
    have m245 := fun (w0 : Int) (hw0 : lv (12 * i + 8) = w0 + (lv (12 * i + 5) + lv (12 * i + 6)) - lv (12 * i + 7)) => u_245 (g := g) (e := e) (post := post) R Gr Q (by omega) hL b1 hq hf (hX i (by omega)).1 hxm ⟨hp.1, by omega⟩ hw0 h3
    have y1 : ¬ (i : Int) = 0 → y (1 + i) = lv (12 * (i - 1)) := fun c => by
      have := w4 (i - 1) (by omega)
      rw [show 2 + (i - 1) = 1 + i by omega] at this
      exact this
    have zy2 : (2 + (i : Int)).toNat = 2 + i := by omega
    have zy1 : (1 + (i : Int)).toNat = 1 + i := by omega
    have z0 : (6 * (i : Int)).toNat = 6 * i := by omega
    have z1 : (6 * (i : Int) + 1).toNat = 6 * i + 1 := by omega
    have z4 : (6 * (i : Int) + 4).toNat = 6 * i + 4 := by omega
    unfold DB at hdb
    rw [wpL_isSo_154, w2, zy2, zy1, z0, z1, z4, x0, x1, x4, w4 i (by omega), b1, hq, e0]
    refine ⟨inR_of (by omega), inR_of (by omega), fun c => absurd c (by omega), fun _ => ⟨inR_lit rfl, fun c => absurd c (by decide), fun _ => ⟨by omega, by omega, by omega, by omega, by omega, by omega, by omega, by omega, inR_of (by omega), fun c => ?_, fun c => ⟨by omega, by omega, inR_of (by rw [y1 c]; omega), inR_of (by omega), fun c2 => ?_, fun c2 => ?_⟩⟩⟩⟩
    · unfold wpL_isSo_227 wpL_isSo_232
      rw [if_neg (by omega)] at hdb
      exact ⟨inR_lit rfl, fun z => absurd z (by decide), fun _ => m245 0 hdb⟩
    · unfold wpL_isSo_232
      rw [y1 c] at c2
      rw [if_pos ⟨by omega, c2⟩, ← hd (i - 1) (by omega)] at hdb
      exact ⟨inR_lit rfl, fun _ => m245 dd hdb, fun z => absurd rfl z⟩
    · unfold wpL_isSo_227 wpL_isSo_232
      rw [y1 c] at c2
      rw [if_neg (fun z => c2 z.2)] at hdb
      exact ⟨inR_lit rfl, fun z => absurd z (by decide), fun _ => m245 0 hdb⟩
end Lines26
