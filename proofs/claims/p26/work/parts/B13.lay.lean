/-! Lines and pages: the class's tables and the law's, side by side. -/
theorem tS_eq (st : Nat → Int) : updI (updI (updI st 0 (st 0)) 2 (st 2)) 3 (st 3) = st := by
  funext j
  unfold updI
  by_cases c3 : j = 3
  · rw [if_pos c3, c3]
  · rw [if_neg c3]
    by_cases c2 : j = 2
    · rw [if_pos c2, c2]
    · rw [if_neg c2]
      by_cases c0 : j = 0
      · rw [if_pos c0, c0]
      · rw [if_neg c0]
/-- further facts of a line -/
def LX (W t lv : Nat → Int) (l : Nat) : Prop := lv (12 * l + 3) = nt W (lv (12 * l + 1)).toNat (lv (12 * l + 2)).toNat ∧ lv (12 * l + 4) = t 0 - lv (12 * l + 7)
def DB (lv : Nat → Int) (l : Nat) : Prop := lv (12 * l + 8) = (if 0 < l ∧ lv (12 * (l - 1)) = lv (12 * l) then lv (12 * (l - 1) + 8) else 0) + (lv (12 * l + 5) + lv (12 * l + 6)) - lv (12 * l + 7)
def XM (x lv : Nat → Int) (l : Nat) : Prop := x (6 * l) = lv (12 * l + 1) ∧ x (6 * l + 1) = lv (12 * l + 2) ∧ x (6 * l + 2) = lv (12 * l + 5) ∧ x (6 * l + 3) = lv (12 * l + 6) ∧ x (6 * l + 4) = lv (12 * l + 7) ∧ x (6 * l + 5) = lv (12 * l + 9)
theorem LX.cong {W t lv lv' : Nat → Int} {l : Nat} (h : ∀ j : Nat, j < 12 * (l + 1) → lv' j = lv j) (hx : LX W t lv l) : LX W t lv' l := by
  unfold LX at hx ⊢
  rw [h _ (by omega), h _ (by omega), h _ (by omega), h _ (by omega), h _ (by omega)]
  exact hx
theorem DB.cong {lv lv' : Nat → Int} {l : Nat} (h : ∀ j : Nat, j < 12 * (l + 1) → lv' j = lv j) (hx : DB lv l) : DB lv' l := by
  unfold DB at hx ⊢
  rw [h (12 * l + 8) (by omega), h (12 * (l - 1)) (by omega), h (12 * l) (by omega), h (12 * (l - 1) + 8) (by omega), h (12 * l + 5) (by omega), h (12 * l + 6) (by omega), h (12 * l + 7) (by omega)]
  exact hx
theorem XM.cong {x x' lv lv' : Nat → Int} {l : Nat} (h : ∀ j : Nat, j < 12 * (l + 1) → lv' j = lv j) (hx' : ∀ j : Nat, j < 6 * (l + 1) → x' j = x j) (hx : XM x lv l) : XM x' lv' l := by
  unfold XM at hx ⊢
  rw [h _ (by omega), h _ (by omega), h _ (by omega), h _ (by omega), h _ (by omega), h _ (by omega), hx' _ (by omega), hx' _ (by omega), hx' _ (by omega), hx' _ (by omega), hx' _ (by omega), hx' _ (by omega)]
  exact hx
theorem rwOf_nt {n : Int} {bd ah bh en sh t : Nat → Int} (H : OKw n bd ah bh en sh) {a : Nat} {debt later : Int} (ha : (a : Int) < n) : (rwOf n bd ah bh en sh t a debt later).2.1 = nt (cW bd ah bh) a (rwOf n bd ah bh en sh t a debt later).1.toNat := by
  have hn := H.2.1
  have hen : ∀ w : Nat, (w : Int) < n → en w = 0 ∨ en w = 1 := fun w hw => (H.2.2.1 w hw).2.2.2.2.2.2
  obtain ⟨D, d1, d2, d3, d4⟩ := ex_D (n := n) (en := en) (n - a - 1).toNat a (by omega)
  have hl := rowGo_last (n := n) (W := cW bd ah bh) (RO := cR sh bh (t 3)) (E := en) (own := t 0 - (if t 4 < debt then t 4 else debt)) (left := if t 2 < ov sh (ah a) then t 2 else ov sh (ah a)) (dl := debt - (if t 4 < debt then t 4 else debt)) (lim := t 4 * later) (a := a) (D := D) d2 (fun p h1 => pe_zero (hen _ (by omega)) (d3 p h1)) (fun p h1 => pe_one (d4 p h1)) n.toNat 0 0 (1, cW bd ah bh a, 0, 0, 1) (by omega) (by omega) (by simp [sr])
  rw [Nat.add_zero] at hl
  unfold rwOf
  rcases hl with ⟨p, -, -, -, -, q⟩ | ⟨-, q⟩
  · rw [q]
    unfold resq
    show nt (cW bd ah bh) a (p + 1) = nt (cW bd ah bh) a ((p : Int) + 1).toNat
    rw [show ((p : Int) + 1).toNat = p + 1 by omega]
  · rw [q]
    show cW bd ah bh a = nt (cW bd ah bh) a (1 : Int).toNat
    rw [show (1 : Int).toNat = 0 + 1 from rfl, nt_succ]
    simp [sr]
section Lay
variable {n : Int} {lt ln bd ah bh en st sh ms g e : Nat → Int}
abbrev LK : Type := (Nat → Int) → (Nat → Int) → (Nat → Int) → Int → Int → Int → Int → Int → Prop
theorem u_237 {post : (Nat → Int) → (Nat → Int) → Prop} {K : LK} {x y z : Nat → Int} {L P : Nat} (hP : P < 10) (hL : 1 ≤ L ∧ L ≤ 10) {tk next : Int} (htk : tk = 0 ∨ tk = 1) (hy0 : y 0 = (L : Int)) (hy1 : y 1 = (P : Int)) (hyp : y (12 + P) = tk)
    (h : ∀ y' : Nat → Int, y' 0 = (L : Int) - tk → y' 1 = (P : Int) + 1 → (∀ j : Nat, 2 ≤ j → y' j = y j) → K x y' z (st 0) 1 (if tk = 1 then x (6 * (L - 1)) else next) 0 0) :
    wpL_lay_237 g e post K x y z (st 0) 1 next (6 * ((L : Int) - 1)) := by
  unfold wpL_lay_237 wpL_lay_266 wpL_lay_280
  rw [hy1, show (12 + (P : Int)).toNat = 12 + P by omega, hyp]
  refine ⟨by omega, by omega, inR_of (by omega), fun c => ?_, fun c => ?_⟩
  · rw [if_neg c] at h
    refine h _ ?_ ?_ (fun j hj => ?_)
    · rw [updI_ne (by omega), hy0]; omega
    · rw [updI_eq rfl]
    · rw [updI_ne (by omega)]
  · rw [if_pos c] at h
    rw [show (6 * ((L : Int) - 1)).toNat = 6 * (L - 1) by omega]
    refine ⟨by omega, by omega, ?_⟩
    rw [show updI y 0 (y 0 - 1) 1 = y 1 from updI_ne (by omega), hy1, hy0]
    refine h _ ?_ ?_ (fun j hj => ?_)
    · rw [updI_ne (by omega), updI_eq rfl, c]
    · rw [updI_eq rfl]
    · rw [updI_ne (by omega), updI_ne (by omega)]
/-- the end of a page in the law -/
theorem u_140 (R : RS n lt ln bd ah bh en st sh ms) (Gr : G26 n lt ln ah bh en st sh g e) {post : (Nat → Int) → (Nat → Int) → Prop} {K : LK} {x y z : Nat → Int} {L P next : Nat} {k tk : Int} (hP : P < 10) (hL : 1 ≤ L ∧ L ≤ 10) (hk : 0 ≤ k ∧ k ≤ 20) (hn1 : 1 ≤ next ∧ (next : Int) ≤ n) (hy0 : y 0 = (L : Int)) (hy1 : y 1 = (P : Int))
    (htk : tk = if k = st 1 ∧ (next : Int) < n ∧ st 5 = 1 ∧ pe n en ((next : Int) - 1) = 0 then pe n en ((next : Int) + (rwOf n bd ah bh en sh st next 0 (st 1 - 1)).1 - 1) else 0)
    (h : ∀ y' z' : Nat → Int, y' 0 = (L : Int) - tk → y' 1 = (P : Int) + 1 → y' (12 + P) = tk → (∀ j : Nat, 2 ≤ j → j ≠ 12 + P → y' j = y j) → K x y' z' (st 0) 1 (if tk = 1 then x (6 * (L - 1)) else (next : Int)) 0 0) :
    wpL_lay_140 g e post K x y z (st 0) 1 (next : Int) k (6 * ((L : Int) - 1)) := by
  have T := R.2.2.2.2.2.1
  obtain ⟨t0, t0', t1, t1', t2, t2', t3, t3', t4, t4', t5⟩ := R.2.2.2.2.2.1
  have e1 := Gr.2.2.1 1 (by omega)
  have e5 := Gr.2.2.1 5 (by omega)
  have e14 := Gr.2.1
  have hn := R.2.2.1
  have z12 : (12 + (P : Int)).toNat = 12 + P := by omega
  have yb : updI y (12 + P) 0 0 = (L : Int) := (updI_ne (by omega)).trans hy0
  have yc : updI y (12 + P) 0 1 = (P : Int) := (updI_ne (by omega)).trans hy1
  have no : ∀ z' : Nat → Int, tk = 0 → wpL_lay_237 g e post K x (updI y (12 + P) 0) z' (st 0) 1 (next : Int) (6 * ((L : Int) - 1)) := by
    intro z' h0
    refine u_237 hP hL (Or.inl rfl) yb yc (updI_eq rfl) (fun y' a1 a2 a3 => ?_)
    rw [h0] at h
    refine h y' z' a1 a2 ?_ (fun j hj hj2 => (a3 j hj).trans (updI_ne hj2))
    rw [a3 _ (by omega), updI_eq rfl]
  unfold wpL_lay_140
  rw [hy1, z12, e1, e14, e5]
  refine ⟨by omega, by omega, inR_of (by omega), inR_of (by omega), fun c1 => no z ?_, fun c1 => ⟨inR_of (by omega), inR_of (by omega), fun c2 => no z ?_, fun c2 => ⟨inR_of (by omega), fun c3 => no z ?_, fun c3 => u_closes R Gr (by omega) (by omega) ⟨?_, fun c4 => no z ?_, fun c4 => ?_⟩⟩⟩⟩
  · rw [htk, if_neg (fun q => c1 q.1)]
  · rw [htk, if_neg (fun q => absurd q.2.1 (by omega))]
  · rw [htk, if_neg (fun q => c3 q.2.2.1)]
  · have := pe_01 n en ((next : Int) - 1)
    exact inR_of (by omega)
  · rw [htk, if_neg (fun q => c4 q.2.2.2)]
  · have hnx : (next : Int) < n := by omega
    have hrow := u_rowz (L := 0) R Gr (by omega) hnx (debt := 0) (later := st 1 - 1) (ax := z) (post := fun z6 ax_6 => wpL_closes g e ((next : Int) + z6 - 1) (fun z7 => inR z7 ∧ (z7 = 0 → wpL_lay_236 g e post K x (updI y (12 + P) 0) ax_6 (st 0) 1 (next : Int) (6 * ((L : Int) - 1)) 0 (12 + (updI y (12 + P) 0) 1)) ∧ (¬ z7 = 0 → wpL_lay_236 g e post K x (updI y (12 + P) 0) ax_6 (st 0) 1 (next : Int) (6 * ((L : Int) - 1)) 1 (12 + (updI y (12 + P) 0) 1)))) ⟨by omega, by omega⟩ ⟨by omega, by omega⟩ (fun r x' hr _ _ => by
      have fa := rwOf_facts R.okw T (first := next) (debt := 0) (later := st 1 - 1) hnx (Int.le_refl 0)
      rw [← hr] at fa
      obtain ⟨f1, f2, -⟩ := fa
      have hv : tk = pe n en ((next : Int) + r.1 - 1) := by rw [htk, if_pos ⟨c1, hnx, c3, c4⟩, ← hr]
      have yes : ∀ w0 : Int, w0 = tk → wpL_lay_236 g e post K x (updI y (12 + P) 0) x' (st 0) 1 (next : Int) (6 * ((L : Int) - 1)) w0 (12 + (updI y (12 + P) 0) 1) := by
        intro w0 hw0
        unfold wpL_lay_236
        rw [yc, z12, hw0]
        refine ⟨by omega, by omega, u_237 hP hL (by rw [hv]; exact pe_01 _ _ _) ((updI_ne (by omega)).trans yb) ((updI_ne (by omega)).trans yc) (updI_eq rfl) (fun y' a1 a2 a3 => h y' x' a1 a2 ?_ (fun j hj hj2 => (a3 j hj).trans ((updI_ne hj2).trans (updI_ne hj2))))⟩
        rw [a3 _ (by omega), updI_eq rfl]
      refine u_closes R Gr (by omega) (by omega) ?_
      rw [← hv]
      rcases pe_01 n en ((next : Int) + r.1 - 1) with q | q <;> rw [← hv] at q
      · exact ⟨inR_of (by omega), fun _ => yes 0 q.symm, fun c => absurd q c⟩
      · exact ⟨inR_of (by omega), fun c => absurd c (by omega), fun _ => yes 1 q.symm⟩)
    rw [show 6 * ((0 : Nat) : Int) = 0 from rfl] at hrow
    exact hrow
theorem xrow_XM {x lv : Nat → Int} {L : Nat} {P first pays words nat own left right debt wide ends : Int} {r : RW} (hx : xrow x L first pays r) (hl : lineIs lv L P first words nat own left right pays debt wide ends) (e1 : r.1 = words) (e3 : r.2.2.1 = left) (e4 : r.2.2.2.1 = right) (e5 : r.2.2.2.2 = wide) : XM x lv L := by
  obtain ⟨c0, c1, c2, c3, c4, c5, c6, c7, c8, c9, -⟩ := hl
  obtain ⟨d0, d1, d2, d3, d4, d5⟩ := hx
  exact ⟨d0.trans c1.symm, d1.trans (e1.trans c2.symm), d2.trans (e3.trans c5.symm), d3.trans (e4.trans c6.symm), d4.trans c7.symm, d5.trans (e5.trans c9.symm)⟩
/-- what is common behind some lines of the page -/
def PgI (W st lv : Nat → Int) (F P L k : Nat) (debt : Int) : Prop := (∀ l : Nat, l < L → LX W st lv l ∧ DB lv l) ∧ (∀ l : Nat, F ≤ l → l < L → lv (12 * l) = (P : Int)) ∧ (∀ l : Nat, l < F → lv (12 * l) < (P : Int)) ∧ (k = 0 → debt = 0) ∧ (∀ l : Nat, l + 1 = L → 0 < k → debt = lv (12 * l + 8))
def LwI (lv x y : Nat → Int) (L P : Nat) : Prop := (∀ l : Nat, l < L → XM x lv l) ∧ y 0 = (L : Int) ∧ y 1 = (P : Int) ∧ ∀ l : Nat, l < L → y (2 + l) = lv (12 * l)
theorem pageSim26 (R : RS n lt ln bd ah bh en st sh ms) (Gr : G26 n lt ln ah bh en st sh g e) {F P : Nat} (hP : P < 10) :
    ∀ (f k L next : Nat) (debt : Int) (lv lo : Nat → Int), F + k = L → (k : Int) < st 1 → (next : Int) < n → n ≤ (next : Int) + f → 0 ≤ debt → debt ≤ 200 → LOK n en L (next : Int) lv lo → PgI (cW bd ah bh) st lv F P L k debt →
    ∃ (k' next' : Nat) (lv' lo' : Nat → Int), k < k' ∧ (k' : Int) ≤ st 1 ∧ (n ≤ (next' : Int) ∨ (k' : Int) = st 1) ∧ LOK n en (F + k') (next' : Int) lv' lo' ∧ (∀ j : Nat, j < 12 * L → lv' j = lv j) ∧ (∀ l : Nat, l < F + k' → LX (cW bd ah bh) st lv' l ∧ DB lv' l) ∧ (∀ l : Nat, F ≤ l → l < F + k' → lv' (12 * l) = (P : Int)) ∧
      (∀ (pv : Nat → Int) (post : Int → Int → Int → (Nat → Int) → (Nat → Int) → (Nat → Int) → Int → Int → Int → Int → Int → Int → Int → Int → Prop) (x1 x2 x3 x4 x5 x6 x7 x8 : Int), (∀ y1 y2 y3 y4 y5 y6 y7 y8 : Int, wpX1_fillPage_110 st n bd ah bh en sh post ((F + k' : Nat) : Int) (P : Int) lv' pv lo' y1 y2 y3 y4 y5 y6 y7 y8 (F : Int) (st 1) (next' : Int)) → ∃ n0 : Nat, wpX1_fillPage_22 st n bd ah bh en sh post n0 ((L : Nat) : Int) (P : Int) lv pv lo x1 x2 x3 x4 x5 x6 x7 x8 (F : Int) (st 1) ((next : Nat) : Int) debt ((k : Nat) : Int)) ∧
      (∀ m : Nat, ∃ n0 : Nat, ∀ (post : (Nat → Int) → (Nat → Int) → Prop) (x y z : Nat → Int), LwI lv x y L P → (∀ x' y' : Nat → Int, LwI lv' x' y' (F + k') P → (∀ j : Nat, 12 ≤ j → y' j = y j) → wpL_lay_140 g e post (wpL_lay_25 g e post m) x' y' z (st 0) 1 (next' : Int) (k' : Int) (6 * (((F + k' : Nat) : Int) - 1))) → wpL_lay_25 g e post n0 x y z (st 0) 1 (next : Int) debt (k : Int)) := by
  have T := R.2.2.2.2.2.1
  obtain ⟨t0, t0', t1, t1', t2, t2', t3, t3', t4, t4', t5⟩ := R.2.2.2.2.2.1
  have hn := R.2.2.1
  have hn10 := Gr.1
  have e1 := Gr.2.2.1 1 (by omega)
  have e14 := Gr.2.1
  have hpe := R.2.2.2.2.2.2.1
  intro f
  induction f with
  | zero => intro k L next debt lv lo _ _ h1 h2; omega
  | succ f ih =>
    intro k L next debt lv lo hk hkt hnx hf hd hd2 hL hI
    obtain ⟨i1, i2, i3, i4, i5⟩ := hI
    have hLn := hL.1
    have hL10 : L < 10 := by omega
    have hL60 : L < 60 := by omega
    have fa := rwOf_facts R.okw T (first := next) (debt := debt) (later := st 1 - 1 - (k : Int)) hnx hd
    have fn := rwOf_nt (t := st) R.okw (a := next) (debt := debt) (later := st 1 - 1 - (k : Int)) hnx
    obtain ⟨r, hr⟩ : ∃ r : RW, rwOf n bd ah bh en sh st next debt (st 1 - 1 - (k : Int)) = r := ⟨_, rfl⟩
    obtain ⟨pays, hpy⟩ : ∃ pays : Int, (if st 4 < debt then st 4 else debt) = pays := ⟨_, rfl⟩
    rw [hr, hpy] at fa
    rw [hr] at fn
    have hpd : 0 ≤ pays ∧ pays ≤ 10 ∧ pays ≤ debt := by rw [← hpy]; split <;> omega
    obtain ⟨f1, f2, f3, f4, f5, f6, f7, f8, f9, f10, f11⟩ := fa
    have hlim : st 4 * (st 1 - 1 - (k : Int)) ≤ 190 := by
      have h1 : st 4 * (st 1 - 1 - (k : Int)) ≤ 10 * (st 1 - 1 - (k : Int)) := Int.mul_le_mul_of_nonneg_right t4' (by omega)
      omega
    obtain ⟨q, hq⟩ := Int.eq_ofNat_of_zero_le (show 0 ≤ r.1 by omega)
    obtain ⟨lv1, hk1', hl1⟩ := line_ex lv L (P : Int) (next : Int) r.1 r.2.1 (st 0 - pays) r.2.2.1 r.2.2.2.1 pays (debt - pays + (r.2.2.1 + r.2.2.2.1)) r.2.2.2.2 (pe n en ((next : Int) + r.1 - 1))
    obtain ⟨lo1, hlo1⟩ := lo_ex lo (L : Int) (next : Int) ((next : Int) + r.1)
    have hLOK : LOK n en (L + 1) ((next + q : Nat) : Int) lv1 lo1 := by
      have h9 := hL.push f1 f2 (by omega) hk1' hl1 hlo1 ⟨f3, f4, by omega, by omega, f5, f6, f7, f8, hpd.1, hpd.2.1, by omega, by omega, f9, f10⟩
      rw [show ((next + q : Nat) : Int) = (next : Int) + r.1 by omega]
      exact h9
    obtain ⟨l0, l1, l2, l3, l4, l5, l6, l7, l8, l9, l10, l11⟩ := hl1
    have hl1 : lineIs lv1 L (P : Int) (next : Int) r.1 r.2.1 (st 0 - pays) r.2.2.1 r.2.2.2.1 pays (debt - pays + (r.2.2.1 + r.2.2.2.1)) r.2.2.2.2 (pe n en ((next : Int) + r.1 - 1)) := ⟨l0, l1, l2, l3, l4, l5, l6, l7, l8, l9, l10, l11⟩
    have old : ∀ j : Nat, j < 12 * L → lv1 j = lv j := fun j hj => hk1' j (Or.inl hj)
    have nLX : ∀ l : Nat, l < L + 1 → LX (cW bd ah bh) st lv1 l ∧ DB lv1 l := by
      intro l hl
      by_cases c : l < L
      · exact ⟨(i1 l c).1.cong (fun j hj => old j (by omega)), (i1 l c).2.cong (fun j hj => old j (by omega))⟩
      · have el : l = L := by omega
        subst el
        refine ⟨⟨?_, ?_⟩, ?_⟩
        · rw [l3, l1, l2, Int.toNat_natCast]
          exact fn
        · rw [l4, l7]
        · unfold DB
          rw [l8, l5, l6, l7, l0]
          by_cases ck : k = 0
          · have hF : l = F := by omega
            rw [if_neg (fun z => by
              have h1 := i3 (l - 1) (by omega)
              have h2 := old (12 * (l - 1)) (by omega)
              omega), i4 ck]
            omega
          · have h1 := i2 (l - 1) (by omega) (by omega)
            have h2 := old (12 * (l - 1)) (by omega)
            have h3 := i5 (l - 1) (by omega) (by omega)
            have h4 := old (12 * (l - 1) + 8) (by omega)
            rw [if_pos ⟨by omega, by omega⟩, h4, ← h3]
            omega
    have nPg : ∀ l : Nat, F ≤ l → l < L + 1 → lv1 (12 * l) = (P : Int) := by
      intro l hl1' hl2
      by_cases c : l < L
      · rw [old _ (by omega)]
        exact i2 l hl1' c
      · rw [show l = L by omega]
        exact l0
    have nI : PgI (cW bd ah bh) st lv1 F P (L + 1) (k + 1) (debt - pays + (r.2.2.1 + r.2.2.2.1)) := by
      refine ⟨nLX, nPg, fun l hl => ?_, fun z => absurd z (by omega), fun l hl _ => ?_⟩
      · rw [old _ (by omega)]
        exact i3 l hl
      · rw [show l = L by omega]
        exact l8.symm
    -- the class sets the line
    have cls : ∀ (n0 : Nat) (pv : Nat → Int) (post : Int → Int → Int → (Nat → Int) → (Nat → Int) → (Nat → Int) → Int → Int → Int → Int → Int → Int → Int → Int → Prop) (x1 x2 x3 x4 x5 x6 x7 x8 : Int), wpX1_fillPage_22 st n bd ah bh en sh post n0 ((L + 1 : Nat) : Int) (P : Int) lv1 pv lo1 r.1 r.2.1 (st 0 - pays) r.2.2.1 r.2.2.2.1 pays (debt - pays + (r.2.2.1 + r.2.2.2.1)) r.2.2.2.2 (F : Int) (st 1) ((next + q : Nat) : Int) (debt - pays + (r.2.2.1 + r.2.2.2.1)) ((k + 1 : Nat) : Int) → wpX1_fillPage_22 st n bd ah bh en sh post (n0 + 1) ((L : Nat) : Int) (P : Int) lv pv lo x1 x2 x3 x4 x5 x6 x7 x8 (F : Int) (st 1) ((next : Nat) : Int) debt ((k : Nat) : Int) := by
      intro n0 pv post x1 x2 x3 x4 x5 x6 x7 x8 h0
      rw [wpX1_fillPage_22]
      refine ⟨inR_of (by omega), inR_of (by omega), fun c => absurd c (by omega), fun _ => ⟨inR_of (by omega), inR_of (by omega), fun c => absurd c (by omega), fun _ => q2_choose R.okw T hnx ⟨hd, by omega⟩ ⟨by omega, by omega⟩ (fun r2 hr2 => ?_)⟩⟩
      rw [hr] at hr2
      have hr3 := hr2.symm
      subst hr3
      rw [hpy]
      refine q3_endsParagraph (by omega) (by omega) hn (hpe _ (by omega)) ?_
      refine q1_addLine hL60 f9 (pe_01 _ _ _) (by omega) f1 (by omega) (fun lv2 lo2 a1 a2 a3 => ?_)
      have e2 : lv2 = lv1 := lineIs_ext hk1' a1 hl1 a2
      have e3 : lo2 = lo1 := funext (fun w => (a3 w).trans (hlo1 w).symm)
      subst e2
      subst e3
      rw [show ((L + 1 : Nat) : Int) = (L : Int) + 1 by omega, show ((next + q : Nat) : Int) = (next : Int) + r.1 by omega, show ((k + 1 : Nat) : Int) = (k : Int) + 1 by omega] at h0
      exact h0
    -- the law sets the line
    have law : ∀ (n0 : Nat) (post : (Nat → Int) → (Nat → Int) → Prop) (x y z : Nat → Int), LwI lv x y L P →
        (∀ x' y' : Nat → Int, LwI lv1 x' y' (L + 1) P → (∀ j : Nat, 12 ≤ j → y' j = y j) →
          (((k : Int) + 1 = st 1 ∨ ((next + q : Nat) : Int) = n) → wpL_lay_140 g e post (wpL_lay_25 g e post n0) x' y' z (st 0) 1 ((next + q : Nat) : Int) ((k + 1 : Nat) : Int) (6 * (((L + 1 : Nat) : Int) - 1))) ∧
          (¬ ((k : Int) + 1 = st 1 ∨ ((next + q : Nat) : Int) = n) → wpL_lay_25 g e post n0 x' y' z (st 0) 1 ((next + q : Nat) : Int) (debt - pays + (r.2.2.1 + r.2.2.2.1)) ((k + 1 : Nat) : Int))) →
        wpL_lay_25 g e post (n0 + 1) x y z (st 0) 1 (next : Int) debt (k : Int) := by
      intro n0 post x y z hw h
      obtain ⟨w1, w2, w3, w4⟩ := hw
      rw [wpL_lay_25, w2, w3, e1, e14]
      refine ⟨inR_of (by omega), inR_of (by omega), fun c => absurd c (by omega), fun _ => ?_⟩
      rw [show st 1 - (k : Int) - 1 = st 1 - 1 - (k : Int) by omega]
      refine u_row R Gr hL10 hnx ⟨hd, by omega⟩ ⟨by omega, by omega⟩ (fun r2 x' hr2 ho hx => ?_)
      rw [hr] at hr2
      have hr3 := hr2.symm
      subst hr3
      rw [hpy] at hx
      have z2 : (2 + (L : Int)).toNat = 2 + L := by omega
      have y0 : updI y (2 + L) (P : Int) 0 = (L : Int) := (updI_ne (by omega)).trans w2
      have hW : LwI lv1 x' (updI (updI y (2 + L) (P : Int)) 0 ((L : Int) + 1)) (L + 1) P := by
        refine ⟨fun l hl => ?_, ?_, ?_, fun l hl => ?_⟩
        · by_cases c : l < L
          · exact (w1 l c).cong (fun j hj => old j (by omega)) (fun j hj => ho j (Or.inl (by omega)))
          · rw [show l = L by omega]
            exact xrow_XM hx hl1 rfl rfl rfl rfl
        · rw [updI_eq rfl]; omega
        · rw [updI_ne (by omega), updI_ne (by omega)]; exact w3
        · rw [updI_ne (by omega)]
          by_cases c : l < L
          · rw [updI_ne (by omega), w4 l c, old _ (by omega)]
          · rw [show l = L by omega, updI_eq rfl, l0]
      have hy : ∀ j : Nat, 12 ≤ j → updI (updI y (2 + L) (P : Int)) 0 ((L : Int) + 1) j = y j := fun j hj => (updI_ne (by omega)).trans (updI_ne (by omega))
      obtain ⟨hA, hB⟩ := h x' _ hW hy
      obtain ⟨d0, d1, d2, d3, d4, d5⟩ := hx
      rw [show ((next + q : Nat) : Int) = (next : Int) + r.1 by omega, show ((k + 1 : Nat) : Int) = (k : Int) + 1 by omega] at hA hB
      rw [show 6 * (((L + 1 : Nat) : Int) - 1) = 6 * (L : Int) by omega] at hA
      have hq1 : (next : Int) + r.1 ≤ n := f2
      rw [z2, y0, show (6 * (L : Int) + 2).toNat = 6 * L + 2 by omega, show (6 * (L : Int) + 3).toNat = 6 * L + 3 by omega, show (6 * (L : Int) + 4).toNat = 6 * L + 4 by omega, d2, d3, d4, show debt + (r.2.2.1 + r.2.2.2.1 - pays) = debt - pays + (r.2.2.1 + r.2.2.2.1) by omega]
      unfold wpL_lay_280
      exact ⟨by omega, by omega, by omega, by omega, by omega, by omega, by omega, by omega, inR_of (by omega), inR_of (by omega), fun c => hA (Or.inl c), fun c => ⟨inR_of (by omega), inR_of (by omega), fun c2 => hB (fun z => z.elim c c2), fun c2 => hA (Or.inr c2)⟩⟩
    by_cases hs : (k : Int) + 1 = st 1 ∨ ((next + q : Nat) : Int) = n
    · -- the page ends here
      refine ⟨k + 1, next + q, lv1, lo1, by omega, by omega, by omega, ?_, old, ?_, ?_, fun pv post x1 x2 x3 x4 x5 x6 x7 x8 hp => ?_, fun m => ⟨m + 1, fun post x y z hw h => ?_⟩⟩
      · rw [show F + (k + 1) = L + 1 by omega]; exact hLOK
      · rw [show F + (k + 1) = L + 1 by omega]; exact nLX
      · rw [show F + (k + 1) = L + 1 by omega]; exact nPg
      · rw [show F + (k + 1) = L + 1 by omega] at hp
        refine ⟨2, cls 1 pv post x1 x2 x3 x4 x5 x6 x7 x8 ?_⟩
        rw [wpX1_fillPage_22]
        refine ⟨inR_of (by omega), inR_of (by omega), fun _ => hp _ _ _ _ _ _ _ _, fun c => ⟨inR_of (by omega), inR_of (by omega), fun _ => hp _ _ _ _ _ _ _ _, fun c2 => absurd hs (by omega)⟩⟩
      · rw [show F + (k + 1) = L + 1 by omega] at h
        exact law m post x y z hw (fun x' y' h1 h2 => ⟨fun _ => h x' y' h1 h2, fun c => absurd hs c⟩)
    · obtain ⟨k', next', lv', lo', c1, c2, c3, c5, c6, c7, c8, c9, c10⟩ := ih (k + 1) (L + 1) (next + q) (debt - pays + (r.2.2.1 + r.2.2.2.1)) lv1 lo1 (by omega) (by omega) (by omega) (by omega) (by omega) (by omega) hLOK nI
      refine ⟨k', next', lv', lo', by omega, c2, c3, c5, fun j hj => (c6 j (by omega)).trans (old j hj), c7, c8, fun pv post x1 x2 x3 x4 x5 x6 x7 x8 hp => ?_, fun m => ?_⟩
      · obtain ⟨n0, h0⟩ := c9 pv post r.1 r.2.1 (st 0 - pays) r.2.2.1 r.2.2.2.1 pays (debt - pays + (r.2.2.1 + r.2.2.2.1)) r.2.2.2.2 hp
        exact ⟨n0 + 1, cls n0 pv post x1 x2 x3 x4 x5 x6 x7 x8 h0⟩
      · obtain ⟨n0, h0⟩ := c10 m
        exact ⟨n0 + 1, fun post x y z hw h => law n0 post x y z hw (fun x' y' h1 h2 => ⟨fun c => absurd c hs, fun _ => h0 post x' y' z h1 (fun x2 y2 h3 h4 => h x2 y2 h3 (fun j hj => (h4 j hj).trans (h2 j hj)))⟩)⟩
theorem fillSim26 (R : RS n lt ln bd ah bh en st sh ms) (Gr : G26 n lt ln ah bh en st sh g e) {F P next : Nat} {lv lo : Nat → Int} (hPF : P ≤ F) (hnx : (next : Int) < n) (hL : LOK n en F (next : Int) lv lo) (hX : ∀ l : Nat, l < F → LX (cW bd ah bh) st lv l ∧ DB lv l) (hlt : ∀ l : Nat, l < F → lv (12 * l) < (P : Int)) :
    ∃ (L' next' : Nat) (lv' lo' : Nat → Int) (tk : Int), F < L' ∧ (tk = 0 ∨ tk = 1) ∧ LOK n en L' (next' : Int) lv' lo' ∧ (∀ j : Nat, j < 12 * F → lv' j = lv j) ∧ (∀ l : Nat, l < L' → LX (cW bd ah bh) st lv' l ∧ DB lv' l) ∧ (∀ l : Nat, F ≤ l → l < L' → lv' (12 * l) = (P : Int)) ∧
      (∀ (pv : Nat → Int) (post : Int → Int → Int → (Nat → Int) → (Nat → Int) → (Nat → Int) → Int → Int → Int → Int → Int → Int → Int → Int → Prop) (x1 x2 x3 x4 x5 x6 x7 x8 : Int), (∀ (pv' : Nat → Int) (y1 y2 y3 y4 y5 y6 y7 y8 : Int), pout pv pv' P → pageIs pv' lv' P F L' tk → post (next' : Int) (L' : Int) (P + 1) lv' pv' lo' y1 y2 y3 y4 y5 y6 y7 y8) → wpX1_fillPage (F : Int) (P : Int) lv pv lo st x1 x2 x3 x4 x5 x6 x7 x8 n bd ah bh en sh ((next : Nat) : Int) post) ∧
      (∀ m : Nat, ∃ n0 : Nat, ∀ (post : (Nat → Int) → (Nat → Int) → Prop) (x y z : Nat → Int), LwI lv x y F P → (∀ x' y' z' : Nat → Int, LwI lv' x' y' L' (P + 1) → y' (12 + P) = tk → (∀ j : Nat, 12 ≤ j → j ≠ 12 + P → y' j = y j) → wpL_lay_25 g e post m x' y' z' (st 0) 1 (next' : Int) 0 0) → wpL_lay_25 g e post n0 x y z (st 0) 1 (next : Int) 0 0) := by
  have T := R.2.2.2.2.2.1
  obtain ⟨t0, t0', t1, t1', t2, t2', t3, t3', t4, t4', t5⟩ := R.2.2.2.2.2.1
  have hn := R.2.2.1
  have hn10 := Gr.1
  have hen := R.2.2.2.2.2.2.1
  have hFn := hL.1
  have hP : P < 10 := by omega
  obtain ⟨k', nx, lv', lo', c1, c2, c3, c5, c6, c7, c8, c9, c10⟩ := pageSim26 R Gr (F := F) (P := P) hP n.toNat 0 F next 0 lv lo (by omega) (by omega) hnx (by omega) (by omega) (by omega) hL ⟨hX, fun l h1 h2 => absurd h2 (by omega), hlt, fun _ => rfl, fun l _ z => absurd z (by omega)⟩
  have hLn := c5.1
  have hLn2 := c5.2.1
  have hL60 : F + k' ≤ 60 := by omega
  have hlast := c5.2.2.2.2.2.2.1 (F + k' - 1) (by omega)
  have hLF := c5.2.2.1 (F + k' - 1) (by omega)
  have hend : lv' (12 * (F + k' - 1) + 10) = pe n en ((nx : Int) - 1) := by
    rw [hlast]
    exact hLF.2.2.2.2.2.2.2.2.2.2.2.2.2.2.2.2.1
  have hend01 := pe_01 n en ((nx : Int) - 1)
  have hnx0 : 0 < nx := by have := hLF.1; have := hLF.2.1; omega
  obtain ⟨tk, htk⟩ : ∃ tk : Int, tk = if (k' : Int) = st 1 ∧ (nx : Int) < n ∧ st 5 = 1 ∧ pe n en ((nx : Int) - 1) = 0 then pe n en ((nx : Int) + (rwOf n bd ah bh en sh st nx 0 (st 1 - 1)).1 - 1) else 0 := ⟨_, rfl⟩
  have tk01 : tk = 0 ∨ tk = 1 := by rw [htk]; split; exact pe_01 _ _ _; exact Or.inl rfl
  -- the class at the page's end
  have C : ∀ (pv : Nat → Int) (post : Int → Int → Int → (Nat → Int) → (Nat → Int) → (Nat → Int) → Int → Int → Int → Int → Int → Int → Int → Int → Prop) (y1 y2 y3 y4 y5 y6 y7 y8 : Int), (∀ (y1 y2 y3 y4 y5 y6 y7 y8 : Int), wpX1_fillPage_167 st n bd ah bh en sh post ((F + k' : Nat) : Int) (P : Int) lv' pv lo' y1 y2 y3 y4 y5 y6 y7 y8 (F : Int) (nx : Int) tk) → wpX1_fillPage_110 st n bd ah bh en sh post ((F + k' : Nat) : Int) (P : Int) lv' pv lo' y1 y2 y3 y4 y5 y6 y7 y8 (F : Int) (st 1) (nx : Int) := by
    intro pv post y1 y2 y3 y4 y5 y6 y7 y8 hp
    by_cases hg : (k' : Int) = st 1 ∧ (nx : Int) < n ∧ st 5 = 1 ∧ pe n en ((nx : Int) - 1) = 0
    · obtain ⟨g3, g1, g2, g4⟩ := hg
      rw [if_pos ⟨g3, g1, g2, g4⟩] at htk
      have fa := rwOf_facts R.okw T (first := nx) (debt := 0) (later := st 1 - 1) g1 (Int.le_refl 0)
      obtain ⟨r, hr⟩ : ∃ r : RW, rwOf n bd ah bh en sh st nx 0 (st 1 - 1) = r := ⟨_, rfl⟩
      rw [hr] at fa htk
      obtain ⟨f1, f2, -⟩ := fa
      unfold wpX1_fillPage_110
      refine ⟨inR_of (by omega), inR_of (by omega), fun z => absurd z (by omega), fun _ => q1_mayGiveBack T (by omega) hL60 (by rw [hend]; exact hend01) ?_⟩
      rw [hend, if_pos ⟨g2, by omega, g4⟩]
      refine ⟨inR_lit rfl, fun z => absurd z (by decide), fun _ => q2_choose R.okw T g1 ⟨by omega, by omega⟩ ⟨by omega, by omega⟩ (fun r2 hr2 => ?_)⟩
      rw [hr] at hr2
      have hr3 := hr2.symm
      subst hr3
      rw [htk] at hp
      exact q3_endsParagraph (by omega) (by omega) hn (hen _ (by omega)) (hp _ _ _ _ _ _ _ _)
    · rw [if_neg hg] at htk
      rw [htk] at hp
      unfold wpX1_fillPage_110
      refine ⟨inR_of (by omega), inR_of (by omega), fun _ => hp _ _ _ _ _ _ _ _, fun z => q1_mayGiveBack T (by omega) hL60 (by rw [hend]; exact hend01) ?_⟩
      rw [hend, if_neg (fun y => hg ⟨by have := y.2.1; omega, by omega, y.1, y.2.2⟩)]
      exact ⟨inR_lit rfl, fun _ => hp _ _ _ _ _ _ _ _, fun z => absurd rfl z⟩
  rcases tk01 with h0 | h1
  · refine ⟨F + k', nx, lv', lo', 0, by omega, Or.inl rfl, c5, fun j hj => c6 j hj, c7, c8, fun pv post x1 x2 x3 x4 x5 x6 x7 x8 hp => ?_, fun m => ?_⟩
    · exact c9 pv post x1 x2 x3 x4 x5 x6 x7 x8 (fun y1 y2 y3 y4 y5 y6 y7 y8 => C pv post _ _ _ _ _ _ _ _ (fun y1 y2 y3 y4 y5 y6 y7 y8 => by
        rw [h0]
        exact c1_167 (by omega) (by omega) hL60 rfl (fun pv' a b => hp pv' _ _ _ _ _ _ _ _ a b)))
    · obtain ⟨n0, hn0⟩ := c10 m
      refine ⟨n0, fun post x y z hw h => hn0 post x y z hw (fun x' y' w' hy => ?_)⟩
      obtain ⟨w1, w2, w3, w4⟩ := w'
      refine u_140 R Gr hP (by omega) (by omega) (by omega) w2 w3 htk (fun y2 z2 a1 a2 a3 a4 => ?_)
      rw [h0] at a1 a3
      rw [h0, if_neg (by decide)]
      exact h x' y2 z2 ⟨w1, by rw [a1]; omega, by rw [a2]; omega, fun l hl => (a4 _ (by omega) (by omega)).trans (w4 l hl)⟩ a3 (fun j hj hj2 => (a4 j (by omega) hj2).trans (hy j hj))
  · have hk2 : 2 ≤ k' := by
      have : (k' : Int) = st 1 := by
        by_cases hg : (k' : Int) = st 1 ∧ (nx : Int) < n ∧ st 5 = 1 ∧ pe n en ((nx : Int) - 1) = 0
        · exact hg.1
        · rw [if_neg hg] at htk
          omega
      omega
    obtain ⟨k1, hk1⟩ : ∃ k1 : Nat, k' = k1 + 1 := ⟨k' - 1, by omega⟩
    subst hk1
    have p5 := LOK.pop (L := F + k1) c5
    have p0 := (c5.2.2.1 (F + k1) (by omega)).1
    obtain ⟨nx1, hnx1⟩ := Int.eq_ofNat_of_zero_le p0
    refine ⟨F + k1, nx1, lv', lo', 1, by omega, Or.inr rfl, ?_, fun j hj => c6 j hj, fun l hl => c7 l (by omega), fun l h1 h2 => c8 l h1 (by omega), fun pv post x1 x2 x3 x4 x5 x6 x7 x8 hp => ?_, fun m => ?_⟩
    · rw [← hnx1]
      exact p5
    · exact c9 pv post x1 x2 x3 x4 x5 x6 x7 x8 (fun y1 y2 y3 y4 y5 y6 y7 y8 => C pv post _ _ _ _ _ _ _ _ (fun y1 y2 y3 y4 y5 y6 y7 y8 => by
        rw [h1]
        exact c1_167b (L := F + k1) (by omega) (by omega) (by omega) rfl (fun pv' a b => by
          rw [hnx1]
          exact hp pv' _ _ _ _ _ _ _ _ a b)))
    · obtain ⟨n0, hn0⟩ := c10 m
      refine ⟨n0, fun post x y z hw h => hn0 post x y z hw (fun x' y' w' hy => ?_)⟩
      obtain ⟨w1, w2, w3, w4⟩ := w'
      refine u_140 R Gr hP (by omega) (by omega) (by omega) w2 w3 htk (fun y2 z2 a1 a2 a3 a4 => ?_)
      rw [h1] at a1 a3
      rw [h1, if_pos rfl]
      have ex : x' (6 * (F + (k1 + 1) - 1)) = (nx1 : Int) := by
        rw [show F + (k1 + 1) - 1 = F + k1 by omega, (w1 (F + k1) (by omega)).1, hnx1]
      rw [ex]
      exact h x' y2 z2 ⟨fun l hl => w1 l (by omega), by rw [a1]; omega, by rw [a2]; omega, fun l hl => (a4 _ (by omega) (by omega)).trans (w4 l (by omega))⟩ a3 (fun j hj hj2 => (a4 j (by omega) hj2).trans (hy j hj))
def PX (P L : Nat) (pv lv : Nat → Int) : Prop := P ≤ L ∧ (∀ l : Nat, l < L → 0 ≤ lv (12 * l) ∧ lv (12 * l) < (P : Int)) ∧ ∀ p : Nat, p < P → ∃ (F L' : Nat) (tk : Int), F < L' ∧ L' ≤ L ∧ (tk = 0 ∨ tk = 1) ∧ pageIs pv lv p F L' tk ∧ ∀ l : Nat, l < L → (lv (12 * l) = (p : Int) ↔ F ≤ l ∧ l < L')
def XY (L P : Nat) (lv pv x y : Nat → Int) : Prop := LwI lv x y L P ∧ ∀ p : Nat, p < P → y (12 + p) = pv (6 * p + 5)
theorem arrangeSim26 (R : RS n lt ln bd ah bh en st sh ms) (Gr : G26 n lt ln ah bh en st sh g e) :
    ∀ (f P L next : Nat) (lv lo pv : Nat → Int), n ≤ (L : Int) + f → LOK n en L (next : Int) lv lo → (∀ l : Nat, l < L → LX (cW bd ah bh) st lv l ∧ DB lv l) → PX P L pv lv →
    ∃ (L' P' : Nat) (lv' lo' pv' : Nat → Int), LOK n en L' n lv' lo' ∧ (∀ l : Nat, l < L' → LX (cW bd ah bh) st lv' l ∧ DB lv' l) ∧ PX P' L' pv' lv' ∧
      (∀ (post : Int → Int → (Nat → Int) → (Nat → Int) → (Nat → Int) → (Nat → Int) → Int → Int → Int → Int → Int → Int → Int → Int → Prop), (∀ y1 y2 y3 y4 y5 y6 y7 y8 : Int, post (L' : Int) (P' : Int) lv' pv' lo' st y1 y2 y3 y4 y5 y6 y7 y8) → ∃ n0 : Nat, ∀ x1 x2 x3 x4 x5 x6 x7 x8 : Int, wpX1_arrange_53 n bd ah bh en st sh post n0 (L : Int) (P : Int) lv pv lo st x1 x2 x3 x4 x5 x6 x7 x8 (next : Int) (P : Int)) ∧
      (∃ n0 : Nat, ∀ (post : (Nat → Int) → (Nat → Int) → Prop) (x y z : Nat → Int), XY L P lv pv x y → (∀ x' y' : Nat → Int, XY L' P' lv' pv' x' y' → post x' y') → wpL_lay_25 g e post n0 x y z (st 0) 1 (next : Int) 0 0) := by
  have hn := R.2.2.1
  have hn10 := Gr.1
  have e14 := Gr.2.1
  have done : ∀ (P L next : Nat) (lv lo pv : Nat → Int), (next : Int) = n → LOK n en L (next : Int) lv lo → (∀ l : Nat, l < L → LX (cW bd ah bh) st lv l ∧ DB lv l) → PX P L pv lv →
    ∃ (L' P' : Nat) (lv' lo' pv' : Nat → Int), LOK n en L' n lv' lo' ∧ (∀ l : Nat, l < L' → LX (cW bd ah bh) st lv' l ∧ DB lv' l) ∧ PX P' L' pv' lv' ∧
      (∀ (post : Int → Int → (Nat → Int) → (Nat → Int) → (Nat → Int) → (Nat → Int) → Int → Int → Int → Int → Int → Int → Int → Int → Prop), (∀ y1 y2 y3 y4 y5 y6 y7 y8 : Int, post (L' : Int) (P' : Int) lv' pv' lo' st y1 y2 y3 y4 y5 y6 y7 y8) → ∃ n0 : Nat, ∀ x1 x2 x3 x4 x5 x6 x7 x8 : Int, wpX1_arrange_53 n bd ah bh en st sh post n0 (L : Int) (P : Int) lv pv lo st x1 x2 x3 x4 x5 x6 x7 x8 (next : Int) (P : Int)) ∧
      (∃ n0 : Nat, ∀ (post : (Nat → Int) → (Nat → Int) → Prop) (x y z : Nat → Int), XY L P lv pv x y → (∀ x' y' : Nat → Int, XY L' P' lv' pv' x' y' → post x' y') → wpL_lay_25 g e post n0 x y z (st 0) 1 (next : Int) 0 0) := by
    intro P L next lv lo pv e hL hX hP
    have hPL := hP.1
    have hLn := hL.1
    refine ⟨L, P, lv, lo, pv, e ▸ hL, hX, hP, fun post hp => ⟨1, fun x1 x2 x3 x4 x5 x6 x7 x8 => ?_⟩, 1, fun post x y z hxy h => ?_⟩
    · rw [wpX1_arrange_53]
      exact ⟨inR_of (by omega), fun _ => hp _ _ _ _ _ _ _ _, fun _ => ⟨inR_of (by omega), inR_of (by omega), fun _ => hp _ _ _ _ _ _ _ _, fun z => absurd (by omega) z⟩⟩
    · rw [wpL_lay_25, e14]
      exact ⟨inR_of (by omega), inR_of (by omega), fun _ => h x y hxy, fun z => absurd (by omega) z⟩
  intro f
  induction f with
  | zero =>
    intro P L next lv lo pv hf hL hX hP
    exact done P L next lv lo pv (by have := hL.1; have := hL.2.1; omega) hL hX hP
  | succ f ih =>
    intro P L next lv lo pv hf hL hX hP
    have a1 := hL.1
    have a2 := hL.2.1
    have hPL := hP.1
    by_cases e : (next : Int) = n
    · exact done P L next lv lo pv e hL hX hP
    · obtain ⟨L1, nx, lv1, lo1, tk, b1, b2, b3, b4, b5, b6, b7, b8⟩ := fillSim26 R Gr (F := L) (P := P) (next := next) (lv := lv) (lo := lo) hPL (by omega) hL hX (fun l hl => (hP.2.1 l hl).2)
      obtain ⟨pv1, p1, p2⟩ := pv_ex pv lv1 P L L1 tk
      have hP1 : PX (P + 1) L1 pv1 lv1 := by
        refine ⟨by omega, fun l hl => ?_, fun p hp => ?_⟩
        · by_cases c : l < L
          · rw [b4 _ (by omega)]
            have := hP.2.1 l c
            omega
          · rw [b6 l (by omega) hl]
            omega
        · by_cases c : p < P
          · obtain ⟨F0, L0, tk0, d1, d2, d3, d4, d5⟩ := hP.2.2 p c
            refine ⟨F0, L0, tk0, d1, by omega, d3, d4.cong d1 (fun j hj => p1 _ (Or.inl (by omega))) (fun j hj => b4 j (by omega)), fun l hl => ?_⟩
            by_cases c2 : l < L
            · rw [b4 _ (by omega)]
              exact d5 l c2
            · rw [b6 l (by omega) hl]
              constructor
              · intro z; omega
              · intro z; omega
          · have ep : p = P := by omega
            rw [ep]
            refine ⟨L, L1, tk, b1, Nat.le_refl _, b2, p2, fun l hl => ?_⟩
            by_cases c2 : l < L
            · rw [b4 _ (by omega)]
              have := hP.2.1 l c2
              constructor
              · intro z; omega
              · intro z; omega
            · rw [b6 l (by omega) hl]
              exact ⟨fun _ => ⟨by omega, hl⟩, fun _ => rfl⟩
      obtain ⟨L', P', lv', lo', pv', c1, c2, c3, c4, n1, c5⟩ := ih (P + 1) L1 nx lv1 lo1 pv1 (by omega) b3 b5 hP1
      obtain ⟨n2, c6⟩ := b8 n1
      refine ⟨L', P', lv', lo', pv', c1, c2, c3, fun post hp => ?_, n2, fun post x y z hxy h => ?_⟩
      · obtain ⟨n0, h0⟩ := c4 post hp
        refine ⟨n0 + 1, fun x1 x2 x3 x4 x5 x6 x7 x8 => ?_⟩
        rw [wpX1_arrange_53]
        refine ⟨inR_of (by omega), fun z => absurd z (by omega), fun _ => ⟨inR_of (by omega), inR_of (by omega), fun z => absurd z (by omega), fun _ => b7 pv _ x1 x2 x3 x4 x5 x6 x7 x8 (fun pv2 y1 y2 y3 y4 y5 y6 y7 y8 q1 q2 => ?_)⟩⟩
        have eq := pv_ext p1 q1 p2 q2
        rw [eq]
        exact h0 y1 y2 y3 y4 y5 y6 y7 y8
      · refine c6 post x y z hxy.1 (fun x' y' z' w1 w2 w3 => c5 post x' y' z' ⟨w1, fun p hp => ?_⟩ h)
        by_cases c : p < P
        · rw [w3 _ (by omega) (by omega), hxy.2 p c, p1 _ (Or.inl (by omega))]
        · rw [show p = P by omega, w2]
          exact p2.2.2.2.2.2.symm
/-- the class's lines and pages, with what the law's rows come to -/
def Lay26 (n : Int) (bd ah bh en st g e : Nat → Int) (L P : Nat) (lv pv lo : Nat → Int) : Prop := LOK n en L n lv lo ∧ (∀ l : Nat, l < L → LX (cW bd ah bh) st lv l ∧ DB lv l) ∧ PX P L pv lv ∧
  ∀ (post : (Nat → Int) → (Nat → Int) → Prop) (x y : Nat → Int), (∀ x' y' : Nat → Int, XY L P lv pv x' y' → post x' y') → wpL_lay g e x y (st 0) 1 post
theorem setLines26 (R : RS n lt ln bd ah bh en st sh ms) (Gr : G26 n lt ln ah bh en st sh g e) (lv0 pv0 lo0 : Nat → Int) :
    ∃ (L P : Nat) (lv pv lo : Nat → Int), Lay26 n bd ah bh en st g e L P lv pv lo ∧
      ∀ (l0 p0 : Int) (ts : Nat → Int) (x1 x2 x3 x4 x5 x6 x7 x8 : Int) (post : Int → Int → (Nat → Int) → (Nat → Int) → (Nat → Int) → (Nat → Int) → Int → Int → Int → Int → Int → Int → Int → Int → Prop), (∀ (ts' : Nat → Int) (y1 y2 y3 y4 y5 y6 y7 y8 : Int), post (L : Int) (P : Int) lv pv lo ts' y1 y2 y3 y4 y5 y6 y7 y8) → wpX5_setLines n bd ah bh en st sh l0 p0 lv0 pv0 lo0 ts x1 x2 x3 x4 x5 x6 x7 x8 post := by
  have hn := R.2.1
  have L0 : LOK n en 0 ((0 : Nat) : Int) lv0 lo0 := ⟨by omega, by omega, fun l hl => absurd hl (by omega), fun l hl => absurd hl (by omega), fun z => absurd z (by omega), fun _ => rfl, fun l hl => absurd hl (by omega), fun w hw => absurd hw (by omega)⟩
  have P0 : PX 0 0 pv0 lv0 := ⟨Nat.le_refl _, fun l hl => absurd hl (by omega), fun p hp => absurd hp (by omega)⟩
  obtain ⟨L, P, lv, lo, pv, a1, a2, a3, a4, n1, a5⟩ := arrangeSim26 R Gr n.toNat 0 0 0 lv0 lo0 pv0 (by omega) L0 (fun l hl => absurd hl (by omega)) P0
  refine ⟨L, P, lv, pv, lo, ⟨a1, a2, a3, fun post x y h => ⟨n1, a5 post x _ _ ⟨⟨fun l hl => absurd hl (by omega), ?_, ?_, fun l hl => absurd hl (by omega)⟩, fun p hp => absurd hp (by omega)⟩ h⟩⟩, fun l0 p0 ts x1 x2 x3 x4 x5 x6 x7 x8 post hp => ?_⟩
  · rw [updI_ne (by omega), updI_eq rfl]; rfl
  · rw [updI_eq rfl]; rfl
  · unfold wpX5_setLines
    refine q3_setting (by decide) (by decide) (q3_setting (by decide) (by decide) (q3_setting (by decide) (by decide) ?_))
    obtain ⟨n0, h0⟩ := a4 _ (hp st)
    refine ⟨n0, ?_⟩
    have h9 := h0 x1 x2 x3 x4 x5 x6 x7 x8
    have et : updI (updI (updI st 0 (st (0 : Int).toNat)) 2 (st (2 : Int).toNat)) 3 (st (3 : Int).toNat) = st := tS_eq st
    rw [et]
    exact h9
end Lay
