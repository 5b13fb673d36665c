/-! The row that one line takes. -/
abbrev RW : Type := Int × Int × Int × Int × Int
def cW (bd ah bh : Nat → Int) (w : Nat) : Int := bd w + sgW (ah w) + sgW (bh w)
def cR (sh bh : Nat → Int) (m : Int) (w : Nat) : Int := if m < ov sh (bh w) then m else ov sh (bh w)
def OKw (n : Int) (bd ah bh en sh : Nat → Int) : Prop := 0 ≤ n ∧ n ≤ 60 ∧ (∀ w : Nat, (w : Int) < n → 2 ≤ bd w ∧ bd w ≤ 72 ∧ -1 ≤ ah w ∧ ah w ≤ 7 ∧ -1 ≤ bh w ∧ bh w ≤ 7 ∧ (en w = 0 ∨ en w = 1)) ∧ ∀ i : Nat, i < 8 → 0 ≤ sh i ∧ sh i ≤ 100
def OKt (t : Nat → Int) : Prop := 20 ≤ t 0 ∧ t 0 ≤ 200 ∧ 2 ≤ t 1 ∧ t 1 ≤ 20 ∧ 0 ≤ t 2 ∧ t 2 ≤ 10 ∧ 0 ≤ t 3 ∧ t 3 ≤ 10 ∧ 0 ≤ t 4 ∧ t 4 ≤ 10 ∧ (t 5 = 0 ∨ t 5 = 1)
theorem cW_bd {n : Int} {bd ah bh en sh : Nat → Int} (H : OKw n bd ah bh en sh) {w : Nat} (hw : (w : Int) < n) : 2 ≤ cW bd ah bh w ∧ cW bd ah bh w ≤ 78 := by
  obtain ⟨b1, b2, -⟩ := H.2.2.1 w hw
  have h1 := sgW_bd (ah w)
  have h2 := sgW_bd (bh w)
  unfold cW
  omega
theorem cR_bd {n m : Int} {bd ah bh en sh : Nat → Int} (H : OKw n bd ah bh en sh) (hm : 0 ≤ m ∧ m ≤ 10) {w : Nat} (hw : (w : Int) < n) : 0 ≤ cR sh bh m w ∧ cR sh bh m w ≤ m ∧ cR sh bh m w ≤ 3 := by
  obtain ⟨-, -, -, -, b5, b6, -⟩ := H.2.2.1 w hw
  have h1 := ov_bd b5 b6 H.2.2.2
  unfold cR
  split <;> omega
def rowStep (W RO : Nat → Int) (own left dl lim : Int) (first w : Nat) (nat : Int) (a : RW) : RW :=
  if (if own < nat + W w then nat + W w - own else 0) = 0 ∨ ((if own < nat + W w then nat + W w - own else 0) ≤ left + RO w ∧ dl + (if own < nat + W w then nat + W w - own else 0) ≤ lim) then
    ((w : Int) - first + 1, nat + W w, (if own < nat + W w then nat + W w - own else 0) - (if RO w < (if own < nat + W w then nat + W w - own else 0) then RO w else (if own < nat + W w then nat + W w - own else 0)), (if RO w < (if own < nat + W w then nat + W w - own else 0) then RO w else (if own < nat + W w then nat + W w - own else 0)), 0)
  else a
def rowGo (n : Int) (W RO E : Nat → Int) (own left dl lim : Int) (first : Nat) : Nat → Nat → Int → RW → RW
  | 0, _, _, a => a
  | f + 1, w, nat, a =>
    if E w = 0 ∧ (w : Int) + 1 < n then rowGo n W RO E own left dl lim first f (w + 1) (nat + W w + 2) (rowStep W RO own left dl lim first w nat a)
    else rowStep W RO own left dl lim first w nat a
theorem rowStep_eq {W RO : Nat → Int} {own left dl lim : Int} {first w : Nat} {nat nd : Int} {a : RW} (h : nd = if own < nat + W w then nat + W w - own else 0) :
    rowStep W RO own left dl lim first w nat a = if nd = 0 ∨ (nd ≤ left + RO w ∧ dl + nd ≤ lim) then ((w : Int) - first + 1, nat + W w, nd - (if RO w < nd then RO w else nd), (if RO w < nd then RO w else nd), 0) else a := by
  unfold rowStep
  rw [← h]
/-- once the need is more than both margins may lend, nothing further fits -/
theorem rowGo_stuck {n : Int} {W RO E : Nat → Int} {own left dl lim LM RM : Int} {first : Nat} (hW : ∀ w : Nat, (w : Int) < n → 0 ≤ W w) (hR : ∀ w : Nat, (w : Int) < n → RO w ≤ RM) (hl : left ≤ LM) (h0 : 0 ≤ LM + RM) :
    ∀ (f w : Nat) (nat : Int) (a : RW), (w : Int) < n → LM + RM < nat + W w - own → rowGo n W RO E own left dl lim first f w nat a = a := by
  intro f
  induction f with
  | zero => intro w nat a _ _; rfl
  | succ f ih =>
    intro w nat a hw h
    have hs : rowStep W RO own left dl lim first w nat a = a := by
      rw [rowStep_eq (nd := nat + W w - own) (by rw [if_pos (by omega)])]
      have := hR w hw
      rw [if_neg (by omega)]
    rw [rowGo, hs]
    split
    · rename_i c
      have h2 := hW (w + 1) (by omega)
      exact ih (w + 1) _ a (by omega) (by omega)
    · rfl
theorem q2_loop {n : Int} {bd ah bh en sh t : Nat → Int} (H : OKw n bd ah bh en sh) (T : OKt t) {first : Nat} {own paid debt0 dl lim left : Int} {post : Int → Int → Int → Int → Int → Int → Int → Int → Prop}
    (ho : 0 ≤ own ∧ own ≤ 200) (hd : 0 ≤ dl ∧ dl ≤ 1000) (hlim : 0 ≤ lim ∧ lim ≤ 1000) (hleft : 0 ≤ left ∧ left ≤ t 2) :
    ∀ (f w : Nat) (nat : Int) (a : RW), first ≤ w → (w : Int) < n → n ≤ (w : Int) + f → 0 ≤ nat → nat ≤ 80 * ((w : Int) - first) →
      (∀ r : RW, r = rowGo n (cW bd ah bh) (cR sh bh (t 3)) en own left dl lim first f w nat a → post r.1 r.2.1 own r.2.2.1 r.2.2.2.1 paid (dl + (r.2.2.1 + r.2.2.2.1)) r.2.2.2.2) →
      wpX2_choose_77 n bd ah bh en sh t post (f + 1) a.1 a.2.1 own a.2.2.1 a.2.2.2.1 paid debt0 a.2.2.2.2 (first : Int) dl (lim - dl) left (nat - 2) (w : Int) := by
  intro f
  induction f with
  | zero => intro w nat a h1 h2 h3; omega
  | succ f ih =>
    intro w nat a h1 h2 h3 h4 h5 hp
    obtain ⟨b1, b2, b3, b4, b5, b6, b7⟩ := H.2.2.1 w h2
    obtain ⟨t0, t0', t1, t1', t2, t2', t3, t3', t4, t4', t5⟩ := T
    have hn := H.2.1
    have hw := cW_bd H h2
    have hr := cR_bd H ⟨t3, t3'⟩ h2
    have hov := ov_bd b5 b6 H.2.2.2
    rw [wpX2_choose_77]
    refine ⟨inR_of (by omega), inR_of (by omega), fun c => absurd c (by omega), fun _ => ?_⟩
    refine q3_widthOf (by omega) h2 hn (by rw [Int.toNat_natCast]; exact ⟨b3, b4⟩) (by rw [Int.toNat_natCast]; exact ⟨b5, b6⟩) ?_
    rw [Int.toNat_natCast]
    have e1 : nat - 2 + (2 + (bd w + sgW (ah w) + sgW (bh w))) = nat + cW bd ah bh w := by unfold cW; omega
    rw [e1]
    have cont : ∀ a' : RW, a' = rowStep (cW bd ah bh) (cR sh bh (t 3)) own left dl lim first w nat a →
        wpX2_choose_183 n bd ah bh en sh t post (wpX2_choose_77 n bd ah bh en sh t post (f + 1)) a'.1 a'.2.1 own a'.2.2.1 a'.2.2.2.1 paid debt0 a'.2.2.2.2 (first : Int) dl (lim - dl) left (nat + cW bd ah bh w) (w : Int) := by
      intro a' ha'
      unfold wpX2_choose_183
      refine q3_endsParagraph (by omega) h2 hn (by rw [Int.toNat_natCast]; exact b7) ?_
      rw [rowGo, ← ha'] at hp
      unfold pe
      rw [Int.toNat_natCast]
      by_cases c : en w = 1 ∨ (w : Int) = n - 1
      · rw [if_pos c]
        rw [if_neg (by omega)] at hp
        exact ⟨inR_lit rfl, fun z => absurd z (by decide), fun _ => hp a' rfl⟩
      · rw [if_neg c]
        rw [if_pos (by omega)] at hp
        refine ⟨inR_lit rfl, fun _ => ?_, fun z => absurd rfl z⟩
        have h6 := ih (w + 1) (nat + cW bd ah bh w + 2) a' (by omega) (by omega) (by omega) (by omega) (by omega) hp
        rw [show nat + cW bd ah bh w + 2 - 2 = nat + cW bd ah bh w by omega, show ((w + 1 : Nat) : Int) = (w : Int) + 1 by omega] at h6
        exact h6
    generalize hnd : (if 0 < nat + cW bd ah bh w - own then nat + cW bd ah bh w - own else 0) = nd
    have nd0 : nd = if own < nat + cW bd ah bh w then nat + cW bd ah bh w - own else 0 := by
      rw [← hnd]
      by_cases c : own < nat + cW bd ah bh w
      · rw [if_pos c, if_pos (by omega)]
      · rw [if_neg c, if_neg (by omega)]
    have nd1 : 0 ≤ nd ∧ nd ≤ 6000 := by rw [nd0]; split <;> omega
    have hst := rowStep_eq (W := cW bd ah bh) (RO := cR sh bh (t 3)) (own := own) (left := left) (dl := dl) (lim := lim) (first := first) (w := w) (nat := nat) (a := a) nd0
    refine ⟨inR_of (by omega), inR_of (by omega), inR_of (by omega), fun c1 => ?_, fun c1 => ?_⟩
    · refine q3_behindOf (by omega) h2 hn ?_
      rw [Int.toNat_natCast]
      refine q3_overhang H.2.2.2 b5 b6 ?_
      show inR (ov sh (bh w)) ∧ inR (t 3) ∧ inR nd ∧ (nd = 0 → wpX2_choose_167 n bd ah bh en sh t post (wpX2_choose_77 n bd ah bh en sh t post (f + 1)) a.1 a.2.1 own a.2.2.1 a.2.2.2.1 paid debt0 a.2.2.2.2 (first : Int) dl (lim - dl) left (nat + cW bd ah bh w) (w : Int) nd (cR sh bh (t 3) w)) ∧ (¬ nd = 0 → inR nd ∧ inR (left + cR sh bh (t 3) w) ∧ (left + cR sh bh (t 3) w < nd → _) ∧ (¬ left + cR sh bh (t 3) w < nd → inR nd ∧ inR (lim - dl) ∧ (lim - dl < nd → _) ∧ (¬ lim - dl < nd → wpX2_choose_167 n bd ah bh en sh t post (wpX2_choose_77 n bd ah bh en sh t post (f + 1)) a.1 a.2.1 own a.2.2.1 a.2.2.2.1 paid debt0 a.2.2.2.2 (first : Int) dl (lim - dl) left (nat + cW bd ah bh w) (w : Int) nd (cR sh bh (t 3) w))))
      have fit : (nd = 0 ∨ (nd ≤ left + cR sh bh (t 3) w ∧ dl + nd ≤ lim)) → wpX2_choose_167 n bd ah bh en sh t post (wpX2_choose_77 n bd ah bh en sh t post (f + 1)) a.1 a.2.1 own a.2.2.1 a.2.2.2.1 paid debt0 a.2.2.2.2 (first : Int) dl (lim - dl) left (nat + cW bd ah bh w) (w : Int) nd (cR sh bh (t 3) w) := by
        intro c
        rw [if_pos c] at hst
        unfold wpX2_choose_167 wpX2_take
        exact ⟨inR_of (by omega), inR_of (by omega), cont _ hst.symm⟩
      have nofit : ¬ (nd = 0 ∨ (nd ≤ left + cR sh bh (t 3) w ∧ dl + nd ≤ lim)) → wpX2_choose_183 n bd ah bh en sh t post (wpX2_choose_77 n bd ah bh en sh t post (f + 1)) a.1 a.2.1 own a.2.2.1 a.2.2.2.1 paid debt0 a.2.2.2.2 (first : Int) dl (lim - dl) left (nat + cW bd ah bh w) (w : Int) := by
        intro c
        rw [if_neg c] at hst
        exact cont a hst.symm
      exact ⟨inR_of (by omega), inR_of (by omega), inR_of (by omega), fun c2 => fit (Or.inl c2), fun c2 => ⟨inR_of (by omega), inR_of (by omega), fun c3 => nofit (by omega), fun c3 => ⟨inR_of (by omega), inR_of (by omega), fun c4 => nofit (by omega), fun c4 => fit (by omega)⟩⟩⟩
    · have hs := rowGo_stuck (n := n) (W := cW bd ah bh) (RO := cR sh bh (t 3)) (E := en) (own := own) (left := left) (dl := dl) (lim := lim) (LM := t 2) (RM := t 3) (first := first) (fun v hv => by have := cW_bd H hv; omega) (fun v hv => (cR_bd H ⟨t3, t3'⟩ hv).2.1) hleft.2 (by omega) (f + 1) w nat a h2 (by rw [nd0] at c1; split at c1 <;> omega)
      exact hp a hs.symm
/-- the row that a line takes, from a word on, with a debt ahead, with lines behind it -/
def rwOf (n : Int) (bd ah bh en sh t : Nat → Int) (first : Nat) (debt later : Int) : RW :=
  rowGo n (cW bd ah bh) (cR sh bh (t 3)) en (t 0 - (if t 4 < debt then t 4 else debt)) (if t 2 < ov sh (ah first) then t 2 else ov sh (ah first)) (debt - (if t 4 < debt then t 4 else debt)) (t 4 * later) first n.toNat first 0 (1, cW bd ah bh first, 0, 0, 1)
theorem q2_choose {n : Int} {bd ah bh en sh t : Nat → Int} (H : OKw n bd ah bh en sh) (T : OKt t) {first : Nat} {debt later x1 x2 x3 x4 x5 x6 x7 x8 : Int} {post : Int → Int → Int → Int → Int → Int → Int → Int → Prop}
    (hf : (first : Int) < n) (hd : 0 ≤ debt ∧ debt ≤ 1000) (hlt : 0 ≤ later ∧ later ≤ 19)
    (hp : ∀ r : RW, r = rwOf n bd ah bh en sh t first debt later → post r.1 r.2.1 (t 0 - (if t 4 < debt then t 4 else debt)) r.2.2.1 r.2.2.2.1 (if t 4 < debt then t 4 else debt) (debt - (if t 4 < debt then t 4 else debt) + (r.2.2.1 + r.2.2.2.1)) r.2.2.2.2) :
    wpX2_choose x1 x2 x3 x4 x5 x6 x7 x8 n bd ah bh en sh t (first : Int) debt later post := by
  obtain ⟨b1, b2, b3, b4, b5, b6, b7⟩ := H.2.2.1 first hf
  have T' := T
  obtain ⟨t0, t0', t1, t1', t2, t2', t3, t3', t4, t4', t5⟩ := T
  have hn := H.2.1
  have hov := ov_bd b3 b4 H.2.2.2
  unfold wpX2_choose
  refine ⟨inR_of (by omega), inR_of (by omega), q3_widthOf (by omega) hf hn (by rw [Int.toNat_natCast]; exact ⟨b3, b4⟩) (by rw [Int.toNat_natCast]; exact ⟨b5, b6⟩) ?_⟩
  rw [Int.toNat_natCast]
  unfold wpX2_takeFirstAlone
  refine q3_aheadOf (by omega) hf hn ?_
  rw [Int.toNat_natCast]
  refine q3_overhang H.2.2.2 b3 b4 ⟨inR_of (by omega), inR_of (by omega), n.toNat + 1, ?_⟩
  have hl19 : 0 ≤ t 4 * later ∧ t 4 * later ≤ 1000 := by
    have h1 : t 4 * later ≤ 10 * later := Int.mul_le_mul_of_nonneg_right t4' hlt.1
    have h2 : 0 ≤ t 4 * later := Int.mul_nonneg t4 hlt.1
    omega
  have hpd : 0 ≤ (if t 4 < debt then t 4 else debt) ∧ (if t 4 < debt then t 4 else debt) ≤ 10 ∧ (if t 4 < debt then t 4 else debt) ≤ debt := by split <;> omega
  have h6 := q2_loop H T' (first := first) (own := t 0 - (if t 4 < debt then t 4 else debt)) (paid := if t 4 < debt then t 4 else debt) (debt0 := x7) (dl := debt - (if t 4 < debt then t 4 else debt)) (lim := t 4 * later) (left := if t 2 < ov sh (ah first) then t 2 else ov sh (ah first)) (post := post) (by omega) (by omega) hl19 (by split <;> omega) n.toNat first 0 (1, cW bd ah bh first, 0, 0, 1) (Nat.le_refl _) hf (by omega) (by omega) (by omega) hp
  exact h6
