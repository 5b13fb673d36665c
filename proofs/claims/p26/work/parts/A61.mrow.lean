/-! The reference's row: what it leaves in its line table. -/
def mrowIs (line : Nat → Int) (L : Nat) (P first debt : Int) (own pays dl : Int) (r : RW) : Prop :=
  line (10 * L) = P ∧ line (10 * L + 1) = first ∧ line (10 * L + 2) = r.1 ∧ line (10 * L + 3) = r.2.1 ∧ line (10 * L + 4) = own ∧ line (10 * L + 5) = r.2.2.1 ∧ line (10 * L + 6) = r.2.2.2.1 ∧ line (10 * L + 7) = pays ∧ line (10 * L + 8) = dl + (r.2.2.1 + r.2.2.2.1) ∧ line (10 * L + 9) = r.2.2.2.2
/-- the entries that the scan writes -/
def ment (line : Nat → Int) (L : Nat) (a : RW) : Prop := line (10 * L + 3) = a.2.1 ∧ line (10 * L + 5) = a.2.2.1 ∧ line (10 * L + 6) = a.2.2.2.1 ∧ line (10 * L + 9) = a.2.2.2.2
def mout (line line' : Nat → Int) (L : Nat) : Prop := ∀ k : Nat, k < 10 * L ∨ 10 * L + 10 ≤ k → line' k = line k
section MRow
variable {n : Int} {lt ln bd ah bh en st sh ms : Nat → Int}
variable {L : Nat} {ML P me ml mr : Int} {post : Int → (Nat → Int) → Prop} {first : Nat} {debt later own pays left : Int}
theorem q6_row_299 (R : RS n lt ln bd ah bh en st sh ms) {K : (Nat → Int) → Int → Int → Int → Int → Int → Int → Int → Int → Int → Int → Int → Prop} {line : Nat → Int} {w : Nat} (hw : (w : Int) < n) {at_ v8 v9 : Int}
    (hk : K line (first : Int) debt later at_ pays own left v8 v9 (if en w = 0 then 1 else 0) ((w : Int) + 1)) : wpX6_row_299 ML P me ml mr ms post K line (first : Int) debt later at_ pays own left v8 v9 (w : Int) := by
  obtain ⟨b1, b2, b3, b4, b5, b6, -⟩ := R.2.2.2.2.2.2.2 w hw
  have he := R.2.2.2.2.2.2.1 w (by have := R.2.2.1; omega)
  have hn := R.2.2.1
  unfold wpX6_row_299
  refine q6_of (16 * w + 30) (by omega) (by omega) ?_
  rw [b6]
  unfold wpX6_row_315
  rcases he with e | e
  · rw [if_pos e] at hk
    exact ⟨inR_of (by omega), fun c => absurd e c, fun _ => hk⟩
  · rw [if_neg (by omega)] at hk
    exact ⟨inR_of (by omega), fun _ => hk, fun c => absurd c (by omega)⟩
/-- one word of the scan -/
theorem q6_row_step (R : RS n lt ln bd ah bh en st sh ms) (hL : L < 60) {K : (Nat → Int) → Int → Int → Int → Int → Int → Int → Int → Int → Int → Int → Int → Prop} {line : Nat → Int} {w : Nat} {nat dl lim v9 x0 x1 x2 : Int} {a : RW}
    (hf : first ≤ w) (hw : (w : Int) < n) (hmr : 0 ≤ mr ∧ mr ≤ 10) (hx : x2 + (x1 + x0) = nat + cW bd ah bh w) (hnat : 0 ≤ nat ∧ nat ≤ 5000) (ho : 0 ≤ own ∧ own ≤ 200) (hl : 0 ≤ left ∧ left ≤ 10) (hdl : dl = debt - pays) (hd : 0 ≤ dl ∧ dl ≤ 1000) (hlim : lim = ms 4 * later) (hlm : 0 ≤ lim ∧ lim ≤ 1000)
    (ha : if w = first then nat = 0 ∧ a = (1, cW bd ah bh first, 0, 0, 1) else v9 = a.1 ∧ ment line L a)
    (hk : ∀ line' : Nat → Int, mout line line' L → (∀ r : RW, r = rowStep (cW bd ah bh) (cR sh bh mr) own left dl lim first w nat a → ment line' L r → K line' (first : Int) debt later (10 * L : Nat) pays own left (nat + cW bd ah bh w) r.1 (if en w = 0 then 1 else 0) ((w : Int) + 1))) :
    wpX6_row_105 ML P me ml mr ms post K line (first : Int) debt later (10 * L : Nat) pays own left v9 (w : Int) x0 x1 x2 := by
  obtain ⟨b1, b2, b3, b4, b5, b6, b7, b8, b9, b10, -⟩ := R.2.2.2.2.2.2.2 w hw
  have hn := R.2.2.1
  have hwb := cW_bd R.okw hw
  have hrb := cR_bd R.okw hmr hw
  unfold wpX6_row_105
  refine q6_of (16 * w + 29) (by omega) (by omega) ?_
  rw [b5]
  refine q6_overhang R b9 b10 hmr ?_
  rw [hx]
  show inR (nat + cW bd ah bh w) ∧ inR own ∧ (nat + cW bd ah bh w ≤ own → wpX6_row_143 ML P me ml mr ms post K line (first : Int) debt later (10 * L : Nat) pays own left (nat + cW bd ah bh w) v9 (w : Int) (cR sh bh mr w) 0) ∧ (¬ nat + cW bd ah bh w ≤ own → wpX6_row_143 ML P me ml mr ms post K line (first : Int) debt later (10 * L : Nat) pays own left (nat + cW bd ah bh w) v9 (w : Int) (cR sh bh mr w) (nat + cW bd ah bh w - own))
  have z3 : (((10 * L : Nat) : Int) + 3).toNat = 10 * L + 3 := by omega
  have z5 : (((10 * L : Nat) : Int) + 5).toNat = 10 * L + 5 := by omega
  have z6 : (((10 * L : Nat) : Int) + 6).toNat = 10 * L + 6 := by omega
  have z9 : (((10 * L : Nat) : Int) + 9).toNat = 10 * L + 9 := by omega
  have key : ∀ nd : Int, nd = (if own < nat + cW bd ah bh w then nat + cW bd ah bh w - own else 0) → wpX6_row_143 ML P me ml mr ms post K line (first : Int) debt later (10 * L : Nat) pays own left (nat + cW bd ah bh w) v9 (w : Int) (cR sh bh mr w) nd := by
    intro nd nd0
    have nd1 : 0 ≤ nd ∧ nd ≤ 6000 := by rw [nd0]; split <;> omega
    have hst := rowStep_eq (W := cW bd ah bh) (RO := cR sh bh mr) (own := own) (left := left) (dl := dl) (lim := lim) (first := first) (w := w) (nat := nat) (a := a) nd0
    have fit : (nd = 0 ∨ (nd ≤ left + cR sh bh mr w ∧ dl + nd ≤ lim)) → wpX6_row_196 ML P me ml mr ms post K line (first : Int) debt later (10 * L : Nat) pays own left (nat + cW bd ah bh w) (w : Int) (cR sh bh mr w) nd 1 := by
      intro c
      rw [if_pos c] at hst
      unfold wpX6_row_196
      have k2 : ∀ rr : Int, rr = (if cR sh bh mr w < nd then cR sh bh mr w else nd) → wpX6_row_247 ML P me ml mr ms post K (updI line (10 * L + 3) (nat + cW bd ah bh w)) (first : Int) debt later (10 * L : Nat) pays own left (nat + cW bd ah bh w) ((w : Int) - first + 1) (w : Int) nd 1 rr (((10 * L : Nat) : Int) + 6) := by
        intro rr hrr
        unfold wpX6_row_247
        rw [z6]
        refine ⟨by omega, by omega, inR_lit rfl, fun z => absurd z (by decide), fun _ => ⟨by omega, by omega, ?_⟩⟩
        rw [updI_eq rfl]
        unfold wpX6_row_278
        rw [z5]
        refine ⟨by omega, by omega, inR_lit rfl, fun z => absurd z (by decide), fun _ => ?_⟩
        unfold wpX6_row_298
        rw [z9]
        refine ⟨by omega, by omega, q6_row_299 R hw (hk _ (fun k hk2 => ?_) _ hst.symm ?_)⟩
        · simp only [updI]
          repeat rw [if_neg (by omega)]
        · unfold ment
          simp only [updI]
          rw [← hrr]
          refine ⟨?_, ?_, ?_, ?_⟩ <;> (repeat rw [if_neg (by omega)]) <;> first | rfl | (first | rw [if_pos rfl] | rw [if_pos trivial])
      rw [z3]
      refine ⟨by omega, by omega, inR_lit rfl, fun _ => ⟨inR_of (by omega), inR_of (by omega), fun c2 => k2 _ ?_, fun c2 => k2 _ ?_⟩, fun z => absurd z (by decide)⟩
      · split <;> omega
      · split <;> omega
    have nofit : ¬ (nd = 0 ∨ (nd ≤ left + cR sh bh mr w ∧ dl + nd ≤ lim)) → wpX6_row_182 ML P me ml mr ms post K line (first : Int) debt later (10 * L : Nat) pays own left (nat + cW bd ah bh w) v9 (w : Int) (cR sh bh mr w) nd := by
      intro c
      rw [if_neg c] at hst
      unfold wpX6_row_182 wpX6_row_183
      refine ⟨inR_lit rfl, fun z => absurd rfl z, fun _ => ⟨inR_of (by omega), inR_of (by omega), fun c2 => ?_, fun c2 => ?_⟩⟩
      · rw [if_neg (by omega)] at ha
        have h9 := q6_row_299 (ML := ML) (P := P) (me := me) (ml := ml) (mr := mr) (post := post) (first := first) (debt := debt) (later := later) (own := own) (pays := pays) (left := left) R hw (hk line (fun _ _ => rfl) a hst.symm ha.2)
        rw [ha.1]
        exact h9
      · have e : w = first := by omega
        rw [if_pos e] at ha
        obtain ⟨e0, ea⟩ := ha
        unfold wpX6_row_196
        rw [z3]
        refine ⟨by omega, by omega, inR_lit rfl, fun z => absurd rfl z, fun _ => ?_⟩
        unfold wpX6_row_247
        rw [z6]
        refine ⟨by omega, by omega, inR_lit rfl, fun _ => ?_, fun z => absurd rfl z⟩
        unfold wpX6_row_278
        rw [z5]
        refine ⟨by omega, by omega, inR_lit rfl, fun _ => ?_, fun z => absurd rfl z⟩
        unfold wpX6_row_298
        rw [z9]
        refine ⟨by omega, by omega, ?_⟩
        have h9 := q6_row_299 (ML := ML) (P := P) (me := me) (ml := ml) (mr := mr) (post := post) (first := first) (debt := debt) (later := later) (own := own) (pays := pays) (left := left) R hw (hk (updI (updI (updI (updI line (10 * L + 3) (nat + cW bd ah bh w)) (10 * L + 6) 0) (10 * L + 5) 0) (10 * L + 9) 1) (fun k hk2 => by
          simp only [updI]
          repeat rw [if_neg (by omega)]) a hst.symm (by
          rw [ea, e0, e]
          unfold ment
          simp only [updI]
          refine ⟨?_, ?_, ?_, ?_⟩ <;> (repeat rw [if_neg (by omega)]) <;> first | rfl | ((first | rw [if_pos rfl] | rw [if_pos trivial]); try omega)))
        rw [ea] at h9
        rw [show (w : Int) - (first : Int) + 1 = 1 by omega]
        exact h9
    unfold wpX6_row_143
    have to178 : wpX6_row_196 ML P me ml mr ms post K line (first : Int) debt later (10 * L : Nat) pays own left (nat + cW bd ah bh w) (w : Int) (cR sh bh mr w) nd 1 → wpX6_row_178 ML P me ml mr ms post K line (first : Int) debt later (10 * L : Nat) pays own left (nat + cW bd ah bh w) v9 (w : Int) (cR sh bh mr w) nd := by
      intro h1
      unfold wpX6_row_178 wpX6_row_183
      exact ⟨inR_lit rfl, fun _ => h1, fun z => absurd z (by decide)⟩
    refine ⟨inR_of (by omega), fun c => to178 (fit (Or.inl c)), fun c => ⟨inR_of (by omega), inR_of (by omega), fun c2 => nofit (by omega), fun c2 => ⟨inR_of (by omega), inR_of (by omega), fun c3 => nofit (by omega), fun c3 => to178 (fit (by omega))⟩⟩⟩
  refine ⟨inR_of (by omega), inR_of (by omega), fun c => key 0 ?_, fun c => key _ ?_⟩
  · rw [if_neg (by omega)]
  · rw [if_pos (by omega)]
theorem q6_row_loop (R : RS n lt ln bd ah bh en st sh ms) (hL : L < 60) {dl lim : Int} (hmr : 0 ≤ mr ∧ mr ≤ 10) (ho : 0 ≤ own ∧ own ≤ 200) (hl : 0 ≤ left ∧ left ≤ 10) (hdl : dl = debt - pays) (hd : 0 ≤ dl ∧ dl ≤ 1000) (hlim : lim = ms 4 * later) (hlm : 0 ≤ lim ∧ lim ≤ 1000) :
    ∀ (f w : Nat) (nat v8 v9 : Int) (a : RW) (line : Nat → Int), first ≤ w → (w : Int) < n → n ≤ (w : Int) + f → 0 ≤ nat → nat ≤ 80 * ((w : Int) - first) → v8 = (if w = first then 0 else nat - 2) → (if w = first then nat = 0 ∧ a = (1, cW bd ah bh first, 0, 0, 1) else v9 = a.1 ∧ ment line L a) →
      (∀ line' : Nat → Int, mout line line' L → ∀ r : RW, r = rowGo n (cW bd ah bh) (cR sh bh mr) en own left dl lim first f w nat a → ment line' L r → wpX6_row_323 ML P me ml mr ms post line' (first : Int) debt (10 * L : Nat) pays own r.1) →
      wpX6_row_69 ML P me ml mr ms post (f + 1) line (first : Int) debt later (10 * L : Nat) pays own left v8 v9 1 (w : Int) := by
  intro f
  induction f with
  | zero => intro w nat v8 v9 a line h1 h2 h3; omega
  | succ f ih =>
    intro w nat v8 v9 a line h1 h2 h3 h4 h5 h6 ha hp
    have hn := R.2.2.1
    have e14 := R.1
    have hwb := cW_bd R.okw h2
    have step : ∀ x0 : Int, v8 + (cW bd ah bh w + x0) = nat + cW bd ah bh w → wpX6_row_105 ML P me ml mr ms post (wpX6_row_69 ML P me ml mr ms post (f + 1)) line (first : Int) debt later (10 * L : Nat) pays own left v9 (w : Int) x0 (cW bd ah bh w) v8 := by
      intro x0 hx
      refine q6_row_step R hL (dl := dl) (lim := lim) (a := a) h1 h2 hmr hx ⟨h4, by omega⟩ ho hl hdl hd hlim hlm ha (fun line' hm r hr hme => ?_)
      rw [rowGo, ← hr] at hp
      by_cases c : en w = 0 ∧ (w : Int) + 1 < n
      · rw [if_pos c] at hp
        rw [if_pos c.1]
        have h7 := ih (w + 1) (nat + cW bd ah bh w + 2) (nat + cW bd ah bh w) r.1 r line' (by omega) (by omega) (by omega) (by omega) (by omega) (by rw [if_neg (by omega)]; omega) (by rw [if_neg (by omega)]; exact ⟨rfl, hme⟩) (fun line2 hm2 => hp line2 (fun k hk => (hm2 k hk).trans (hm k hk)))
        rw [show ((w + 1 : Nat) : Int) = (w : Int) + 1 by omega] at h7
        exact h7
      · rw [if_neg c] at hp
        have h8 := hp line' hm r rfl hme
        rw [wpX6_row_69]
        by_cases c2 : en w = 0
        · rw [if_pos c2]
          exact ⟨inR_lit rfl, fun z => absurd z (by decide), fun _ => ⟨inR_of (by omega), inR_of (by omega), fun _ => h8, fun z => absurd (by omega) z⟩⟩
        · rw [if_neg c2]
          exact ⟨inR_lit rfl, fun _ => h8, fun z => absurd rfl z⟩
    rw [wpX6_row_69]
    refine ⟨inR_lit rfl, fun z => absurd z (by decide), fun _ => ⟨inR_of (by omega), inR_of (by omega), fun z => absurd z (by omega), fun _ => q6_widthOf R h2 ⟨inR_of (by omega), inR_of (by omega), fun c => step 0 ?_, fun c => step 2 ?_⟩⟩⟩
    · rw [if_pos (by omega)] at h6 ha
      have := ha.1
      omega
    · rw [if_neg (by omega)] at h6
      omega
end MRow
theorem q6_row {n : Int} {lt ln bd ah bh en st sh ms : Nat → Int} (R : RS n lt ln bd ah bh en st sh ms) {t : Nat → Int} (T : OKt t) (h4 : t 4 = st 4) {L : Nat} (hL : L < 60) {P : Int} {line : Nat → Int} {first : Nat} {debt later : Int} {post : Int → (Nat → Int) → Prop} (hf : (first : Int) < n) (hd : 0 ≤ debt ∧ debt ≤ 1000) (hlt : 0 ≤ later ∧ later ≤ 19)
    (hp : ∀ line' : Nat → Int, mout line line' L → ∀ r : RW, r = rwOf n bd ah bh en sh t first debt later → mrowIs line' L P first debt (t 0 - (if t 4 < debt then t 4 else debt)) (if t 4 < debt then t 4 else debt) (debt - (if t 4 < debt then t 4 else debt)) r → post r.1 line') :
    wpX6_row (L : Int) P (t 0) (t 2) (t 3) ms line (first : Int) debt later post := by
  obtain ⟨b1, b2, b3, b4, b5, b6, b7, b8, b9, b10, -⟩ := R.2.2.2.2.2.2.2 first hf
  have hn := R.2.2.1
  have T' := T
  obtain ⟨t0, t0', t1, t1', t2, t2', t3, t3', t4, t4', t5⟩ := T
  have e4 : ms 4 = t 4 := by rw [h4]; exact R.2.2.2.1 4 (by omega)
  have hov := ov_bd b7 (by omega : ah first ≤ 7) R.okw.2.2.2
  have hl19 : 0 ≤ t 4 * later ∧ t 4 * later ≤ 1000 := by
    have h1 : t 4 * later ≤ 10 * later := Int.mul_le_mul_of_nonneg_right t4' hlt.1
    have h2 : 0 ≤ t 4 * later := Int.mul_nonneg t4 hlt.1
    omega
  have key : ∀ pays : Int, pays = (if t 4 < debt then t 4 else debt) → wpX6_row_29 (L : Int) P (t 0) (t 2) (t 3) ms post line (first : Int) debt later (10 * (L : Int)) pays := by
    intro pays hpy
    have hpd : 0 ≤ pays ∧ pays ≤ 10 ∧ pays ≤ debt := by rw [hpy]; split <;> omega
    rw [← hpy] at hp
    unfold wpX6_row_29
    refine q6_of (16 * first + 28) (by omega) (by omega) ?_
    rw [b4]
    refine q6_overhang R b7 (by omega) ⟨t2, t2'⟩ ⟨n.toNat + 1, ?_⟩
    rw [show 10 * (L : Int) = ((10 * L : Nat) : Int) by omega]
    refine q6_row_loop R hL (dl := debt - pays) (lim := t 4 * later) ⟨t3, t3'⟩ (by omega) (by split <;> omega) rfl (by omega) (by rw [e4]) hl19 n.toNat first 0 0 0 (1, cW bd ah bh first, 0, 0, 1) line (Nat.le_refl _) hf (by omega) (by omega) (by omega) (by (first | rw [if_pos rfl] | rw [if_pos trivial])) (by (first | rw [if_pos rfl] | rw [if_pos trivial]); exact ⟨rfl, rfl⟩) (fun line' hm r hr hme => ?_)
    unfold wpX6_row_323
    have z0 : (((10 * L : Nat) : Int)).toNat = 10 * L := by omega
    have z1 : (((10 * L : Nat) : Int) + 1).toNat = 10 * L + 1 := by omega
    have z2 : (((10 * L : Nat) : Int) + 2).toNat = 10 * L + 2 := by omega
    have z4 : (((10 * L : Nat) : Int) + 4).toNat = 10 * L + 4 := by omega
    have z5 : (((10 * L : Nat) : Int) + 5).toNat = 10 * L + 5 := by omega
    have z6 : (((10 * L : Nat) : Int) + 6).toNat = 10 * L + 6 := by omega
    have z7 : (((10 * L : Nat) : Int) + 7).toNat = 10 * L + 7 := by omega
    have z8 : (((10 * L : Nat) : Int) + 8).toNat = 10 * L + 8 := by omega
    rw [z0, z1, z2, z4, z5, z6, z7, z8]
    refine ⟨by omega, by omega, by omega, by omega, by omega, by omega, by omega, by omega, by omega, by omega, by omega, by omega, by omega, by omega, by omega, by omega, hp _ (fun k hk => ?_) r ?_ ?_⟩
    · rw [← hm k hk]
      simp only [updI]
      repeat rw [if_neg (by omega)]
    · rw [hr]
      unfold rwOf
      rw [← hpy]
    · obtain ⟨m1, m2, m3, m4⟩ := hme
      unfold mrowIs
      simp only [updI]
      refine ⟨?_, ?_, ?_, ?_, ?_, ?_, ?_, ?_, ?_, ?_⟩ <;> (repeat rw [if_neg (by omega)]) <;> first | assumption | ((first | rw [if_pos rfl] | rw [if_pos trivial]); done) | ((first | rw [if_pos rfl] | rw [if_pos trivial]); (repeat rw [if_neg (by omega)]); rw [m2, m3]; omega)
  unfold wpX6_row
  rw [e4]
  refine ⟨inR_of (by omega), inR_of (by omega), fun c => key (t 4) (by split <;> omega), fun c => key debt (by rw [if_neg (by omega)])⟩
