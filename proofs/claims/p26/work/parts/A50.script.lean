/-! Pure rows: what the predicates of the class's Script come to. -/
def sgW (s : Int) : Int := if s = -1 then 0 else if s = 0 ∨ s = 5 then 3 else 2
def sgB (s : Int) : Int := if s = 0 then 34 else if s = 1 then 40 else if s = 2 then 41 else if s = 3 then 46 else if s = 4 then 44 else if s = 5 then 45 else if s = 6 then 59 else 33
def sgN (s : Int) : Int := if s = -1 then -1 else sgB s
def ov (sh : Nat → Int) (s : Int) : Int := if s = -1 then 0 else sgW s * sh s.toNat / 100
def lw (l : Int) : Int := tb_LETTER_WIDTH l.toNat
def sm (g : Nat → Int) : Nat → Int
  | 0 => 0
  | k + 1 => sm g k + g k
theorem sm_cong {f g : Nat → Int} {n : Nat} (h : ∀ k, k < n → f k = g k) : sm f n = sm g n := by
  induction n with
  | zero => rfl
  | succ n ih => rw [sm, sm, ih (fun k hk => h k (by omega)), h n (by omega)]
theorem sgW_bd (s : Int) : 0 ≤ sgW s ∧ sgW s ≤ 3 := by unfold sgW; split <;> (try split) <;> omega
theorem ov_bd {sh : Nat → Int} {s : Int} (h0 : -1 ≤ s) (h1 : s ≤ 7) (hs : ∀ i : Nat, i < 8 → 0 ≤ sh i ∧ sh i ≤ 100) : 0 ≤ ov sh s ∧ ov sh s ≤ 3 := by
  unfold ov
  split
  · omega
  · have h2 := hs s.toNat (by omega)
    have h3 : sgW s = 0 ∨ sgW s = 2 ∨ sgW s = 3 := by unfold sgW; split <;> (try split) <;> omega
    rcases h3 with h3 | h3 | h3 <;> rw [h3] <;> omega
theorem lw_bd {l : Int} (h0 : 0 ≤ l) (h1 : l < 26) : 2 ≤ lw l ∧ lw l ≤ 6 := by
  have hc : l = 0 ∨ l = 1 ∨ l = 2 ∨ l = 3 ∨ l = 4 ∨ l = 5 ∨ l = 6 ∨ l = 7 ∨ l = 8 ∨ l = 9 ∨ l = 10 ∨ l = 11 ∨ l = 12 ∨ l = 13 ∨ l = 14 ∨ l = 15 ∨ l = 16 ∨ l = 17 ∨ l = 18 ∨ l = 19 ∨ l = 20 ∨ l = 21 ∨ l = 22 ∨ l = 23 ∨ l = 24 ∨ l = 25 := by omega
  rcases hc with rfl | rfl | rfl | rfl | rfl | rfl | rfl | rfl | rfl | rfl | rfl | rfl | rfl | rfl | rfl | rfl | rfl | rfl | rfl | rfl | rfl | rfl | rfl | rfl | rfl | rfl <;> decide
theorem q5_signWidth {s : Int} {post : Int → Prop} (h0 : -1 ≤ s) (h1 : s ≤ 7) (h : post (sgW s)) : wpX5_signWidth s post := by
  have hc : s = -1 ∨ s = 0 ∨ s = 1 ∨ s = 2 ∨ s = 3 ∨ s = 4 ∨ s = 5 ∨ s = 6 ∨ s = 7 := by omega
  unfold wpX5_signWidth
  rcases hc with rfl | rfl | rfl | rfl | rfl | rfl | rfl | rfl | rfl <;> repeat' (first | exact h | omega | refine And.intro ?_ ?_ | intro _)
theorem q5_signByte {s : Int} {post : Int → Prop} (h0 : -1 ≤ s) (h1 : s ≤ 7) (h : post (sgN s)) : wpX5_signByte s post := by
  have hc : s = -1 ∨ s = 0 ∨ s = 1 ∨ s = 2 ∨ s = 3 ∨ s = 4 ∨ s = 5 ∨ s = 6 ∨ s = 7 := by omega
  unfold wpX5_signByte
  rcases hc with rfl | rfl | rfl | rfl | rfl | rfl | rfl | rfl | rfl <;> repeat' (first | exact h | omega | refine And.intro ?_ ?_ | intro _)
theorem q3_has {n w : Int} {post : Int → Prop} (h0 : 0 ≤ w) (h1 : w < n) (h2 : n ≤ 60) (h : post 1) : wpX3_has n w post := by
  unfold wpX3_has
  repeat' (first | exact h | omega | refine And.intro ?_ ?_ | intro _)
theorem q3_setting {st : Nat → Int} {w : Int} {post : Int → Prop} (h0 : 0 ≤ w) (h1 : w < 6) (h : post (st w.toNat)) : wpX3_setting st w post := by
  unfold wpX3_setting
  repeat' (first | exact h | omega | refine And.intro ?_ ?_ | intro _)
theorem q3_shareOf {sh : Nat → Int} {w : Int} {post : Int → Prop} (h0 : -1 ≤ w) (h1 : w ≤ 7) (h : post (if w = -1 then 0 else sh w.toNat)) : wpX3_shareOf sh w post := by
  unfold wpX3_shareOf
  by_cases c : w = -1
  · rw [if_pos c] at h
    repeat' (first | exact h | omega | refine And.intro ?_ ?_ | intro _)
  · rw [if_neg c] at h
    repeat' (first | exact h | omega | refine And.intro ?_ ?_ | intro _)
theorem q3_overhang {sh : Nat → Int} {s : Int} {post : Int → Prop} (hs : ∀ i : Nat, i < 8 → 0 ≤ sh i ∧ sh i ≤ 100) (h0 : -1 ≤ s) (h1 : s ≤ 7) (h : post (ov sh s)) : wpX3_overhang sh s post := by
  unfold wpX3_overhang
  refine q5_signWidth h0 h1 (q3_shareOf h0 h1 ?_)
  unfold ov at h
  by_cases c : s = -1
  · rw [if_pos c] at h ⊢
    rw [Int.mul_zero]
    exact ⟨by omega, by omega, h⟩
  · rw [if_neg c] at h ⊢
    have h2 := hs s.toNat (by omega)
    have h3 : sgW s = 0 ∨ sgW s = 2 ∨ sgW s = 3 := by unfold sgW; split <;> (try split) <;> omega
    refine ⟨?_, ?_, h⟩ <;> rcases h3 with h3 | h3 | h3 <;> rw [h3] <;> omega
theorem q3_lengthOf {n w : Int} {ln : Nat → Int} {post : Int → Prop} (h0 : 0 ≤ w) (h1 : w < n) (h2 : n ≤ 60) (h : post (ln w.toNat)) : wpX3_lengthOf n ln w post := by
  unfold wpX3_lengthOf
  refine q3_has h0 h1 h2 ?_
  repeat' (first | exact h | omega | refine And.intro ?_ ?_ | intro _)
theorem q3_aheadOf {n w : Int} {ah : Nat → Int} {post : Int → Prop} (h0 : 0 ≤ w) (h1 : w < n) (h2 : n ≤ 60) (h : post (ah w.toNat)) : wpX3_aheadOf n ah w post := by
  unfold wpX3_aheadOf
  refine q3_has h0 h1 h2 ?_
  repeat' (first | exact h | omega | refine And.intro ?_ ?_ | intro _)
theorem q3_behindOf {n w : Int} {bh : Nat → Int} {post : Int → Prop} (h0 : 0 ≤ w) (h1 : w < n) (h2 : n ≤ 60) (h : post (bh w.toNat)) : wpX3_behindOf n bh w post := by
  unfold wpX3_behindOf
  refine q3_has h0 h1 h2 ?_
  repeat' (first | exact h | omega | refine And.intro ?_ ?_ | intro _)
theorem q3_widthOf {n w : Int} {bd ah bh : Nat → Int} {post : Int → Prop} (h0 : 0 ≤ w) (h1 : w < n) (h2 : n ≤ 60) (ha : -1 ≤ ah w.toNat ∧ ah w.toNat ≤ 7) (hb : -1 ≤ bh w.toNat ∧ bh w.toNat ≤ 7) (h : post (bd w.toNat + sgW (ah w.toNat) + sgW (bh w.toNat))) : wpX3_widthOf n bd ah bh w post := by
  unfold wpX3_widthOf
  refine q3_has h0 h1 h2 ?_
  refine ⟨inR_lit rfl, fun c => absurd c (by decide), fun _ => ⟨h0, by omega, h0, by omega, q5_signWidth ha.1 ha.2 ⟨h0, by omega, q5_signWidth hb.1 hb.2 h⟩⟩⟩
theorem q3_wasSetToEnd {n w : Int} {en : Nat → Int} {post : Int → Prop} (h0 : 0 ≤ w) (h1 : w < n) (h2 : n ≤ 60) (he : en w.toNat = 0 ∨ en w.toNat = 1) (h : post (en w.toNat)) : wpX3_wasSetToEnd n en w post := by
  unfold wpX3_wasSetToEnd
  refine q3_has h0 h1 h2 ?_
  rcases he with e | e <;> rw [e] at h ⊢ <;> repeat' (first | exact h | omega | refine And.intro ?_ ?_ | intro _)
/-- whether a word ends a paragraph, as a number -/
def pe (n : Int) (en : Nat → Int) (w : Int) : Int := if en w.toNat = 1 ∨ w = n - 1 then 1 else 0
theorem pe_01 (n : Int) (en : Nat → Int) (w : Int) : pe n en w = 0 ∨ pe n en w = 1 := by unfold pe; split <;> simp
theorem q3_endsParagraph {n w : Int} {en : Nat → Int} {post : Int → Prop} (h0 : 0 ≤ w) (h1 : w < n) (h2 : n ≤ 60) (he : en w.toNat = 0 ∨ en w.toNat = 1) (h : post (pe n en w)) : wpX3_endsParagraph n en w post := by
  unfold wpX3_endsParagraph
  refine q3_has h0 h1 h2 ?_
  unfold pe at h
  rcases he with e | e
  · by_cases c : w = n - 1
    · rw [if_pos (Or.inr c)] at h
      rw [e]
      repeat' (first | exact h | omega | refine And.intro ?_ ?_ | intro _)
    · rw [if_neg (by rw [e]; omega)] at h
      rw [e]
      repeat' (first | exact h | omega | refine And.intro ?_ ?_ | intro _)
  · rw [if_pos (Or.inl e)] at h
    rw [e]
    repeat' (first | exact h | omega | refine And.intro ?_ ?_ | intro _)
theorem q3_paragraphs {n : Int} {en : Nat → Int} {post : Int → Prop} (h0 : 0 ≤ n) (h2 : n ≤ 60) (he : ∀ w : Nat, (w : Int) < n → en w = 0 ∨ en w = 1) (h : post (sm (fun w => pe n en (w : Int)) n.toNat)) : wpX3_paragraphs n en post := by
  refine ⟨n.toNat + 1, ?_⟩
  have key : ∀ (f i : Nat), i + f = n.toNat → wpX3_paragraphs_4 n en post (f + 1) (sm (fun w => pe n en (w : Int)) i) (i : Int) := by
    intro f
    induction f with
    | zero =>
      intro i hi
      rw [wpX3_paragraphs_4]
      refine ⟨inR_of ⟨by omega, by omega⟩, inR_of ⟨by omega, by omega⟩, fun _ => ?_, fun c => absurd (show n ≤ (i : Int) by omega) c⟩
      rw [show i = n.toNat by omega]
      exact h
    | succ f ih =>
      intro i hi
      rw [wpX3_paragraphs_4]
      refine ⟨inR_of ⟨by omega, by omega⟩, inR_of ⟨by omega, by omega⟩, fun c => absurd c (by omega), fun _ => ?_⟩
      refine q3_endsParagraph (by omega) (by omega) h2 (by have := he i (by omega); simpa using this) ?_
      have hi1 := ih (i + 1) (by omega)
      have e1 : ((i + 1 : Nat) : Int) = (i : Int) + 1 := by omega
      rw [e1] at hi1
      have e2 : sm (fun w => pe n en (w : Int)) (i + 1) = sm (fun w => pe n en (w : Int)) i + pe n en (i : Int) := rfl
      rw [e2] at hi1
      unfold wpX3_paragraphs_23
      rcases pe_01 n en (i : Int) with e | e <;> rw [e] at hi1 ⊢
      · rw [Int.add_zero] at hi1
        exact ⟨inR_lit rfl, fun _ => hi1, fun c => absurd rfl c⟩
      · exact ⟨inR_lit rfl, fun c => absurd c (by decide), fun _ => hi1⟩
  exact key n.toNat 0 (by omega)
def ld (s : Int) : Int := if s = -1 then 0 else 1
theorem q3_writtenLength {n w : Int} {ln ah bh : Nat → Int} {post : Int → Prop} (h0 : 0 ≤ w) (h1 : w < n) (h2 : n ≤ 60) (ha : -1 ≤ ah w.toNat ∧ ah w.toNat ≤ 7) (hb : -1 ≤ bh w.toNat ∧ bh w.toNat ≤ 7) (h : post (ln w.toNat + (ld (ah w.toNat) + ld (bh w.toNat)))) : wpX3_writtenLength n ln ah bh w post := by
  unfold wpX3_writtenLength
  refine q3_aheadOf h0 h1 h2 ?_
  unfold ld at h
  by_cases c1 : ah w.toNat = -1 <;> by_cases c2 : bh w.toNat = -1 <;> simp only [c1, c2, if_true, if_false] at h
  all_goals
    refine ⟨inR_of (by omega), fun q => ?_, fun q => ?_⟩
    all_goals first | omega | skip
    all_goals
      unfold wpX3_writtenLength_14
      refine q3_behindOf h0 h1 h2 ⟨inR_of (by omega), fun q2 => ?_, fun q2 => ?_⟩
      all_goals first | omega | skip
      all_goals
        unfold wpX3_writtenLength_28
        exact q3_lengthOf h0 h1 h2 h
/-- byte i of a word as it is written; none -/
def wb (lt ln ah bh : Nat → Int) (w : Nat) (i : Int) : Int :=
  if ah w ≠ -1 ∧ i = 0 then sgB (ah w) else
    let q := if ah w = -1 then i else i - 1
    if q < 0 ∨ ln w < q then -1 else if q < ln w then 97 + lt (12 * w + q.toNat) else sgN (bh w)
theorem q3_writtenByteOf {n w i : Int} {lt ln ah bh : Nat → Int} {post : Int → Prop} (h0 : 0 ≤ w) (h1 : w < n) (h2 : n ≤ 60) (ha : -1 ≤ ah w.toNat ∧ ah w.toNat ≤ 7) (hb : -1 ≤ bh w.toNat ∧ bh w.toNat ≤ 7) (hl : 1 ≤ ln w.toNat ∧ ln w.toNat ≤ 12) (hi : 0 ≤ i ∧ i ≤ 2147483647) (h : post (wb lt ln ah bh w.toNat i)) : wpX3_writtenByteOf n lt ln ah bh w i post := by
  unfold wpX3_writtenByteOf
  refine q3_aheadOf h0 h1 h2 ?_
  have last : ∀ q : Int, -1 ≤ q → q ≤ 2147483647 → post (if q < 0 ∨ ln w.toNat < q then -1 else if q < ln w.toNat then 97 + lt (12 * w.toNat + q.toNat) else sgN (bh w.toNat)) → wpX3_writtenByteOf_32 n lt ln ah bh post w q := by
    intro q q0 q1 hq
    unfold wpX3_writtenByteOf_32
    refine q3_has h0 h1 h2 ⟨inR_lit rfl, fun c => absurd c (by decide), fun _ => ⟨inR_of (by omega), fun c => ?_, fun c => ⟨h0, by omega, inR_of (by omega), inR_of (by omega), fun c2 => ⟨h0, by omega, inR_of (by omega), inR_of (by omega), fun c3 => ?_, fun c3 => ⟨inR_of (by omega), fun c4 => absurd c4 (by omega), fun _ => ⟨by omega, by omega, ?_⟩⟩⟩, fun c2 => ?_⟩⟩⟩
    · rw [if_pos (Or.inl c)] at hq
      exact hq
    · rw [if_neg (by omega), if_neg (by omega)] at hq
      exact ⟨h0, by omega, q5_signByte hb.1 hb.2 hq⟩
    · rw [if_neg (by omega), if_pos (by omega)] at hq
      rw [show (w * 12 + q).toNat = 12 * w.toNat + q.toNat by omega]
      exact hq
    · rw [if_pos (Or.inr (by omega))] at hq
      exact hq
  unfold wb at h
  by_cases c1 : ah w.toNat = -1
  · rw [if_neg (fun z => z.1 c1)] at h
    simp only [if_pos c1] at h
    refine ⟨inR_of (by omega), fun _ => ?_, fun c => absurd c1 c⟩
    unfold wpX3_writtenByteOf_20
    exact ⟨inR_of (by omega), fun c => absurd c1 c, fun _ => last i (by omega) hi.2 h⟩
  · refine ⟨inR_of (by omega), fun c => absurd c c1, fun _ => ⟨inR_of (by omega), fun c => ?_, fun c => ?_⟩⟩
    · rw [if_neg (fun z => c z.2)] at h
      simp only [if_neg c1] at h
      unfold wpX3_writtenByteOf_20
      exact ⟨inR_of (by omega), fun _ => last (i - 1) (by omega) (by omega) h, fun z => absurd z c1⟩
    · rw [if_pos ⟨c1, c⟩] at h
      refine q5_signByte ha.1 ha.2 ?_
      unfold sgN
      rw [if_neg c1]
      exact h
theorem q3_move {lt ln bd ah bh en : Nat → Int} {a b k : Int} {post : (Nat → Int) → (Nat → Int) → (Nat → Int) → (Nat → Int) → (Nat → Int) → (Nat → Int) → Prop} (h0 : 0 ≤ a) (h1 : 0 ≤ b) (h2 : 0 ≤ k) (h3 : a + k ≤ 60) (h4 : b + k ≤ 60) (he : ∀ i : Nat, i < 60 → en i = 0 ∨ en i = 1)
    (h : post (cpyI lt lt (a * 12).toNat (b * 12).toNat (k * 12).toNat) (cpyI ln ln a.toNat b.toNat k.toNat) (cpyI bd bd a.toNat b.toNat k.toNat) (cpyI ah ah a.toNat b.toNat k.toNat) (cpyI bh bh a.toNat b.toNat k.toNat) (cpyI en en a.toNat b.toNat k.toNat)) : wpX3_move lt ln bd ah bh en a b k post := by
  unfold wpX3_move
  have hz : ∀ i : Nat, i < k.toNat → en (a.toNat + i) = 0 ∨ en (a.toNat + i) = 1 := fun i hi => he _ (by omega)
  have hm : (if a < b then b else a) + k ≤ 60 := by split <;> omega
  have hm0 : 0 ≤ (if a < b then b else a) := by split <;> omega
  generalize (if a < b then b else a) = mx at hm hm0 ⊢
  repeat' (first | exact h | exact hz | omega | refine And.intro ?_ ?_ | intro _)
theorem q3_open {n : Int} {lt ln bd ah bh en : Nat → Int} {a : Int} {post : Int → (Nat → Int) → (Nat → Int) → (Nat → Int) → (Nat → Int) → (Nat → Int) → (Nat → Int) → Prop} (h0 : 0 ≤ a) (h1 : a ≤ n) (h2 : n < 60) (he : ∀ i : Nat, i < 60 → en i = 0 ∨ en i = 1)
    (h : post (n + 1) (cpyI lt lt (a * 12).toNat ((a + 1) * 12).toNat ((n - a) * 12).toNat) (updI (cpyI ln ln a.toNat (a + 1).toNat (n - a).toNat) a.toNat 0) (updI (cpyI bd bd a.toNat (a + 1).toNat (n - a).toNat) a.toNat 0) (updI (cpyI ah ah a.toNat (a + 1).toNat (n - a).toNat) a.toNat (-1)) (updI (cpyI bh bh a.toNat (a + 1).toNat (n - a).toNat) a.toNat (-1)) (updI (cpyI en en a.toNat (a + 1).toNat (n - a).toNat) a.toNat 0)) : wpX3_open n lt ln bd ah bh en a post := by
  unfold wpX3_open
  refine ⟨inR_of (by omega), fun c => absurd c (by omega), fun _ => ⟨inR_of (by omega), inR_of (by omega), fun c => absurd c (by omega), fun _ => ⟨inR_of (by omega), fun _ => q3_move h0 (by omega) (by omega) (by omega) (by omega) he ?_, fun c => absurd c (by omega)⟩⟩⟩
  repeat' (first | exact h | omega | refine And.intro ?_ ?_)
theorem q3_close {n : Int} {lt ln bd ah bh en : Nat → Int} {a : Int} {post : Int → (Nat → Int) → (Nat → Int) → (Nat → Int) → (Nat → Int) → (Nat → Int) → (Nat → Int) → Prop} (h0 : 0 ≤ a) (h1 : a < n) (h2 : n ≤ 60) (he : ∀ i : Nat, i < 60 → en i = 0 ∨ en i = 1)
    (h : post (n - 1) (cpyI lt lt ((a + 1) * 12).toNat (a * 12).toNat ((n - a - 1) * 12).toNat) (cpyI ln ln (a + 1).toNat a.toNat (n - a - 1).toNat) (cpyI bd bd (a + 1).toNat a.toNat (n - a - 1).toNat) (cpyI ah ah (a + 1).toNat a.toNat (n - a - 1).toNat) (cpyI bh bh (a + 1).toNat a.toNat (n - a - 1).toNat) (cpyI en en (a + 1).toNat a.toNat (n - a - 1).toNat)) : wpX3_close n lt ln bd ah bh en a post := by
  unfold wpX3_close
  refine q3_has h0 h1 h2 ⟨inR_lit rfl, fun _ => ?_, fun c => absurd c (by decide)⟩
  exact q3_move (by omega) h0 (by omega) (by omega) (by omega) he h
theorem q3_addLetter {n w l : Int} {lt ln bd : Nat → Int} {post : Int → (Nat → Int) → (Nat → Int) → (Nat → Int) → Prop} (h0 : 0 ≤ w) (h1 : w < n) (h2 : n ≤ 60) (hl : 0 ≤ ln w.toNat ∧ ln w.toNat ≤ 12) (hr : inR l)
    (h : if 0 ≤ l ∧ l < 26 ∧ ln w.toNat < 12 then post 1 (updI lt (w * 12 + ln w.toNat).toNat l) (updI ln w.toNat (ln w.toNat + 1)) (updI bd w.toNat (bd w.toNat + lw l)) else post 0 lt ln bd) : wpX3_addLetter n lt ln bd w l post := by
  unfold wpX3_addLetter
  refine q3_has h0 h1 h2 ⟨inR_lit rfl, fun c => absurd c (by decide), fun _ => ⟨hr, fun c => ?_, fun c => ⟨hr, fun c2 => ⟨h0, by omega, inR_of (by omega), fun c3 => absurd c3 (by omega), fun _ => ⟨inR_of (by omega), fun c4 => ?_, fun c4 => ?_⟩⟩, fun c2 => ?_⟩⟩⟩
  · rw [if_neg (by omega)] at h
    exact h
  · rw [if_pos ⟨by omega, c2, c4⟩] at h
    repeat' (first | exact h | omega | refine And.intro ?_ ?_)
  · rw [if_neg (by omega)] at h
    exact h
  · rw [if_neg (by omega)] at h
    exact h
theorem q3_putSigns {n w x y : Int} {ah bh : Nat → Int} {post : (Nat → Int) → (Nat → Int) → Prop} (h0 : 0 ≤ w) (h1 : w < n) (h2 : n ≤ 60) (h : post (updI ah w.toNat x) (updI bh w.toNat y)) : wpX3_putSigns n ah bh w x y post := by
  unfold wpX3_putSigns
  refine q3_has h0 h1 h2 ?_
  repeat' (first | exact h | omega | refine And.intro ?_ ?_ | intro _)
theorem q3_putEnd {n w x : Int} {en : Nat → Int} {post : (Nat → Int) → Prop} (h0 : 0 ≤ w) (h1 : w < n) (h2 : n ≤ 60) (hx : x = 0 ∨ x = 1) (h : post (updI en w.toNat x)) : wpX3_putEnd n en w x post := by
  unfold wpX3_putEnd
  refine q3_has h0 h1 h2 ?_
  repeat' (first | exact h | exact hx | omega | refine And.intro ?_ ?_ | intro _)
