/-! Sums over the lines; the whole; what the lines would be. -/
def OutS (names : List String) (C : (String → Prop) → (Int → Prop) → Prop) (M : (Int → Int → Prop) → Prop) : Prop :=
  (∃ v : Int, (∀ (xp : String → Prop) (post : Int → Prop), post v → C xp post) ∧ ∀ P : Int → Int → Prop, P v 0 → M P) ∨
  (∃ (k : Nat) (nm : String) (r : Int), names[k]? = some nm ∧ (∀ (xp : String → Prop) (post : Int → Prop), xp nm → C xp post) ∧ ∀ P : Int → Int → Prop, P r ((k : Int) + 1) → M P)
theorem sm_succ (g : Nat → Int) (k : Nat) : sm g (k + 1) = sm g k + g k := rfl
theorem sm_add (f g : Nat → Int) (n : Nat) : sm f n + sm g n = sm (fun k => f k + g k) n := by
  induction n with
  | zero => rfl
  | succ n ih => rw [sm_succ, sm_succ, sm_succ, ← ih]; omega
section Whole
variable {n : Int} {lt ln bd ah bh en st sh ms : Nat → Int} {L P : Nat} {lv pv lo line : Nat → Int}
theorem q1_sumOf (j : Nat) (hL : L ≤ 60) (hj : j < 12) {post : Int → Prop} (h : post (sm (fun l => lv (12 * l + j)) L)) : wpX1_sumOf (L : Int) lv (j : Int) post := by
  unfold wpX1_sumOf
  refine ⟨L + 1, ?_⟩
  have key : ∀ (f i : Nat) (a : Int), i + f = L → a = sm (fun l => lv (12 * l + j)) i → wpX1_sumOf_4 (L : Int) lv post (f + 1) (j : Int) a (i : Int) := by
    intro f
    induction f with
    | zero =>
      intro i a a1 a2
      have e : i = L := by omega
      rw [e] at a2
      rw [wpX1_sumOf_4]
      rw [← a2] at h
      exact ⟨inR_of (by omega), inR_of (by omega), fun _ => h, fun c => absurd (by omega) c⟩
    | succ f ih =>
      intro i a a1 a2
      rw [wpX1_sumOf_4]
      have h8 := ih (i + 1) (a + lv (12 * i + j)) (by omega) (by rw [sm_succ, a2])
      rw [show ((i + 1 : Nat) : Int) = (i : Int) + 1 by omega] at h8
      exact ⟨inR_of (by omega), inR_of (by omega), fun c => absurd c (by omega), fun _ => q1_lv j (by omega) hj h8⟩
  exact key L 0 0 (by omega) rfl
def lendG (lv : Nat → Int) (l : Nat) : Int := if lv (12 * l + 5) + lv (12 * l + 6) ≤ 0 then 0 else 1
theorem q1_lendingLines (hL : L ≤ 60) (hF : ∀ l : Nat, l < L → LF n en lv l) {post : Int → Prop} (h : post (sm (lendG lv) L)) : wpX1_lendingLines (L : Int) lv post := by
  unfold wpX1_lendingLines
  refine ⟨L + 1, ?_⟩
  have key : ∀ (f i : Nat) (a : Int), i + f = L → a = sm (lendG lv) i → wpX1_lendingLines_4 (L : Int) lv post (f + 1) a (i : Int) := by
    intro f
    induction f with
    | zero =>
      intro i a a1 a2
      have e : i = L := by omega
      rw [e] at a2
      rw [wpX1_lendingLines_4]
      rw [← a2] at h
      exact ⟨inR_of (by omega), inR_of (by omega), fun _ => h, fun c => absurd (by omega) c⟩
    | succ f ih =>
      intro i a a1 a2
      rw [wpX1_lendingLines_4]
      obtain ⟨f1, f2, f3, f4, f5, f6, f7, f8, f9, f10, f11, f12, f13, f14, f15, f16, f17, f18, f19⟩ := hF i (by omega)
      have h8 := ih (i + 1) (a + lendG lv i) (by omega) (by rw [sm_succ, a2])
      rw [show ((i + 1 : Nat) : Int) = (i : Int) + 1 by omega] at h8
      refine ⟨inR_of (by omega), inR_of (by omega), fun c => absurd c (by omega), fun _ => q1_lent (by omega) ⟨inR_of (by omega), fun c => ?_, fun c => ?_⟩⟩
      · unfold lendG at h8
        rw [if_pos c, Int.add_zero] at h8
        exact h8
      · unfold lendG at h8
        rw [if_neg c] at h8
        exact h8
  exact key L 0 0 (by omega) rfl
def sqG (lv : Nat → Int) (l : Nat) : Int := if lv (12 * l + 10) = 0 then lv (12 * l + 11) * lv (12 * l + 11) else 0
theorem q1_squares (hL : L ≤ 60) (hF : ∀ l : Nat, l < L → LF n en lv l) {post : Int → Prop} (h : post (sm (sqG lv) L)) : wpX1_squaresOfEmpty (L : Int) lv post := by
  unfold wpX1_squaresOfEmpty
  refine ⟨L + 1, ?_⟩
  have key : ∀ (f i : Nat) (a : Int), i + f = L → a = sm (sqG lv) i → wpX1_squaresOfEmpty_4 (L : Int) lv post (f + 1) a (i : Int) := by
    intro f
    induction f with
    | zero =>
      intro i a a1 a2
      have e : i = L := by omega
      rw [e] at a2
      rw [wpX1_squaresOfEmpty_4]
      rw [← a2] at h
      exact ⟨inR_of (by omega), inR_of (by omega), fun _ => h, fun c => absurd (by omega) c⟩
    | succ f ih =>
      intro i a a1 a2
      rw [wpX1_squaresOfEmpty_4]
      have hpe := (hF i (by omega)).2.2.2.2.2.2.2.2.2.2.2.2.2.2.2.2.1
      have hpe2 := pe_01 n en (lv (12 * i + 1) + lv (12 * i + 2) - 1)
      rw [← hpe] at hpe2
      have h8 := ih (i + 1) (a + sqG lv i) (by omega) (by rw [sm_succ, a2])
      rw [show ((i + 1 : Nat) : Int) = (i : Int) + 1 by omega] at h8
      refine ⟨inR_of (by omega), inR_of (by omega), fun c => absurd c (by omega), fun _ => q1_lv 11 (by omega) (by omega) (q1_lv 10 (by omega) (by omega) ⟨inR_of (by omega), fun c => ?_, fun c => ?_⟩)⟩
      · unfold sqG at h8
        rw [if_neg c, Int.add_zero] at h8
        exact h8
      · unfold sqG at h8
        rw [if_pos c] at h8
        exact h8
  exact key L 0 0 (by omega) rfl
theorem q6_uneven (R : RS n lt ln bd ah bh en st sh ms) (hL : L ≤ 60) (hF : ∀ l : Nat, l < L → LF n en lv l) (hR : ∀ l : Nat, l < L → LR lv line l) {post : Int → Prop} (h : post (sm (sqG lv) L)) : wpX6_unevennessNow (L : Int) ms line post := by
  unfold wpX6_unevennessNow
  refine ⟨L + 1, ?_⟩
  have key : ∀ (f i : Nat) (a : Int), i + f = L → a = sm (sqG lv) i → wpX6_unevennessNow_4 (L : Int) ms line post (f + 1) a (i : Int) := by
    intro f
    induction f with
    | zero =>
      intro i a a1 a2
      have e : i = L := by omega
      rw [e] at a2
      rw [wpX6_unevennessNow_4]
      rw [← a2] at h
      exact ⟨inR_of (by omega), inR_of (by omega), fun _ => h, fun c => absurd (by omega) c⟩
    | succ f ih =>
      intro i a a1 a2
      rw [wpX6_unevennessNow_4]
      have hpe := (hF i (by omega)).2.2.2.2.2.2.2.2.2.2.2.2.2.2.2.2.1
      have hpe2 := pe_01 n en (lv (12 * i + 1) + lv (12 * i + 2) - 1)
      rw [← hpe] at hpe2
      have h8 := ih (i + 1) (a + sqG lv i) (by omega) (by rw [sm_succ, a2])
      rw [show ((i + 1 : Nat) : Int) = (i : Int) + 1 by omega] at h8
      refine ⟨inR_of (by omega), inR_of (by omega), fun c => absurd c (by omega), fun _ => q6_there R (by omega) (hR i (by omega)) (hF i (by omega)) ⟨inR_of (by omega), fun c => q6_empty (by omega) (hR i (by omega)) (hF i (by omega)) (q6_empty (by omega) (hR i (by omega)) (hF i (by omega)) ?_), fun c => ?_⟩⟩
      · unfold sqG at h8
        rw [if_pos c] at h8
        exact h8
      · unfold sqG at h8
        rw [if_neg c] at h8
        exact h8
  exact key L 0 0 (by omega) rfl
theorem q6_sumOf (hL : L ≤ 60) (hF : ∀ l : Nat, l < L → LF n en lv l) (hR : ∀ l : Nat, l < L → LR lv line l) {j : Int} (hj : j = 10 ∨ j = 11 ∨ j = 12) {post : Int → Prop} (h : post (sm (fun l => if j = 10 then lendG lv l else if j = 11 then lv (12 * l + 9) else lv (12 * l + 5) + lv (12 * l + 6)) L)) : wpX6_sumOf (L : Int) line j post := by
  unfold wpX6_sumOf
  refine ⟨L + 1, ?_⟩
  have key : ∀ (f i : Nat) (a : Int), i + f = L → a = sm (fun l => if j = 10 then lendG lv l else if j = 11 then lv (12 * l + 9) else lv (12 * l + 5) + lv (12 * l + 6)) i → wpX6_sumOf_4 (L : Int) line post (f + 1) j a (i : Int) := by
    intro f
    induction f with
    | zero =>
      intro i a a1 a2
      have e : i = L := by omega
      rw [e] at a2
      rw [wpX6_sumOf_4]
      rw [← a2] at h
      exact ⟨inR_of (by omega), inR_of (by omega), fun _ => h, fun c => absurd (by omega) c⟩
    | succ f ih =>
      intro i a a1 a2
      rw [wpX6_sumOf_4]
      obtain ⟨f1, f2, f3, f4, f5, f6, f7, f8, f9, f10, f11, f12, f13, f14, f15, f16, f17, f18, f19⟩ := hF i (by omega)
      have h8 := ih (i + 1) (a + (if j = 10 then lendG lv i else if j = 11 then lv (12 * i + 9) else lv (12 * i + 5) + lv (12 * i + 6))) (by omega) (by rw [sm_succ, a2])
      rw [show ((i + 1 : Nat) : Int) = (i : Int) + 1 by omega] at h8
      refine ⟨inR_of (by omega), inR_of (by omega), fun c => absurd c (by omega), fun _ => ⟨inR_of (by omega), fun c1 => ⟨inR_of (by omega), fun c2 => ?_, fun c2 => ?_⟩, fun c1 => ?_⟩⟩
      · rw [if_neg c1, if_neg c2] at h8
        exact q6_lent (by omega) (hR i (by omega)) h8
      · rw [if_neg c1, if_pos c2] at h8
        rw [show (10 * (i : Int) + 9).toNat = 10 * i + 9 by omega, hR i (by omega) 9 (by omega)]
        exact ⟨by omega, by omega, h8⟩
      · rw [if_pos c1] at h8
        refine q6_lent (by omega) (hR i (by omega)) ⟨inR_of (by omega), fun c => ?_, fun c => ?_⟩
        · unfold lendG at h8
          rw [if_pos c] at h8
          exact h8
        · unfold lendG at h8
          rw [if_neg c] at h8
          exact h8
  exact key L 0 0 (by omega) rfl
theorem q6_paragraphs (R : RS n lt ln bd ah bh en st sh ms) {post : Int → Prop} (h : post (sm (fun w => pe n en (w : Int)) n.toNat)) : wpX6_paragraphs ms post := by
  have hn := R.2.2.1
  have hn0 := R.2.1
  unfold wpX6_paragraphs
  refine ⟨n.toNat + 1, ?_⟩
  have key : ∀ (f i : Nat) (a : Int), i + f = n.toNat → a = sm (fun w => pe n en (w : Int)) i → wpX6_paragraphs_4 ms post (f + 1) a (i : Int) := by
    intro f
    induction f with
    | zero =>
      intro i a a1 a2
      have e : i = n.toNat := by omega
      rw [e] at a2
      rw [wpX6_paragraphs_4, R.1]
      rw [← a2] at h
      exact ⟨inR_of (by omega), inR_of (by omega), fun _ => h, fun c => absurd (by omega) c⟩
    | succ f ih =>
      intro i a a1 a2
      rw [wpX6_paragraphs_4, R.1]
      have h8 := ih (i + 1) (a + pe n en (i : Int)) (by omega) (by rw [sm_succ, a2])
      rw [show ((i + 1 : Nat) : Int) = (i : Int) + 1 by omega] at h8
      have hpe := pe_01 n en (i : Int)
      refine ⟨inR_of (by omega), inR_of (by omega), fun c => absurd c (by omega), fun _ => q6_endsOne R (by omega) (by omega) ⟨inR_of (by omega), fun c => ?_, fun c => ?_⟩⟩
      · rw [c] at h8
        exact h8
      · rw [show pe n en (i : Int) = 1 by omega] at h8
        exact h8
  exact key n.toNat 0 0 (by omega) rfl
theorem whole_val (R : RS n lt ln bd ah bh en st sh ms) (K : LOK n en L n lv lo) {p1 ty : Int} (c1 : 0 ≤ p1 ∧ p1 ≤ 13) : ∃ v : Int, (∀ post : Int → Prop, post v → wpX5_wholeValue n en st (L : Int) (P : Int) lv ty p1 post) ∧ ∀ line : Nat → Int, (∀ l : Nat, l < L → LR lv line l) → ∀ post : Int → Prop, post v → wpX6_wholeOf ty (L : Int) (P : Int) ms line p1 post := by
      have hn := R.2.2.1
      have hn0 := R.2.1
      have hLn := K.1
      have hF := K.2.2.1
      have hen : ∀ w : Nat, (w : Int) < n → en w = 0 ∨ en w = 1 := fun w hw => R.2.2.2.2.2.2.1 w (by omega)
      have hst := R.2.2.2.1
      have hj : p1 = 0 ∨ p1 = 1 ∨ p1 = 2 ∨ p1 = 3 ∨ p1 = 4 ∨ p1 = 5 ∨ p1 = 6 ∨ p1 = 7 ∨ p1 = 8 ∨ p1 = 9 ∨ p1 = 10 ∨ p1 = 11 ∨ p1 = 12 ∨ p1 = 13 := by omega
      unfold wpX5_wholeValue wpX6_wholeOf wpX5_wholeValue_149 wpX6_wholeOf_95
      rcases hj with rfl | rfl | rfl | rfl | rfl | rfl | rfl | rfl | rfl | rfl | rfl | rfl | rfl | rfl
      · refine ⟨n, fun post hp => ⟨inR_lit rfl, ?_, ?_, ?_, ?_, ?_, ?_, ?_, ?_, ?_, ?_, ?_, ?_, ?_, ?_, ?_⟩, fun line hR post hp => ⟨inR_lit rfl, ?_, ?_, ?_, ?_, ?_, ?_, ?_, ?_, ?_, ?_, ?_, ?_, ?_, ?_, ?_⟩⟩ <;> intro c <;> first | exact absurd c (by decide) | skip
        · exact hp
        · rw [R.1]; exact hp
      · refine ⟨(L : Int), fun post hp => ⟨inR_lit rfl, ?_, ?_, ?_, ?_, ?_, ?_, ?_, ?_, ?_, ?_, ?_, ?_, ?_, ?_, ?_⟩, fun line hR post hp => ⟨inR_lit rfl, ?_, ?_, ?_, ?_, ?_, ?_, ?_, ?_, ?_, ?_, ?_, ?_, ?_, ?_, ?_⟩⟩ <;> intro c <;> first | exact absurd c (by decide) | exact hp
      · refine ⟨(P : Int), fun post hp => ⟨inR_lit rfl, ?_, ?_, ?_, ?_, ?_, ?_, ?_, ?_, ?_, ?_, ?_, ?_, ?_, ?_, ?_⟩, fun line hR post hp => ⟨inR_lit rfl, ?_, ?_, ?_, ?_, ?_, ?_, ?_, ?_, ?_, ?_, ?_, ?_, ?_, ?_, ?_⟩⟩ <;> intro c <;> first | exact absurd c (by decide) | exact hp
      · refine ⟨sm (fun w => pe n en (w : Int)) n.toNat, fun post hp => ⟨inR_lit rfl, ?_, ?_, ?_, ?_, ?_, ?_, ?_, ?_, ?_, ?_, ?_, ?_, ?_, ?_, ?_⟩, fun line hR post hp => ⟨inR_lit rfl, ?_, ?_, ?_, ?_, ?_, ?_, ?_, ?_, ?_, ?_, ?_, ?_, ?_, ?_, ?_⟩⟩ <;> intro c <;> first | exact absurd c (by decide) | skip
        · exact q3_paragraphs hn0 hn hen hp
        · exact q6_paragraphs R hp
      · refine ⟨st 0, fun post hp => ⟨inR_lit rfl, ?_, ?_, ?_, ?_, ?_, ?_, ?_, ?_, ?_, ?_, ?_, ?_, ?_, ?_, ?_⟩, fun line hR post hp => ⟨inR_lit rfl, ?_, ?_, ?_, ?_, ?_, ?_, ?_, ?_, ?_, ?_, ?_, ?_, ?_, ?_, ?_⟩⟩ <;> intro c <;> first | exact absurd c (by decide) | exact q3_setting (by decide) (by decide) hp | exact ⟨by decide, by decide, (hst 0 (by omega)).symm ▸ hp⟩
      · refine ⟨st 1, fun post hp => ⟨inR_lit rfl, ?_, ?_, ?_, ?_, ?_, ?_, ?_, ?_, ?_, ?_, ?_, ?_, ?_, ?_, ?_⟩, fun line hR post hp => ⟨inR_lit rfl, ?_, ?_, ?_, ?_, ?_, ?_, ?_, ?_, ?_, ?_, ?_, ?_, ?_, ?_, ?_⟩⟩ <;> intro c <;> first | exact absurd c (by decide) | exact q3_setting (by decide) (by decide) hp | exact ⟨by decide, by decide, (hst 1 (by omega)).symm ▸ hp⟩
      · refine ⟨st 2, fun post hp => ⟨inR_lit rfl, ?_, ?_, ?_, ?_, ?_, ?_, ?_, ?_, ?_, ?_, ?_, ?_, ?_, ?_, ?_⟩, fun line hR post hp => ⟨inR_lit rfl, ?_, ?_, ?_, ?_, ?_, ?_, ?_, ?_, ?_, ?_, ?_, ?_, ?_, ?_, ?_⟩⟩ <;> intro c <;> first | exact absurd c (by decide) | exact q3_setting (by decide) (by decide) hp | exact ⟨by decide, by decide, (hst 2 (by omega)).symm ▸ hp⟩
      · refine ⟨st 3, fun post hp => ⟨inR_lit rfl, ?_, ?_, ?_, ?_, ?_, ?_, ?_, ?_, ?_, ?_, ?_, ?_, ?_, ?_, ?_⟩, fun line hR post hp => ⟨inR_lit rfl, ?_, ?_, ?_, ?_, ?_, ?_, ?_, ?_, ?_, ?_, ?_, ?_, ?_, ?_, ?_⟩⟩ <;> intro c <;> first | exact absurd c (by decide) | exact q3_setting (by decide) (by decide) hp | exact ⟨by decide, by decide, (hst 3 (by omega)).symm ▸ hp⟩
      · refine ⟨st 4, fun post hp => ⟨inR_lit rfl, ?_, ?_, ?_, ?_, ?_, ?_, ?_, ?_, ?_, ?_, ?_, ?_, ?_, ?_, ?_⟩, fun line hR post hp => ⟨inR_lit rfl, ?_, ?_, ?_, ?_, ?_, ?_, ?_, ?_, ?_, ?_, ?_, ?_, ?_, ?_, ?_⟩⟩ <;> intro c <;> first | exact absurd c (by decide) | exact q3_setting (by decide) (by decide) hp | exact ⟨by decide, by decide, (hst 4 (by omega)).symm ▸ hp⟩
      · refine ⟨st 5, fun post hp => ⟨inR_lit rfl, ?_, ?_, ?_, ?_, ?_, ?_, ?_, ?_, ?_, ?_, ?_, ?_, ?_, ?_, ?_⟩, fun line hR post hp => ⟨inR_lit rfl, ?_, ?_, ?_, ?_, ?_, ?_, ?_, ?_, ?_, ?_, ?_, ?_, ?_, ?_, ?_⟩⟩ <;> intro c <;> first | exact absurd c (by decide) | exact q3_setting (by decide) (by decide) hp | exact ⟨by decide, by decide, (hst 5 (by omega)).symm ▸ hp⟩
      · refine ⟨sm (lendG lv) L, fun post hp => ⟨inR_lit rfl, ?_, ?_, ?_, ?_, ?_, ?_, ?_, ?_, ?_, ?_, ?_, ?_, ?_, ?_, ?_⟩, fun line hR post hp => ⟨inR_lit rfl, ?_, ?_, ?_, ?_, ?_, ?_, ?_, ?_, ?_, ?_, ?_, ?_, ?_, ?_, ?_⟩⟩ <;> intro c <;> first | exact absurd c (by decide) | skip
        · exact q1_lendingLines (by omega) hF hp
        · exact q6_sumOf (by omega) hF hR (Or.inl rfl) hp
      · refine ⟨sm (fun l => lv (12 * l + 9)) L, fun post hp => ⟨inR_lit rfl, ?_, ?_, ?_, ?_, ?_, ?_, ?_, ?_, ?_, ?_, ?_, ?_, ?_, ?_, ?_⟩, fun line hR post hp => ⟨inR_lit rfl, ?_, ?_, ?_, ?_, ?_, ?_, ?_, ?_, ?_, ?_, ?_, ?_, ?_, ?_, ?_⟩⟩ <;> intro c <;> first | exact absurd c (by decide) | skip
        · exact q1_sumOf 9 (by omega) (by omega) hp
        · exact q6_sumOf (by omega) hF hR (Or.inr (Or.inl rfl)) hp
      · refine ⟨sm (fun l => lv (12 * l + 5) + lv (12 * l + 6)) L, fun post hp => ⟨inR_lit rfl, ?_, ?_, ?_, ?_, ?_, ?_, ?_, ?_, ?_, ?_, ?_, ?_, ?_, ?_, ?_⟩, fun line hR post hp => ⟨inR_lit rfl, ?_, ?_, ?_, ?_, ?_, ?_, ?_, ?_, ?_, ?_, ?_, ?_, ?_, ?_, ?_⟩⟩ <;> intro c <;> first | exact absurd c (by decide) | skip
        · refine q1_sumOf 5 (by omega) (by omega) (q1_sumOf 6 (by omega) (by omega) ?_)
          rw [sm_add]
          exact hp
        · exact q6_sumOf (by omega) hF hR (Or.inr (Or.inr rfl)) hp
      · refine ⟨ty, fun post hp => ⟨inR_lit rfl, ?_, ?_, ?_, ?_, ?_, ?_, ?_, ?_, ?_, ?_, ?_, ?_, ?_, ?_, ?_⟩, fun line hR post hp => ⟨inR_lit rfl, ?_, ?_, ?_, ?_, ?_, ?_, ?_, ?_, ?_, ?_, ?_, ?_, ?_, ?_, ?_⟩⟩ <;> intro c <;> first | exact absurd c (by decide) | exact hp
theorem o_whole (R : RS n lt ln bd ah bh en st sh ms) (Y : Lay n en ms (tS st) L P lv pv lo) {p1 th l0 p0 me ml mr ty : Int} {line0 page0 : Nat → Int} (h1 : inR p1) :
    OutM [xIA] (fun xp post => wpX5_whole n en st (L : Int) (P : Int) lv ty p1 xp post) (fun Q => wpX6_whole ty th l0 p0 me ml mr ms line0 page0 p1 Q) := by
  have hn := R.2.2.1
  have hn0 := R.2.1
  have hLn := Y.1.1
  have hF := Y.1.2.2.1
  have hen : ∀ w : Nat, (w : Int) < n → en w = 0 ∨ en w = 1 := fun w hw => R.2.2.2.2.2.2.1 w (by omega)
  unfold OutM wpX5_whole wpX6_whole wpX6_tells wpX6_fails
  by_cases c1 : 0 ≤ p1 ∧ p1 ≤ 13
  · obtain ⟨v, a1, a2⟩ := whole_val (ty := ty) (P := P) R Y.1 c1
    exact Or.inl ⟨v, fun xp post hp => q5_cr h1 (inR_lit rfl) (inR_lit rfl) (fun _ => a1 _ hp) (fun z => absurd c1 z), fun Q hQ => q6_in h1 (inR_lit rfl) (inR_lit rfl) (fun _ => ⟨inR_lit rfl, fun _ => q6_makes R Y (fun line page hl hpg => a2 line hl _ (hQ _ _ _ _ _ _ _)), fun z => absurd z (by decide)⟩) (fun z => absurd c1 z)⟩
  · exact Or.inr ⟨0, xIA, 0, rfl, fun xp post hp => q5_cr h1 (inR_lit rfl) (inR_lit rfl) (fun z => absurd z c1) (fun _ => hp), fun Q hQ => q6_in h1 (inR_lit rfl) (inR_lit rfl) (fun z => absurd z c1) (fun _ => ⟨inR_lit rfl, fun z => absurd rfl z, fun _ => hQ _ _ _ _ _ _ _⟩)⟩
theorem o_share (R : RS n lt ln bd ah bh en st sh ms) {p1 th : Int} (h1 : inR p1) : OutS [xIX] (fun xp post => wpX5_share sh p1 xp post) (fun Q => wpX6_share th ms p1 Q) := by
  unfold OutS wpX5_share wpX6_share wpX6_tells wpX6_fails
  by_cases c1 : 0 ≤ p1 ∧ p1 < 8
  · have e := (R.2.2.2.2.1 p1.toNat (by omega)).1
    refine Or.inl ⟨sh p1.toNat, fun xp post hp => q5_ci h1 (inR_lit rfl) (fun _ => q3_shareOf (by omega) (by omega) ?_) (fun z => absurd c1 z), fun Q hQ => q6_in h1 (inR_lit rfl) (inR_lit rfl) (fun _ => ⟨inR_lit rfl, fun z => absurd z (by decide), fun _ => ⟨by omega, by omega, ?_⟩⟩) (fun z => absurd ⟨c1.1, by omega⟩ z)⟩
    · rw [if_neg (by omega)]
      exact hp
    · rw [show (6 + p1).toNat = 6 + p1.toNat by omega, e]
      exact hQ
  · exact Or.inr ⟨0, xIX, 0, rfl, fun xp post hp => q5_ci h1 (inR_lit rfl) (fun z => absurd z c1) (fun _ => hp), fun Q hQ => q6_in h1 (inR_lit rfl) (inR_lit rfl) (fun z => absurd ⟨z.1, by omega⟩ c1) (fun _ => ⟨inR_lit rfl, fun _ => hQ, fun z => absurd rfl z⟩)⟩
theorem o_unevenness (R : RS n lt ln bd ah bh en st sh ms) (Y : Lay n en ms (tS st) L P lv pv lo) {th l0 p0 me ml mr : Int} {line0 page0 : Nat → Int} :
    OutM [] (fun _ post => wpX5_unevenness (L : Int) lv post) (fun Q => wpX6_unevenness th l0 p0 me ml mr ms line0 page0 Q) := by
  have hn := R.2.2.1
  have hLn := Y.1.1
  unfold OutM wpX5_unevenness wpX6_unevenness wpX6_tells
  exact Or.inl ⟨sm (sqG lv) L, fun _ post hp => q1_squares (by omega) Y.1.2.2.1 hp, fun Q hQ => q6_makes R Y (fun line page hl hpg => q6_uneven R (by omega) Y.1.2.2.1 hl (hQ _ _ _ _ _ _ _))⟩
end Whole
