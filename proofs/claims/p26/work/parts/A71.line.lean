/-! Lines, pages, the whole. -/
section Line
variable {n : Int} {lt ln bd ah bh en st sh ms : Nat → Int} {L P : Nat} {lv pv lo line : Nat → Int}
theorem q6_lent {l : Nat} {post : Int → Prop} (hl : l < 60) (hR : LR lv line l) (h : post (lv (12 * l + 5) + lv (12 * l + 6))) : wpX6_lent line (l : Int) post := by
  unfold wpX6_lent
  rw [show (10 * (l : Int) + 5).toNat = 10 * l + 5 by omega, show (10 * (l : Int) + 6).toNat = 10 * l + 6 by omega, hR 5 (by omega), hR 6 (by omega)]
  exact ⟨by omega, by omega, by omega, by omega, h⟩
theorem q6_empty {l : Nat} {post : Int → Prop} (hl : l < 60) (hR : LR lv line l) (hF : LF n en lv l) (h : post (lv (12 * l + 11))) : wpX6_empty line (l : Int) post := by
  obtain ⟨f1, f2, f3, f4, f5, f6, f7, f8, f9, f10, f11, f12, f13, f14, f15, f16, f17, f18, f19⟩ := hF
  unfold wpX6_empty
  rw [show (10 * (l : Int) + 9).toNat = 10 * l + 9 by omega, show (10 * (l : Int) + 4).toNat = 10 * l + 4 by omega, show (10 * (l : Int) + 3).toNat = 10 * l + 3 by omega, hR 9 (by omega), hR 4 (by omega), hR 3 (by omega)]
  rw [f18] at h
  rcases f16 with e | e
  · rw [if_pos e] at h
    exact ⟨by omega, by omega, inR_of (by omega), fun _ => ⟨by omega, by omega, q6_lent hl hR ⟨by omega, by omega, h⟩⟩, fun z => absurd z (by omega)⟩
  · rw [if_neg (by omega)] at h
    exact ⟨by omega, by omega, inR_of (by omega), fun z => absurd e z, fun _ => h⟩
theorem q6_there (R : RS n lt ln bd ah bh en st sh ms) {l : Nat} {post : Int → Prop} (hl : l < 60) (hR : LR lv line l) (hF : LF n en lv l) (h : post (lv (12 * l + 10))) : wpX6_endsOneThere ms line (l : Int) post := by
  obtain ⟨f1, f2, f3, f4, f5, f6, f7, f8, f9, f10, f11, f12, f13, f14, f15, f16, f17, f18, f19⟩ := hF
  unfold wpX6_endsOneThere
  rw [show (10 * (l : Int) + 1).toNat = 10 * l + 1 by omega, show (10 * (l : Int) + 2).toNat = 10 * l + 2 by omega, hR 1 (by omega), hR 2 (by omega)]
  rw [f17] at h
  exact ⟨by omega, by omega, by omega, by omega, q6_endsOne R (by omega) (by omega) ⟨pe_01 _ _ _, h⟩⟩
theorem line_val (R : RS n lt ln bd ah bh en st sh ms) {l : Nat} (hl : l < 60) (hF : LF n en lv l) (hR : LR lv line l) {j : Int} (hj : 0 ≤ j ∧ j ≤ 11) {post : Int → Prop} (h : post (lv (12 * l + j.toNat))) : wpX6_lineTold ms line (l : Int) j post := by
  have hj2 := inR_of (z := j) (by omega)
  unfold wpX6_lineTold
  refine ⟨hj2, fun c => ⟨hj2, fun c2 => ?_, fun c2 => ?_⟩, fun c => ?_⟩
  · rw [show j.toNat = 11 by omega] at h
    exact q6_empty hl hR hF h
  · rw [show j.toNat = 10 by omega] at h
    refine q6_there R hl hR hF ?_
    have f17 := hF.2.2.2.2.2.2.2.2.2.2.2.2.2.2.2.2.1
    rcases pe_01 n en (lv (12 * l + 1) + lv (12 * l + 2) - 1) with e | e
    · rw [e] at f17
      rw [f17] at h ⊢
      exact ⟨inR_lit rfl, fun _ => h, fun z => absurd rfl z⟩
    · rw [e] at f17
      rw [f17] at h ⊢
      exact ⟨inR_lit rfl, fun z => absurd z (by decide), fun _ => h⟩
  · rw [show (10 * (l : Int) + j).toNat = 10 * l + j.toNat by omega, hR j.toNat (by omega)]
    exact ⟨by omega, by omega, h⟩
theorem o_line (R : RS n lt ln bd ah bh en st sh ms) (Y : Lay n en ms (tS st) L P lv pv lo) {p1 p2 th l0 p0 me ml mr : Int} {line0 page0 : Nat → Int} (h1 : inR p1) (h2 : inR p2) :
    OutM [xIX, xIA] (fun xp post => wpX5_line (L : Int) lv p1 p2 xp post) (fun P => wpX6_line th l0 p0 me ml mr ms line0 page0 p1 p2 P) := by
  have hn := R.2.2.1
  have hLn := Y.1.1
  unfold OutM wpX5_line wpX6_line wpX6_line_16 wpX6_tells wpX6_fails
  by_cases c1 : 0 ≤ p1 ∧ p1 < (L : Int)
  · obtain ⟨w, hw⟩ := Int.eq_ofNat_of_zero_le c1.1
    subst hw
    have hF := Y.1.2.2.1 w (by omega)
    by_cases c2 : 0 ≤ p2 ∧ p2 ≤ 11
    · refine Or.inl ⟨lv (12 * w + p2.toNat), fun xp post hp => q5_ci h1 (inR_of (by omega)) (fun _ => q5_cr h2 (inR_lit rfl) (inR_lit rfl) (fun _ => q1_lineValue (by omega) (by omega) (by omega) (by omega) hp) (fun z => absurd c2 z)) (fun z => absurd c1 z), fun P hP => q6_makes R Y (fun line page hl hpg => ⟨h1, fun z => absurd z (by omega), fun _ => ⟨h1, inR_of (by omega), fun _ => q6_in h2 (inR_lit rfl) (inR_lit rfl) (fun _ => ⟨inR_lit rfl, fun z => absurd z (by decide), fun _ => line_val R (by omega) hF (hl w (by omega)) c2 (hP _ _ _ _ _ _ _)⟩) (fun z => absurd c2 z), fun z => absurd c1.2 z⟩⟩)⟩
    · refine Or.inr ⟨1, xIA, 0, rfl, fun xp post hp => q5_ci h1 (inR_of (by omega)) (fun _ => q5_cr h2 (inR_lit rfl) (inR_lit rfl) (fun z => absurd z c2) (fun _ => hp)) (fun z => absurd c1 z), fun P hP => q6_makes R Y (fun line page hl hpg => ⟨h1, fun z => absurd z (by omega), fun _ => ⟨h1, inR_of (by omega), fun _ => q6_in h2 (inR_lit rfl) (inR_lit rfl) (fun z => absurd z c2) (fun _ => ⟨inR_lit rfl, fun _ => hP _ _ _ _ _ _ _, fun z => absurd rfl z⟩), fun z => absurd c1.2 z⟩⟩)⟩
  · refine Or.inr ⟨0, xIX, 0, rfl, fun xp post hp => q5_ci h1 (inR_of (by omega)) (fun z => absurd z c1) (fun _ => hp), fun P hP => q6_makes R Y (fun line page hl hpg => ⟨h1, fun _ => hP _ _ _ _ _ _ _, fun z => ⟨h1, inR_of (by omega), fun z2 => absurd ⟨by omega, z2⟩ c1, fun _ => hP _ _ _ _ _ _ _⟩⟩)⟩
theorem page_val {page : Nat → Int} {p F L' : Nat} {tk : Int} (hL : L ≤ 60) (hp60 : p < 60) (hFL : F < L') (hL' : L' ≤ L) (hK : ∀ l : Nat, l < L → LF n en lv l) (hI : pageIs pv lv p F L' tk) (hR : ∀ l : Nat, l < L → LR lv line l) (hP : PR pv page p) {j : Int} (hj : 0 ≤ j ∧ j ≤ 5) {post : Int → Prop} (h : post (pv (6 * p + j.toNat))) : wpX6_pageTold line page (p : Int) j post := by
  have hj2 := inR_of (z := j) (by omega)
  obtain ⟨r0, r1, r2⟩ := hP
  obtain ⟨i0, i1, i2, i3, i4, i5⟩ := hI
  rw [i0] at r0
  rw [i1] at r1
  have z0 : (3 * (p : Int)).toNat = 3 * p := by omega
  have z1 : (3 * (p : Int) + 1).toNat = 3 * p + 1 := by omega
  have z2 : (3 * (p : Int) + 2).toNat = 3 * p + 2 := by omega
  have loop : ∀ (g : Nat → Int) (jj : Int), (∀ (l : Nat) (post2 : Int → Prop), l < L → post2 (g l) → (inR jj ∧ (¬ jj = 2 → 0 ≤ ((10 * (l : Int)) + 7) ∧ ((10 * (l : Int)) + 7) < 600 ∧ post2 (line ((10 * (l : Int)) + 7).toNat)) ∧ (jj = 2 → wpX6_lent line (l : Int) post2))) → post (sr g F (L' - F)) → ∃ n0 : Nat, wpX6_pageTold_86 line page post n0 jj ((F : Int) + ((L' : Int) - F)) 0 (F : Int) := by
    intro g jj hg hpost
    refine ⟨(L' - F) + 1, ?_⟩
    have key : ∀ (f i : Nat) (a : Int), F ≤ i → i + f = L' → a = sr g F (i - F) → wpX6_pageTold_86 line page post (f + 1) jj ((F : Int) + ((L' : Int) - F)) a (i : Int) := by
      intro f
      induction f with
      | zero =>
        intro i a a1 a2 a3
        have e : i = L' := by omega
        rw [e] at a3
        rw [wpX6_pageTold_86]
        rw [← a3] at hpost
        exact ⟨inR_of (by omega), inR_of (by omega), fun _ => hpost, fun c => absurd (by omega) c⟩
      | succ f ih =>
        intro i a a1 a2 a3
        rw [wpX6_pageTold_86]
        have h8 := ih (i + 1) (a + g i) (by omega) (by omega) (by rw [show i + 1 - F = (i - F) + 1 by omega, sr_succ, show F + (i - F) = i by omega, a3])
        rw [show ((i + 1 : Nat) : Int) = (i : Int) + 1 by omega] at h8
        have h9 := hg i (fun z => wpX6_pageTold_122 line page post (wpX6_pageTold_86 line page post (f + 1)) jj ((F : Int) + ((L' : Int) - F)) (i : Int) z a) (by omega) h8
        exact ⟨inR_of (by omega), inR_of (by omega), fun c => absurd c (by omega), fun _ => h9⟩
    exact key (L' - F) F 0 (Nat.le_refl _) (by omega) (by rw [Nat.sub_self]; rfl)
  unfold wpX6_pageTold wpX6_pageTold_51
  rw [z0, z1, z2, r0, r1]
  have hj3 : j = 0 ∨ j = 1 ∨ j = 2 ∨ j = 3 ∨ j = 4 ∨ j = 5 := by omega
  rcases hj3 with rfl | rfl | rfl | rfl | rfl | rfl
  · have h0 : post (F : Int) := by rw [← i0]; exact h
    refine ⟨by omega, by omega, by omega, by omega, inR_lit rfl, fun _ => ⟨inR_lit rfl, fun _ => ⟨inR_lit rfl, fun _ => ⟨by omega, by omega, ?_⟩, fun z => absurd z (by decide)⟩, fun z => absurd (by decide) z⟩, fun z => absurd z (by decide)⟩
    rw [show (3 * (p : Int) + 0).toNat = 3 * p by omega, r0]
    exact h0
  · have h0 : post ((L' : Int) - F) := by rw [← i1]; exact h
    refine ⟨by omega, by omega, by omega, by omega, inR_lit rfl, fun _ => ⟨inR_lit rfl, fun _ => ⟨inR_lit rfl, fun _ => ⟨by omega, by omega, ?_⟩, fun z => absurd z (by decide)⟩, fun z => absurd (by decide) z⟩, fun z => absurd z (by decide)⟩
    rw [z1, r1]
    exact h0
  · have h0 : post (sr (fun l => lv (12 * l + 5) + lv (12 * l + 6)) F (L' - F)) := by rw [← i2]; exact h
    refine ⟨by omega, by omega, by omega, by omega, inR_lit rfl, fun _ => ⟨inR_lit rfl, fun z => absurd z (by decide), fun _ => ⟨inR_lit rfl, fun _ => loop _ 2 (fun l post2 hl h2 => ⟨inR_lit rfl, fun z => absurd rfl z, fun _ => q6_lent (by omega) (hR l hl) h2⟩) h0, fun z => absurd z (by decide)⟩⟩, fun z => absurd z (by decide)⟩
  · have h0 : post (sr (fun l => lv (12 * l + 7)) F (L' - F)) := by rw [← i3]; exact h
    refine ⟨by omega, by omega, by omega, by omega, inR_lit rfl, fun _ => ⟨inR_lit rfl, fun z => absurd z (by decide), fun _ => ⟨inR_lit rfl, fun _ => loop _ 3 (fun l post2 hl h2 => ⟨inR_lit rfl, fun _ => ⟨by omega, by omega, ?_⟩, fun z => absurd z (by decide)⟩) h0, fun z => absurd z (by decide)⟩⟩, fun z => absurd z (by decide)⟩
    rw [show (10 * (l : Int) + 7).toNat = 10 * l + 7 by omega, hR l hl 7 (by omega)]
    exact h2
  · have h0 : post (lv (12 * (L' - 1) + 8)) := by rw [← i4]; exact h
    refine ⟨by omega, by omega, by omega, by omega, inR_lit rfl, fun z => absurd rfl z, fun _ => ⟨by omega, by omega, ?_⟩⟩
    rw [show (10 * ((F : Int) + ((L' : Int) - F)) - 2).toNat = 10 * (L' - 1) + 8 by omega, hR (L' - 1) (by omega) 8 (by omega)]
    exact h0
  · refine ⟨by omega, by omega, by omega, by omega, inR_lit rfl, fun _ => ⟨inR_lit rfl, fun z => absurd z (by decide), fun _ => ⟨inR_lit rfl, fun z => absurd rfl z, fun _ => ⟨inR_lit rfl, fun z => absurd rfl z, fun _ => ⟨by omega, by omega, ?_⟩⟩⟩⟩, fun z => absurd z (by decide)⟩
    rw [r2]
    exact h
theorem o_page (R : RS n lt ln bd ah bh en st sh ms) (Y : Lay n en ms (tS st) L P lv pv lo) {p1 p2 th l0 p0 me ml mr : Int} {line0 page0 : Nat → Int} (h1 : inR p1) (h2 : inR p2) :
    OutM [xIX, xIA] (fun xp post => wpX5_page (P : Int) pv p1 p2 xp post) (fun P => wpX6_page th l0 p0 me ml mr ms line0 page0 p1 p2 P) := by
  have hn := R.2.2.1
  have hLn := Y.1.1
  have hPL := Y.2.1.1
  unfold OutM wpX5_page wpX6_page wpX6_page_16 wpX6_tells wpX6_fails
  by_cases c1 : 0 ≤ p1 ∧ p1 < (P : Int)
  · obtain ⟨w, hw⟩ := Int.eq_ofNat_of_zero_le c1.1
    subst hw
    obtain ⟨F, L', tk, d1, d2, d3, d4⟩ := Y.2.1.2 w (by omega)
    by_cases c2 : 0 ≤ p2 ∧ p2 ≤ 5
    · refine Or.inl ⟨pv (6 * w + p2.toNat), fun xp post hp => q5_ci h1 (inR_of (by omega)) (fun _ => q5_cr h2 (inR_lit rfl) (inR_lit rfl) (fun _ => q1_pageValue (by omega) (by omega) (by omega) (by omega) hp) (fun z => absurd c2 z)) (fun z => absurd c1 z), fun P hP => q6_makes R Y (fun line page hl hpg => ⟨h1, fun z => absurd z (by omega), fun _ => ⟨h1, inR_of (by omega), fun _ => q6_in h2 (inR_lit rfl) (inR_lit rfl) (fun _ => ⟨inR_lit rfl, fun z => absurd z (by decide), fun _ => page_val (by omega) (by omega) d1 d2 Y.1.2.2.1 d4 hl (hpg w (by omega)) c2 (hP _ _ _ _ _ _ _)⟩) (fun z => absurd c2 z), fun z => absurd c1.2 z⟩⟩)⟩
    · refine Or.inr ⟨1, xIA, 0, rfl, fun xp post hp => q5_ci h1 (inR_of (by omega)) (fun _ => q5_cr h2 (inR_lit rfl) (inR_lit rfl) (fun z => absurd z c2) (fun _ => hp)) (fun z => absurd c1 z), fun P hP => q6_makes R Y (fun line page hl hpg => ⟨h1, fun z => absurd z (by omega), fun _ => ⟨h1, inR_of (by omega), fun _ => q6_in h2 (inR_lit rfl) (inR_lit rfl) (fun z => absurd z c2) (fun _ => ⟨inR_lit rfl, fun _ => hP _ _ _ _ _ _ _, fun z => absurd rfl z⟩), fun z => absurd c1.2 z⟩⟩)⟩
  · refine Or.inr ⟨0, xIX, 0, rfl, fun xp post hp => q5_ci h1 (inR_of (by omega)) (fun z => absurd z c1) (fun _ => hp), fun P hP => q6_makes R Y (fun line page hl hpg => ⟨h1, fun _ => hP _ _ _ _ _ _ _, fun z => ⟨h1, inR_of (by omega), fun z2 => absurd ⟨by omega, z2⟩ c1, fun _ => hP _ _ _ _ _ _ _⟩⟩)⟩
end Line
