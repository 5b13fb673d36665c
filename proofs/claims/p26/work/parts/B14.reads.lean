/-! What the class's object tells, when it stands as the law's rows say. -/
def J26x (n : Int) (lt ln bd ah bh en st sh : Nat → Int) (yl yp : Int) (lv pv lo : Nat → Int) (xl hc : Int) (g0 g1 g2 g3 : SS) (g e : Nat → Int) : Prop :=
  ∃ (ms past : Nat → Int) (pasts : Int) (L P : Nat), RS n lt ln bd ah bh en st sh ms ∧ HR hc g0 g1 g2 g3 pasts past ∧ G26 n lt ln ah bh en st sh g e ∧ yl = (L : Int) ∧ yp = (P : Int) ∧ Lay26 n bd ah bh en st g e L P lv pv lo ∧ xl = 0
def J26 (sg : OS) (g e : Nat → Int) : Prop := J26x sg.1 sg.2.1 sg.2.2.1 sg.2.2.2.1 sg.2.2.2.2.1 sg.2.2.2.2.2.1 sg.2.2.2.2.2.2.1 sg.2.2.2.2.2.2.2.1 sg.2.2.2.2.2.2.2.2.1 sg.2.2.2.2.2.2.2.2.2.1 sg.2.2.2.2.2.2.2.2.2.2.1 sg.2.2.2.2.2.2.2.2.2.2.2.1 sg.2.2.2.2.2.2.2.2.2.2.2.2.1 sg.2.2.2.2.2.2.2.2.2.2.2.2.2.1 sg.2.2.2.2.2.2.2.2.2.2.2.2.2.2.2.2.2.2.2.2.2.2.2.2.2.2.2.2.2.2.2.2.2.2.2.2.2.1 sg.2.2.2.2.2.2.2.2.2.2.2.2.2.2.2.2.2.2.2.2.2.2.2.2.2.2.2.2.2.2.2.2.2.2.2.2.2.2.2.2.2.2.2.2.2.2.2.2.2.1 sg.2.2.2.2.2.2.2.2.2.2.2.2.2.2.2.2.2.2.2.2.2.2.2.2.2.2.2.2.2.2.2.2.2.2.2.2.2.2.2.2.2.2.2.2.2.2.2.2.2.2.2.1 sg.2.2.2.2.2.2.2.2.2.2.2.2.2.2.2.2.2.2.2.2.2.2.2.2.2.2.2.2.2.2.2.2.2.2.2.2.2.2.2.2.2.2.2.2.2.2.2.2.2.2.2.2.1 sg.2.2.2.2.2.2.2.2.2.2.2.2.2.2.2.2.2.2.2.2.2.2.2.2.2.2.2.2.2.2.2.2.2.2.2.2.2.2.2.2.2.2.2.2.2.2.2.2.2.2.2.2.2.1 sg.2.2.2.2.2.2.2.2.2.2.2.2.2.2.2.2.2.2.2.2.2.2.2.2.2.2.2.2.2.2.2.2.2.2.2.2.2.2.2.2.2.2.2.2.2.2.2.2.2.2.2.2.2.2 g e
def Reads (sg : OS) (n : Int) (ln bd ah bh en st sh : Nat → Int) (L P : Nat) (lv pv : Nat → Int) : Prop :=
  (∀ (l first w : Nat), l < L → lv (12 * l + 1) = (first : Int) → first ≤ w → (w : Int) < lv (12 * l + 1) + lv (12 * l + 2) → ∀ post : Int → Prop,
    (post (ln w) → pwL_wordOf0 sg (w : Int) 0 post) ∧ (post (cW bd ah bh w) → pwL_wordOf0 sg (w : Int) 1 post) ∧ (post (ah w) → pwL_wordOf0 sg (w : Int) 2 post) ∧ (post (bh w) → pwL_wordOf0 sg (w : Int) 3 post) ∧ (post (en w) → pwL_wordOf0 sg (w : Int) 4 post) ∧ (post (l : Int) → pwL_wordOf0 sg (w : Int) 5 post) ∧ (post ((w : Int) - first) → pwL_wordOf0 sg (w : Int) 6 post) ∧ (post (lv (12 * l)) → pwL_wordOf0 sg (w : Int) 7 post) ∧ (post (eg bd ah bh lv l first w) → pwL_wordOf0 sg (w : Int) 8 post)) ∧
  (∀ (l j : Nat) (post : Int → Prop), l < L → j < 12 → post (lv (12 * l + j)) → pwL_lineOf0 sg (l : Int) (j : Int) post) ∧
  (∀ (p j : Nat) (post : Int → Prop), p < P → j < 6 → post (pv (6 * p + j)) → pwL_pageOf0 sg (p : Int) (j : Int) post) ∧
  (∀ post : Int → Prop, (post n → pwL_wholeOf0 sg 0 post) ∧ (post (L : Int) → pwL_wholeOf0 sg 1 post) ∧ (post (P : Int) → pwL_wholeOf0 sg 2 post) ∧ (post (sm (fun w => pe n en (w : Int)) n.toNat) → pwL_wholeOf0 sg 3 post) ∧ (post (sm (lendG lv) L) → pwL_wholeOf0 sg 10 post) ∧ (post (sm (fun l => lv (12 * l + 9)) L) → pwL_wholeOf0 sg 11 post) ∧ (post (sm (fun l => lv (12 * l + 5) + lv (12 * l + 6)) L) → pwL_wholeOf0 sg 12 post) ∧ (post 0 → pwL_wholeOf0 sg 13 post)) ∧
  (∀ (k : Nat) (post : Int → Prop), k < 6 → post (st k) → pwL_wholeOf0 sg (4 + (k : Int)) post) ∧
  (∀ (k : Nat) (post : Int → Prop), k < 8 → post (sh k) → pwL_shareOf0 sg (k : Int) post) ∧
  (∀ post : Int → Prop, post (sm (sqG lv) L) → pwP_unevenness sg post) ∧
  (∀ post : UInt64 → Prop, (L = 0 → post FP.dconst0) → (0 < L → post (FP.ddiv (FP.i2d (iI (sm (fun l => lv (12 * l + 11)) L))) (FP.i2d (iI (L : Int))))) → pwP_meanEmpty sg post) ∧
  (∀ post : Int → Prop, (post (-100001) → pwL_wordOf sg n 0 post) ∧ (post (-100001) → pwL_lineOf sg (L : Int) 0 post) ∧ (post (-100001) → pwL_pageOf sg (P : Int) 0 post))
theorem nIXIA' : xIX ≠ xIA := by decide +kernel
theorem lo_eq {n : Int} {en lv lo : Nat → Int} {L : Nat} (K : LOK n en L n lv lo) {l w : Nat} (hl : l < L) (h1 : lv (12 * l + 1) ≤ (w : Int)) (h2 : (w : Int) < lv (12 * l + 1) + lv (12 * l + 2)) : lo w = (l : Int) := by
  have hb := (K.2.2.1 l hl).2.2.1
  obtain ⟨l', first, b1, b2, b3, b4, b5, b6⟩ := lo_line K (w := w) (by omega)
  rw [b2]
  by_cases c : l < l'
  · have := b6 l c
    omega
  · by_cases c2 : l' < l
    · obtain ⟨k, hk⟩ : ∃ k : Nat, l = l' + k + 1 := ⟨l - l' - 1, by omega⟩
      have m1 := K.mono l' k (by omega)
      have m2 := K.2.2.2.1 (l' + k) (by omega)
      rw [← hk] at m2
      omega
    · rw [show l' = l by omega]
theorem reads26 {sg : OS} {g e : Nat → Int} (J : J26 sg g e) : ∃ (n : Int) (lt ln bd ah bh en st sh ms : Nat → Int) (L P : Nat) (lv pv lo : Nat → Int), RS n lt ln bd ah bh en st sh ms ∧ G26 n lt ln ah bh en st sh g e ∧ Lay26 n bd ah bh en st g e L P lv pv lo ∧ Reads sg n ln bd ah bh en st sh L P lv pv := by
  obtain ⟨ms, past, pasts, L, P, R, -, Gr, eL, eP, Y, ex⟩ := J
  refine ⟨_, _, _, _, _, _, _, _, _, ms, L, P, _, _, _, R, Gr, Y, ?_⟩
  have hn := R.2.2.1
  have hn0 := R.2.1
  have K := Y.1
  have hLn := K.1
  have hF := K.2.2.1
  have hPL := Y.2.2.1.1
  have hen : ∀ w : Nat, (w : Int) < sg.1 → sg.2.2.2.2.2.2.1 w = 0 ∨ sg.2.2.2.2.2.2.1 w = 1 := fun w hw => R.2.2.2.2.2.2.1 w (by omega)
  unfold Reads pwL_wordOf0 pwL_lineOf0 pwL_pageOf0 pwL_wholeOf0 pwL_shareOf0 pwP_unevenness pwP_meanEmpty pwL_wordOf pwL_lineOf pwL_pageOf
  rw [eL, eP, ex]
  refine ⟨fun l first w hl hf h1 h2 post => ?_, fun l j post hl hj hp => ?_, fun p j post hp hj h => ?_, fun post => ?_, fun k post hk h => ?_, fun k post hk h => ?_, fun post h => ?_, fun post h0 h1 => ?_, fun post => ?_⟩
  · have hb := (hF l hl).2.2.1
    have hw : (w : Int) < sg.1 := by omega
    have elo := lo_eq K hl (by omega) h2
    obtain ⟨a1, a2, a3, a4, a5, a6, a7, a8, a9, a10, -⟩ := R.2.2.2.2.2.2.2 w hw
    have he := R.2.2.2.2.2.2.1 w (by omega)
    have pre : ∀ (j : Int) (post : Int → Prop), 0 ≤ j → j ≤ 8 → wpX5_wordValue sg.1 sg.2.2.1 sg.2.2.2.1 sg.2.2.2.2.1 sg.2.2.2.2.2.1 sg.2.2.2.2.2.2.1 sg.2.2.2.2.2.2.2.2.2.2.2.1 sg.2.2.2.2.2.2.2.2.2.2.2.2.2.1 (w : Int) j (fun z3 => post z3) → wpX5_word sg.1 sg.2.2.1 sg.2.2.2.1 sg.2.2.2.2.1 sg.2.2.2.2.2.1 sg.2.2.2.2.2.2.1 sg.2.2.2.2.2.2.2.2.2.2.2.1 sg.2.2.2.2.2.2.2.2.2.2.2.2.2.1 (w : Int) j (fun _ => False) (fun z => post z) := by
      intro j post j0 j8 h
      unfold wpX5_word
      exact q5_ci (inR_of (by omega)) (inR_of (by omega)) (fun _ => q5_cr (inR_of (by omega)) (inR_lit rfl) (inR_lit rfl) (fun _ => h) (fun z => absurd ⟨j0, j8⟩ z)) (fun z => absurd ⟨by omega, hw⟩ z)
    refine ⟨fun hp => pre 0 post (by decide) (by decide) ?_, fun hp => pre 1 post (by decide) (by decide) ?_, fun hp => pre 2 post (by decide) (by decide) ?_, fun hp => pre 3 post (by decide) (by decide) ?_, fun hp => pre 4 post (by decide) (by decide) ?_, fun hp => pre 5 post (by decide) (by decide) ?_, fun hp => pre 6 post (by decide) (by decide) ?_, fun hp => pre 7 post (by decide) (by decide) ?_, fun hp => pre 8 post (by decide) (by decide) ?_⟩
    all_goals
      unfold wpX5_wordValue
      refine q1_low (by omega) ⟨inR_lit rfl, ?_, ?_, ?_, ?_, ?_, ?_, ?_, ?_, ?_⟩ <;> intro c <;> first | exact absurd c (by decide) | skip
    · exact q3_lengthOf (by omega) hw hn hp
    · exact q3_widthOf (by omega) hw hn ⟨a7, Int.le_trans a8 (by omega)⟩ ⟨a9, a10⟩ hp
    · exact q3_aheadOf (by omega) hw hn hp
    · exact q3_behindOf (by omega) hw hn hp
    · refine q3_wasSetToEnd (by omega) hw hn he ?_
      rw [Int.toNat_natCast]
      rcases he with q | q
      · rw [q] at hp ⊢
        exact ⟨inR_lit rfl, fun _ => hp, fun c => absurd rfl c⟩
      · rw [q] at hp ⊢
        exact ⟨inR_lit rfl, fun c => absurd c (by decide), fun _ => hp⟩
    · rw [elo]; exact hp
    · rw [elo]
      refine q1_lv 1 (by omega) (by omega) ?_
      rw [hf]; exact hp
    · rw [elo]
      exact q1_lv 0 (by omega) (by omega) hp
    · rw [elo]
      exact q5_leftEdge R (by omega) hf h1 hw hp
  · unfold wpX5_line
    exact q5_ci (inR_of (by omega)) (inR_of (by omega)) (fun _ => q5_cr (inR_of (by omega)) (inR_lit rfl) (inR_lit rfl) (fun _ => q1_lv j (by omega) hj hp) (fun z => absurd ⟨by omega, by omega⟩ z)) (fun z => absurd ⟨by omega, by omega⟩ z)
  · unfold wpX5_page
    refine q5_ci (inR_of (by omega)) (inR_of (by omega)) (fun _ => q5_cr (inR_of (by omega)) (inR_lit rfl) (inR_lit rfl) (fun _ => q1_pageValue (by omega) (by omega) (by omega) (by omega) ?_) (fun z => absurd ⟨by omega, by omega⟩ z)) (fun z => absurd ⟨by omega, by omega⟩ z)
    rw [Int.toNat_natCast, Int.toNat_natCast]
    exact h
  · have pre : ∀ (j : Int), 0 ≤ j → j ≤ 13 → wpX5_wholeValue sg.1 sg.2.2.2.2.2.2.1 sg.2.2.2.2.2.2.2.1 (L : Int) (P : Int) sg.2.2.2.2.2.2.2.2.2.2.2.1 0 j (fun z2 => post z2) → wpX5_whole sg.1 sg.2.2.2.2.2.2.1 sg.2.2.2.2.2.2.2.1 (L : Int) (P : Int) sg.2.2.2.2.2.2.2.2.2.2.2.1 0 j (fun _ => False) (fun z => post z) := by
      intro j j0 j13 h
      unfold wpX5_whole
      exact q5_cr (inR_of (by omega)) (inR_lit rfl) (inR_lit rfl) (fun _ => h) (fun z => absurd ⟨j0, j13⟩ z)
    refine ⟨fun hp => pre 0 (by decide) (by decide) ?_, fun hp => pre 1 (by decide) (by decide) ?_, fun hp => pre 2 (by decide) (by decide) ?_, fun hp => pre 3 (by decide) (by decide) ?_, fun hp => pre 10 (by decide) (by decide) ?_, fun hp => pre 11 (by decide) (by decide) ?_, fun hp => pre 12 (by decide) (by decide) ?_, fun hp => pre 13 (by decide) (by decide) ?_⟩
    all_goals
      unfold wpX5_wholeValue
      refine ⟨inR_lit rfl, ?_, ?_, ?_, ?_, ?_, ?_, ?_, ?_, ?_, ?_, ?_, ?_, ?_, ?_, ?_⟩ <;> intro c <;> first | exact absurd c (by decide) | skip
    · exact hp
    · exact hp
    · exact hp
    · exact q3_paragraphs hn0 hn hen hp
    · exact q1_lendingLines (by omega) hF hp
    · exact q1_sumOf 9 (by omega) (by omega) hp
    · refine q1_sumOf 5 (by omega) (by omega) (q1_sumOf 6 (by omega) (by omega) ?_)
      rw [sm_add]
      exact hp
    · exact hp
  · unfold wpX5_whole
    refine q5_cr (inR_of (by omega)) (inR_lit rfl) (inR_lit rfl) (fun _ => ?_) (fun z => absurd ⟨by omega, by omega⟩ z)
    have hk2 : k = 0 ∨ k = 1 ∨ k = 2 ∨ k = 3 ∨ k = 4 ∨ k = 5 := by omega
    unfold wpX5_wholeValue wpX5_wholeValue_149
    rcases hk2 with rfl | rfl | rfl | rfl | rfl | rfl
    all_goals
      refine ⟨inR_lit rfl, ?_, ?_, ?_, ?_, ?_, ?_, ?_, ?_, ?_, ?_, ?_, ?_, ?_, ?_, ?_⟩ <;> intro c <;> first | exact absurd c (by decide) | exact q3_setting (by decide) (by decide) h
  · unfold wpX5_share
    refine q5_ci (inR_of (by omega)) (inR_lit rfl) (fun _ => q3_shareOf (by omega) (by omega) ?_) (fun z => absurd ⟨by omega, by omega⟩ z)
    rw [if_neg (by omega), Int.toNat_natCast]
    exact h
  · unfold wpX5_unevenness
    exact q1_squares (by omega) hF h
  · unfold wpX5_meanEmpty
    have hb := sm_bd (g := fun l => sg.2.2.2.2.2.2.2.2.2.2.2.1 (12 * l + 11)) (a := 0) (b := 200) L (fun k hk => ⟨(hF k hk).2.2.2.2.2.2.2.2.2.2.2.2.2.2.2.2.2.2.1, (hF k hk).2.2.2.2.2.2.2.2.2.2.2.2.2.2.2.2.2.2.2⟩)
    exact ⟨inR_of (by omega), fun c => q1_sumOf 11 (by omega) (by omega) ⟨noNaN _ _ (by omega) (by omega) (by omega) (by omega), h1 (by omega)⟩, fun c => h0 (by omega)⟩
  · unfold wpX5_word wpX5_line wpX5_page
    exact ⟨fun h => q5_ci (inR_of (by omega)) (inR_of (by omega)) (fun z => absurd z.2 (by omega)) (fun _ => ⟨fun _ => h, fun z => absurd z nIXIA', Or.inl rfl⟩), fun h => q5_ci (inR_of (by omega)) (inR_of (by omega)) (fun z => absurd z.2 (by omega)) (fun _ => ⟨fun _ => h, fun z => absurd z nIXIA', Or.inl rfl⟩), fun h => q5_ci (inR_of (by omega)) (inR_of (by omega)) (fun z => absurd z.2 (by omega)) (fun _ => ⟨fun _ => h, fun z => absurd z nIXIA', Or.inl rfl⟩)⟩
theorem r_whole14 {sg : OS} {post : Int → Prop} (h : post (-100002)) : pwL_wholeOf sg 14 post := by
  unfold pwL_wholeOf wpX5_whole
  exact q5_cr (inR_lit rfl) (inR_lit rfl) (inR_lit rfl) (fun z => absurd z.2 (by decide)) (fun _ => ⟨fun _ => h, rfl⟩)
theorem r_share8 {sg : OS} {post : Int → Prop} (h : post (-100001)) : pwL_shareOf sg 8 post := by
  unfold pwL_shareOf wpX5_share
  exact q5_ci (inR_lit rfl) (inR_lit rfl) (fun z => absurd z.2 (by decide)) (fun _ => ⟨fun _ => h, rfl⟩)
theorem cmp_same {z : UInt64} (h : vf_n64 z) : (Op.cmpValue (FP.dcmp z z) CmpOp.l).toInt = 0 := by
  have hd : FP.Core.decode FP.Core.b64 z.toNat ≠ .nan := by
    unfold vf_n64 at h
    rw [UInt64.le_iff_toNat_le, UInt64.toNat_and] at h
    have e2 : (0x7fffffffffffffff : UInt64).toNat = 2 ^ 63 - 1 := rfl
    have e3 : (0x7ff0000000000000 : UInt64).toNat = 2047 * 4503599627370496 := rfl
    rw [e2, e3, Nat.and_two_pow_sub_one_eq_mod] at h
    have t1 : FP.Core.b64.tails = 4503599627370496 := rfl
    have t2 : FP.Core.b64.exps = 2048 := rfl
    unfold FP.Core.decode FP.Core.fieldE FP.Core.fieldT
    rw [t1, t2]
    by_cases c : z.toNat / 4503599627370496 % 2048 = 2048 - 1
    · rw [if_pos c]
      by_cases c2 : z.toNat % 4503599627370496 = 0
      · rw [if_pos c2]
        intro q
        cases q
      · exfalso
        omega
    · rw [if_neg c]
      split <;> (intro q; cases q)
  have cs : ∀ x : Int, compare x x = .eq := fun x => by
    show compareOfLessAndEq x x = _
    unfold compareOfLessAndEq
    rw [if_neg (Int.lt_irrefl x), if_pos rfl]
  have e : FP.dcmp z z = some .eq := by
    show FP.Core.order (FP.Core.decode FP.Core.b64 z.toNat) (FP.Core.decode FP.Core.b64 z.toNat) = some .eq
    revert hd
    generalize FP.Core.decode FP.Core.b64 z.toNat = d
    intro hd
    cases d with
    | nan => exact absurd rfl hd
    | inf s => exact congrArg some (cs _)
    | fin s c q => exact congrArg some (cs _)
  rw [e]
  decide +kernel
theorem nan0 : vf_n64 FP.dconst0 := by
  unfold vf_n64
  decide +kernel
