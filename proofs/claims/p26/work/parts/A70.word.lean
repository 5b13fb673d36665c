/-! Answers: the class's and the reference's, side by side. -/
abbrev MP : Type := Int → Int → Int → Int → Int → Int → Int → (Nat → Int) → (Nat → Int) → Prop
def xIX : String := "java/lang/IndexOutOfBoundsException"
def xIA : String := "java/lang/IllegalArgumentException"
def xIS : String := "java/lang/IllegalStateException"
/-- both answer the same, or the class throws what the reference says -/
def OutM (names : List String) (C : (String → Prop) → (Int → Prop) → Prop) (M : MP → Prop) : Prop :=
  (∃ v : Int, (∀ (xp : String → Prop) (post : Int → Prop), post v → C xp post) ∧ ∀ P : MP, (∀ (l p me ml mr : Int) (line page : Nat → Int), P v 0 l p me ml mr line page) → M P) ∨
  (∃ (k : Nat) (nm : String) (r : Int), names[k]? = some nm ∧ (∀ (xp : String → Prop) (post : Int → Prop), xp nm → C xp post) ∧ ∀ P : MP, (∀ (l p me ml mr : Int) (line page : Nat → Int), P r ((k : Int) + 1) l p me ml mr line page) → M P)
theorem q5_ci {p m : Int} {xp : String → Prop} {post : Prop} (hp : inR p) (hm : inR m) (h1 : 0 ≤ p ∧ p < m → post) (h2 : ¬ (0 ≤ p ∧ p < m) → xp xIX) : wpX5_checkIndex p m xp post := by
  unfold wpX5_checkIndex
  exact ⟨hp, fun c => h2 (by omega), fun c => ⟨hp, hm, fun c2 => h1 (by omega), fun c2 => h2 (by omega)⟩⟩
theorem q5_cr {p a b : Int} {xp : String → Prop} {post : Prop} (hp : inR p) (ha : inR a) (hb : inR b) (h1 : a ≤ p ∧ p ≤ b → post) (h2 : ¬ (a ≤ p ∧ p ≤ b) → xp xIA) : wpX5_checkRange p a b xp post := by
  unfold wpX5_checkRange
  exact ⟨hp, ha, fun c => h2 (by omega), fun c => ⟨hp, hb, fun c2 => h1 (by omega), fun c2 => h2 (by omega)⟩⟩
theorem q6_in {p a b : Int} {post : Int → Prop} (hp : inR p) (ha : inR a) (hb : inR b) (h1 : a ≤ p ∧ p ≤ b → post 1) (h2 : ¬ (a ≤ p ∧ p ≤ b) → post 0) : wpX6_in p a b post := by
  unfold wpX6_in
  exact ⟨hp, ha, fun c => h2 (by omega), fun c => ⟨hp, hb, fun c2 => h2 (by omega), fun c2 => h1 (by omega)⟩⟩
theorem q6_isWord {n : Int} {ms : Nat → Int} {p : Int} {post : Int → Prop} (e : ms 14 = n) (hn : inR n) (hp : inR p) (h1 : 0 ≤ p ∧ p < n → post 1) (h2 : ¬ (0 ≤ p ∧ p < n) → post 0) : wpX6_isWord ms p post := by
  unfold wpX6_isWord
  rw [e]
  exact ⟨hp, fun c => h2 (by omega), fun c => ⟨hp, hn, fun c2 => h2 (by omega), fun c2 => h1 (by omega)⟩⟩
theorem q1_low {lo : Nat → Int} {w : Nat} {post : Int → Prop} (h1 : w < 60) (h : post (lo w)) : wpX1_lineOfWord lo (w : Int) post := q1_lineOfWord (by omega) (by omega) h
/-- the settings of the kept layout -/
abbrev tS (st : Nat → Int) : Nat → Int := updI (updI (updI st 0 (st 0)) 2 (st 2)) 3 (st 3)
section Word
variable {n : Int} {lt ln bd ah bh en st sh ms : Nat → Int} {L P : Nat} {lv pv lo : Nat → Int}
theorem q6_makes (R : RS n lt ln bd ah bh en st sh ms) (Y : Lay n en ms (tS st) L P lv pv lo) {l0 p0 me ml mr : Int} {line0 page0 : Nat → Int} {post : Int → Int → Int → Int → Int → (Nat → Int) → (Nat → Int) → Prop}
    (h : ∀ line page : Nat → Int, (∀ l : Nat, l < L → LR lv line l) → (∀ p : Nat, p < P → PR pv page p) → post (L : Int) (P : Int) (ms 0) (ms 2) (ms 3) line page) : wpX6_makes l0 p0 me ml mr ms line0 page0 post := by
  obtain ⟨line, page, a1, a2, a3⟩ := Y.2.2 line0 page0
  have e0 : tS st 0 = ms 0 := (R.2.2.2.1 0 (by omega)).symm
  have e2 : tS st 2 = ms 2 := (R.2.2.2.1 2 (by omega)).symm
  have e3 : tS st 3 = ms 3 := (R.2.2.2.1 3 (by omega)).symm
  rw [e0, e2, e3] at a3
  exact a3 _ _ _ _ _ _ (h line page a1 a2)
theorem lo_line (K : LOK n en L n lv lo) {w : Nat} (hw : (w : Int) < n) : ∃ l first : Nat, l < L ∧ lo w = (l : Int) ∧ lv (12 * l + 1) = (first : Int) ∧ first ≤ w ∧ (w : Int) < lv (12 * l + 1) + lv (12 * l + 2) ∧ ∀ l' : Nat, l' < l → lv (12 * l' + 1) + lv (12 * l' + 2) ≤ (w : Int) := by
  obtain ⟨l, b1, b2, b3, b4⟩ := K.2.2.2.2.2.2.2 w hw
  have f0 := (K.2.2.1 l b1).1
  obtain ⟨first, hf⟩ := Int.eq_ofNat_of_zero_le f0
  refine ⟨l, first, b1, b2, hf, by omega, b4, fun l' hl' => ?_⟩
  obtain ⟨k, hk⟩ : ∃ k : Nat, l = l' + k + 1 := ⟨l - l' - 1, by omega⟩
  have h1 := K.mono l' k (by omega)
  have h2 := K.2.2.2.1 (l' + k) (by omega)
  rw [← hk] at h2
  omega
theorem q6_lineOf {line : Nat → Int} (hR : ∀ l : Nat, l < L → LR lv line l) {w l : Nat} {post : Int → Prop} (hl : l < L) (hL : L ≤ 60) (h1 : (w : Int) < lv (12 * l + 1) + lv (12 * l + 2)) (h2 : ∀ l' : Nat, l' < l → lv (12 * l' + 1) + lv (12 * l' + 2) ≤ (w : Int)) (hw : w < 60) (hs : ∀ l' : Nat, l' ≤ l → lv (12 * l' + 1) + lv (12 * l' + 2) ≤ 60 ∧ 0 ≤ lv (12 * l' + 1) + lv (12 * l' + 2)) (h : post (l : Int)) : wpX6_lineOf line (w : Int) post := by
  unfold wpX6_lineOf
  refine ⟨l + 1, ?_⟩
  have key : ∀ (f i : Nat), i + f = l → wpX6_lineOf_2 line post (f + 1) (w : Int) (i : Int) := by
    intro f
    induction f with
    | zero =>
      intro i hi
      have e : i = l := by omega
      subst e
      rw [wpX6_lineOf_2]
      rw [show (10 * (i : Int) + 1).toNat = 10 * i + 1 by omega, show (10 * (i : Int) + 2).toNat = 10 * i + 2 by omega, hR i hl 1 (by omega), hR i hl 2 (by omega)]
      have := hs i (Nat.le_refl _)
      exact ⟨by omega, by omega, by omega, by omega, inR_of (by omega), inR_of (by omega), fun _ => h, fun c => absurd h1 c⟩
    | succ f ih =>
      intro i hi
      rw [wpX6_lineOf_2]
      rw [show (10 * (i : Int) + 1).toNat = 10 * i + 1 by omega, show (10 * (i : Int) + 2).toNat = 10 * i + 2 by omega, hR i (by omega) 1 (by omega), hR i (by omega) 2 (by omega)]
      have := hs i (by omega)
      have h9 := h2 i (by omega)
      refine ⟨by omega, by omega, by omega, by omega, inR_of (by omega), inR_of (by omega), fun c => absurd c (by omega), fun _ => ?_⟩
      have h8 := ih (i + 1) (by omega)
      rw [show ((i + 1 : Nat) : Int) = (i : Int) + 1 by omega] at h8
      exact h8
  exact key l 0 (by omega)
/-- where a word begins on its line -/
def eg (bd ah bh lv : Nat → Int) (l first w : Nat) : Int := -lv (12 * l + 5) + sr (fun v => cW bd ah bh v + 2) first (w - first)
theorem q5_leftEdge (R : RS n lt ln bd ah bh en st sh ms) {l first w : Nat} {post : Int → Prop} (hl : l < 60) (hf : lv (12 * l + 1) = (first : Int)) (h1 : first ≤ w) (hw : (w : Int) < n) (h : post (eg bd ah bh lv l first w)) : wpX5_leftEdge n bd ah bh lv (l : Int) (w : Int) post := by
  have hn := R.2.2.1
  unfold wpX5_leftEdge
  refine q1_lv 5 hl (by omega) (q1_lv 1 hl (by omega) ?_)
  rw [hf]
  refine ⟨(w - first) + 1, ?_⟩
  have key : ∀ (f i : Nat) (a : Int), first ≤ i → i + f = w → a = -lv (12 * l + 5) + sr (fun v => cW bd ah bh v + 2) first (i - first) → wpX5_leftEdge_22 n bd ah bh lv post (f + 1) (w : Int) a (i : Int) := by
    intro f
    induction f with
    | zero =>
      intro i a a1 a2 a3
      have e : i = w := by omega
      rw [e] at a3
      rw [wpX5_leftEdge_22]
      unfold eg at h
      rw [← a3] at h
      exact ⟨inR_of (by omega), inR_of (by omega), fun _ => h, fun c => absurd (by omega) c⟩
    | succ f ih =>
      intro i a a1 a2 a3
      rw [wpX5_leftEdge_22]
      obtain ⟨b1, b2, b3, b4, b5, b6, b7, b8, b9, b10, -⟩ := R.2.2.2.2.2.2.2 i (by omega)
      refine ⟨inR_of (by omega), inR_of (by omega), fun c => absurd c (by omega), fun _ => q3_widthOf (by omega) (by omega) hn ⟨b7, Int.le_trans b8 (by omega)⟩ ⟨b9, b10⟩ ?_⟩
      have h8 := ih (i + 1) (a + (cW bd ah bh i + 2)) (by omega) (by omega) (by rw [show i + 1 - first = (i - first) + 1 by omega, sr_succ, show first + (i - first) = i by omega, a3]; omega)
      rw [show ((i + 1 : Nat) : Int) = (i : Int) + 1 by omega] at h8
      exact h8
  exact key (w - first) first _ (Nat.le_refl _) (by omega) (by rw [Nat.sub_self]; exact (Int.add_zero _).symm)
theorem q6_edgeOf (R : RS n lt ln bd ah bh en st sh ms) {line : Nat → Int} {l first w : Nat} {post : Int → Prop} (hl : l < 60) (hR : LR lv line l) (hq : ∀ post : Int → Prop, post (l : Int) → wpX6_lineOf line (w : Int) post) (hf : lv (12 * l + 1) = (first : Int)) (h1 : first ≤ w) (hw : (w : Int) < n) (h : post (eg bd ah bh lv l first w)) : wpX6_edgeOf ms line (w : Int) post := by
  have hn := R.2.2.1
  unfold wpX6_edgeOf
  refine hq _ ?_
  rw [show (10 * (l : Int) + 5).toNat = 10 * l + 5 by omega, show (10 * (l : Int) + 1).toNat = 10 * l + 1 by omega, hR 5 (by omega), hR 1 (by omega), hf]
  refine ⟨by omega, by omega, by omega, by omega, (w - first) + 1, ?_⟩
  have key : ∀ (f i : Nat) (a : Int), first ≤ i → i + f = w → a = -lv (12 * l + 5) + sr (fun v => cW bd ah bh v + 2) first (i - first) → wpX6_edgeOf_32 ms line post (f + 1) (w : Int) a (i : Int) := by
    intro f
    induction f with
    | zero =>
      intro i a a1 a2 a3
      have e : i = w := by omega
      rw [e] at a3
      rw [wpX6_edgeOf_32]
      unfold eg at h
      rw [← a3] at h
      exact ⟨inR_of (by omega), inR_of (by omega), fun _ => h, fun c => absurd (by omega) c⟩
    | succ f ih =>
      intro i a a1 a2 a3
      rw [wpX6_edgeOf_32]
      refine ⟨inR_of (by omega), inR_of (by omega), fun c => absurd c (by omega), fun _ => q6_widthOf R (by omega) ?_⟩
      have h8 := ih (i + 1) (a + (cW bd ah bh i + 2)) (by omega) (by omega) (by rw [show i + 1 - first = (i - first) + 1 by omega, sr_succ, show first + (i - first) = i by omega, a3]; omega)
      rw [show ((i + 1 : Nat) : Int) = (i : Int) + 1 by omega] at h8
      exact h8
  exact key (w - first) first _ (Nat.le_refl _) (by omega) (by rw [Nat.sub_self]; exact (Int.add_zero _).symm)
theorem word_val (R : RS n lt ln bd ah bh en st sh ms) (K : LOK n en L n lv lo) {w : Nat} (hw : (w : Int) < n) {j : Int} (hj : 0 ≤ j ∧ j ≤ 8) :
    ∃ v : Int, (∀ post : Int → Prop, post v → wpX5_wordValue n ln bd ah bh en lv lo (w : Int) j post) ∧ ∀ line : Nat → Int, (∀ l : Nat, l < L → LR lv line l) → ∀ post : Int → Prop, post v → wpX6_wordOf ms line (w : Int) j post := by
  have hn := R.2.2.1
  obtain ⟨l, first, b1, b2, b3, b4, b5, b6⟩ := lo_line K hw
  obtain ⟨a1, a2, a3, a4, a5, a6, a7, a8, a9, a10, -⟩ := R.2.2.2.2.2.2.2 w hw
  have he := R.2.2.2.2.2.2.1 w (by omega)
  have hLn := K.1
  have hq : ∀ line : Nat → Int, (∀ l : Nat, l < L → LR lv line l) → ∀ post : Int → Prop, post (l : Int) → wpX6_lineOf line (w : Int) post := fun line hR post h => q6_lineOf hR b1 (by omega) b5 b6 (by omega) (fun l' hl' => by
    have hh := K.2.2.1 l' (by omega)
    have x1 := hh.1
    have x2 := hh.2.1
    have x3 := hh.2.2.1
    omega) h
  have hj2 : j = 0 ∨ j = 1 ∨ j = 2 ∨ j = 3 ∨ j = 4 ∨ j = 5 ∨ j = 6 ∨ j = 7 ∨ j = 8 := by omega
  rcases hj2 with rfl | rfl | rfl | rfl | rfl | rfl | rfl | rfl | rfl
  · refine ⟨ln w, fun post hp => q1_low (by omega) ⟨inR_lit rfl, ?_, ?_, ?_, ?_, ?_, ?_, ?_, ?_, ?_⟩, fun line hR post hp => hq line hR _ ⟨inR_lit rfl, ?_, ?_, ?_, ?_, ?_, ?_, ?_, ?_, ?_⟩⟩ <;> intro c <;> first | exact absurd c (by decide) | skip
    · exact q3_lengthOf (by omega) hw hn hp
    · refine q6_of (16 * w + 27) (by omega) (by omega) ?_
      rw [a3]; exact hp
  · refine ⟨cW bd ah bh w, fun post hp => q1_low (by omega) ⟨inR_lit rfl, ?_, ?_, ?_, ?_, ?_, ?_, ?_, ?_, ?_⟩, fun line hR post hp => hq line hR _ ⟨inR_lit rfl, ?_, ?_, ?_, ?_, ?_, ?_, ?_, ?_, ?_⟩⟩ <;> intro c <;> first | exact absurd c (by decide) | skip
    · exact q3_widthOf (by omega) hw hn ⟨a7, Int.le_trans a8 (by omega)⟩ ⟨a9, a10⟩ hp
    · exact q6_widthOf R hw hp
  · refine ⟨ah w, fun post hp => q1_low (by omega) ⟨inR_lit rfl, ?_, ?_, ?_, ?_, ?_, ?_, ?_, ?_, ?_⟩, fun line hR post hp => hq line hR _ ⟨inR_lit rfl, ?_, ?_, ?_, ?_, ?_, ?_, ?_, ?_, ?_⟩⟩ <;> intro c <;> first | exact absurd c (by decide) | skip
    · exact q3_aheadOf (by omega) hw hn hp
    · unfold wpX6_wordOf_66
      refine q6_of (16 * w + 28) (by omega) (by omega) ?_
      rw [a4]; exact hp
  · refine ⟨bh w, fun post hp => q1_low (by omega) ⟨inR_lit rfl, ?_, ?_, ?_, ?_, ?_, ?_, ?_, ?_, ?_⟩, fun line hR post hp => hq line hR _ ⟨inR_lit rfl, ?_, ?_, ?_, ?_, ?_, ?_, ?_, ?_, ?_⟩⟩ <;> intro c <;> first | exact absurd c (by decide) | skip
    · exact q3_behindOf (by omega) hw hn hp
    · unfold wpX6_wordOf_66
      refine q6_of (16 * w + 29) (by omega) (by omega) ?_
      rw [a5]; exact hp
  · refine ⟨en w, fun post hp => q1_low (by omega) ⟨inR_lit rfl, ?_, ?_, ?_, ?_, ?_, ?_, ?_, ?_, ?_⟩, fun line hR post hp => hq line hR _ ⟨inR_lit rfl, ?_, ?_, ?_, ?_, ?_, ?_, ?_, ?_, ?_⟩⟩ <;> intro c <;> first | exact absurd c (by decide) | skip
    · refine q3_wasSetToEnd (by omega) hw hn he ?_
      rcases he with e | e
      · have e2 : en ((w : Int)).toNat = 0 := e
        rw [e2]
        rw [e] at hp
        exact ⟨inR_lit rfl, fun _ => hp, fun c => absurd rfl c⟩
      · have e2 : en ((w : Int)).toNat = 1 := e
        rw [e2]
        rw [e] at hp
        exact ⟨inR_lit rfl, fun c => absurd c (by decide), fun _ => hp⟩
    · unfold wpX6_wordOf_66
      refine q6_of (16 * w + 30) (by omega) (by omega) ?_
      rw [a6]; exact hp
  · refine ⟨(l : Int), fun post hp => q1_low (by omega) ⟨inR_lit rfl, ?_, ?_, ?_, ?_, ?_, ?_, ?_, ?_, ?_⟩, fun line hR post hp => hq line hR _ ⟨inR_lit rfl, ?_, ?_, ?_, ?_, ?_, ?_, ?_, ?_, ?_⟩⟩ <;> intro c <;> first | exact absurd c (by decide) | skip
    · rw [b2]; exact hp
    · exact hp
  · refine ⟨(w : Int) - first, fun post hp => q1_low (by omega) ⟨inR_lit rfl, ?_, ?_, ?_, ?_, ?_, ?_, ?_, ?_, ?_⟩, fun line hR post hp => hq line hR _ ⟨inR_lit rfl, ?_, ?_, ?_, ?_, ?_, ?_, ?_, ?_, ?_⟩⟩ <;> intro c <;> first | exact absurd c (by decide) | skip
    · rw [b2]
      refine q1_lv 1 (by omega) (by omega) ?_
      rw [b3]; exact hp
    · rw [show (10 * (l : Int) + 1).toNat = 10 * l + 1 by omega, hR l b1 1 (by omega), b3]
      exact ⟨by omega, by omega, hp⟩
  · refine ⟨lv (12 * l), fun post hp => q1_low (by omega) ⟨inR_lit rfl, ?_, ?_, ?_, ?_, ?_, ?_, ?_, ?_, ?_⟩, fun line hR post hp => hq line hR _ ⟨inR_lit rfl, ?_, ?_, ?_, ?_, ?_, ?_, ?_, ?_, ?_⟩⟩ <;> intro c <;> first | exact absurd c (by decide) | skip
    · rw [b2]
      exact q1_lv 0 (by omega) (by omega) hp
    · rw [show (10 * (l : Int)).toNat = 10 * l by omega]
      have e := hR l b1 0 (by omega)
      rw [Nat.add_zero, Nat.add_zero] at e
      rw [e]
      exact ⟨by omega, by omega, hp⟩
  · refine ⟨eg bd ah bh lv l first w, fun post hp => q1_low (by omega) ⟨inR_lit rfl, ?_, ?_, ?_, ?_, ?_, ?_, ?_, ?_, ?_⟩, fun line hR post hp => hq line hR _ ⟨inR_lit rfl, ?_, ?_, ?_, ?_, ?_, ?_, ?_, ?_, ?_⟩⟩ <;> intro c <;> first | exact absurd c (by decide) | skip
    · rw [b2]
      exact q5_leftEdge R (by omega) b3 b4 hw hp
    · exact q6_edgeOf R (by omega) (hR l b1) (hq line hR) b3 b4 hw hp
theorem o_word (R : RS n lt ln bd ah bh en st sh ms) (Y : Lay n en ms (tS st) L P lv pv lo) {p1 p2 th l0 p0 me ml mr : Int} {line0 page0 : Nat → Int} (h1 : inR p1) (h2 : inR p2) :
    OutM [xIX, xIA] (fun xp post => wpX5_word n ln bd ah bh en lv lo p1 p2 xp post) (fun P => wpX6_word th l0 p0 me ml mr ms line0 page0 p1 p2 P) := by
  have hn := R.2.2.1
  have hn0 := R.2.1
  unfold OutM wpX5_word wpX6_word wpX6_tells wpX6_fails
  by_cases c1 : 0 ≤ p1 ∧ p1 < n
  · obtain ⟨w, hw⟩ := Int.eq_ofNat_of_zero_le c1.1
    subst hw
    by_cases c2 : 0 ≤ p2 ∧ p2 ≤ 8
    · obtain ⟨v, a1, a2⟩ := word_val R Y.1 c1.2 c2
      refine Or.inl ⟨v, fun xp post hp => q5_ci h1 (inR_of (by omega)) (fun _ => q5_cr h2 (inR_lit rfl) (inR_lit rfl) (fun _ => a1 _ hp) (fun z => absurd c2 z)) (fun z => absurd c1 z), fun P hP => q6_isWord R.1 (inR_of (by omega)) h1 (fun _ => ⟨inR_lit rfl, fun _ => q6_in h2 (inR_lit rfl) (inR_lit rfl) (fun _ => ⟨inR_lit rfl, fun _ => q6_makes R Y (fun line page hl hpg => a2 line hl _ (hP _ _ _ _ _ _ _)), fun z => absurd z (by decide)⟩) (fun z => absurd c2 z), fun z => absurd z (by decide)⟩) (fun z => absurd c1 z)⟩
    · refine Or.inr ⟨1, xIA, 0, rfl, fun xp post hp => q5_ci h1 (inR_of (by omega)) (fun _ => q5_cr h2 (inR_lit rfl) (inR_lit rfl) (fun z => absurd z c2) (fun _ => hp)) (fun z => absurd c1 z), fun P hP => q6_isWord R.1 (inR_of (by omega)) h1 (fun _ => ⟨inR_lit rfl, fun _ => q6_in h2 (inR_lit rfl) (inR_lit rfl) (fun z => absurd z c2) (fun _ => ⟨inR_lit rfl, fun z => absurd rfl z, fun _ => hP _ _ _ _ _ _ _⟩), fun z => absurd z (by decide)⟩) (fun z => absurd c1 z)⟩
  · refine Or.inr ⟨0, xIX, 0, rfl, fun xp post hp => q5_ci h1 (inR_of (by omega)) (fun z => absurd z c1) (fun _ => hp), fun P hP => q6_isWord R.1 (inR_of (by omega)) h1 (fun z => absurd z c1) (fun _ => ⟨inR_lit rfl, fun z => absurd rfl z, fun _ => hP _ _ _ _ _ _ _⟩)⟩
end Word
