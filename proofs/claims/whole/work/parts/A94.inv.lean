/-! What the class and the reference have in common between two calls, and what a call makes of it. -/
def lwI (n : Int) (lt ln bd ah bh en st sh : Nat → Int) (yl yp : Int) (lv pv lo : Nat → Int) (xl : Int) (xb den : Nat → Int) (hc : Int) (g0 g1 g2 g3 : SS) (pasts ty : Int) (ms past tx : Nat → Int) : Prop :=
  RS n lt ln bd ah bh en st sh ms ∧ (∃ L P : Nat, yl = (L : Int) ∧ yp = (P : Int) ∧ Lay n en ms (tS st) L P lv pv lo) ∧ HR hc g0 g1 g2 g3 pasts past ∧ TR xl xb ty tx ∧ ∀ i : Nat, i < 60 → den i = 0 ∨ den i = 1
/-- the answers agree: k of the wrapper, what is told as thrown, the value -/
def okA (z th : Int) (f : Nat → Int64) (b : Int) : Prop := z = th ∧ inR z ∧ (z = 0 → f 0 = (iI b).toInt64)
def fst1 (f : Nat → Int64) (z : Int) : Nat → Int64 := vf_upd f 0 (iI z).toInt64
theorem fst1_at {f : Nat → Int64} {z : Int} : fst1 f z 0 = (iI z).toInt64 := by
  show (if (0 : Nat) = 0 then (iI z).toInt64 else f 0) = (iI z).toInt64
  exact if_pos rfl
def hasXP (names : List String) (XP : (Int → Prop) → String → Prop) : Prop := names.length ≤ 3 ∧ ∀ (post : Int → Prop) (k : Nat) (nm : String), names[k]? = some nm → post ((k : Int) + 1) → XP post nm
theorem hasXP.k {names : List String} {XP : (Int → Prop) → String → Prop} (h : hasXP names XP) {k : Nat} {nm : String} (hk : names[k]? = some nm) : k < 3 := Nat.lt_of_lt_of_le (List.getElem?_eq_some_iff.mp hk).1 h.1
theorem nIXIA : xIX ≠ xIA := by decide +kernel
theorem nIXIS : xIX ≠ xIS := by decide +kernel
theorem nIAIS : xIA ≠ xIS := by decide +kernel
def XPxas (post : Int → Prop) (nm : String) : Prop := (nm = xIX → post 1) ∧ (nm = xIA → post 2) ∧ (nm = xIS → post 3) ∧ (nm = xIX ∨ nm = xIA ∨ nm = xIS)
def XPxa (post : Int → Prop) (nm : String) : Prop := (nm = xIX → post 1) ∧ (nm = xIA → post 2) ∧ (nm = xIX ∨ nm = xIA)
def XPas (post : Int → Prop) (nm : String) : Prop := (nm = xIA → post 1) ∧ (nm = xIS → post 2) ∧ (nm = xIA ∨ nm = xIS)
def XPx (post : Int → Prop) (nm : String) : Prop := (nm = xIX → post 1) ∧ nm = xIX
def XPa (post : Int → Prop) (nm : String) : Prop := (nm = xIA → post 1) ∧ nm = xIA
def XPs (post : Int → Prop) (nm : String) : Prop := (nm = xIS → post 1) ∧ nm = xIS
theorem hx_xas : hasXP [xIX, xIA, xIS] XPxas := ⟨by decide, fun post k nm hk hp => by
  rcases k with _ | _ | _ | k
  · cases hk; exact ⟨fun _ => hp, fun z => absurd z nIXIA, fun z => absurd z nIXIS, Or.inl rfl⟩
  · cases hk; exact ⟨fun z => absurd z.symm nIXIA, fun _ => hp, fun z => absurd z nIAIS, Or.inr (Or.inl rfl)⟩
  · cases hk; exact ⟨fun z => absurd z.symm nIXIS, fun z => absurd z.symm nIAIS, fun _ => hp, Or.inr (Or.inr rfl)⟩
  · exact absurd hk (by intro z; cases z)⟩
theorem hx_xa : hasXP [xIX, xIA] XPxa := ⟨by decide, fun post k nm hk hp => by
  rcases k with _ | _ | k
  · cases hk; exact ⟨fun _ => hp, fun z => absurd z nIXIA, Or.inl rfl⟩
  · cases hk; exact ⟨fun z => absurd z.symm nIXIA, fun _ => hp, Or.inr rfl⟩
  · exact absurd hk (by intro z; cases z)⟩
theorem hx_as : hasXP [xIA, xIS] XPas := ⟨by decide, fun post k nm hk hp => by
  rcases k with _ | _ | k
  · cases hk; exact ⟨fun _ => hp, fun z => absurd z nIAIS, Or.inl rfl⟩
  · cases hk; exact ⟨fun z => absurd z.symm nIAIS, fun _ => hp, Or.inr rfl⟩
  · exact absurd hk (by intro z; cases z)⟩
theorem hx_x : hasXP [xIX] XPx := ⟨by decide, fun post k nm hk hp => by
  rcases k with _ | k
  · cases hk; exact ⟨fun _ => hp, rfl⟩
  · exact absurd hk (by intro z; cases z)⟩
theorem hx_a : hasXP [xIA] XPa := ⟨by decide, fun post k nm hk hp => by
  rcases k with _ | k
  · cases hk; exact ⟨fun _ => hp, rfl⟩
  · exact absurd hk (by intro z; cases z)⟩
theorem hx_s : hasXP [xIS] XPs := ⟨by decide, fun post k nm hk hp => by
  rcases k with _ | k
  · cases hk; exact ⟨fun _ => hp, rfl⟩
  · exact absurd hk (by intro z; cases z)⟩
theorem ok_val {v : Int} {f : Nat → Int64} {z b th : Int} (h1 : z = 0 ∧ f 0 = (iI v).toInt64) (h2 : b = v ∧ th = 0) : okA z th f b := ⟨h1.1.trans h2.2.symm, by rw [h1.1]; exact inR_lit rfl, fun _ => by rw [h2.1]; exact h1.2⟩
theorem ok_thr {k : Nat} {f : Nat → Int64} {z b th : Int} (hk : k < 3) (h1 : z = (k : Int) + 1) (h2 : th = (k : Int) + 1) : okA z th f b := ⟨h1.trans h2.symm, by rw [h1]; exact inR_of (by omega), fun h => absurd h (by omega)⟩
section J
variable {names : List String} {XP : (Int → Prop) → String → Prop}
theorem jM (hXP : hasXP names XP) {C : (String → Prop) → (Int → Prop) → Prop} {M : MP → Prop} (O : OutM names C M) (f : Nat → Int64) :
    ∃ (PC : Int → (Nat → Int64) → Prop) (PM : MP), C (XP (fun k => PC k f)) (fun z => PC 0 (fst1 f z)) ∧ M PM ∧ ∀ (z : Int) (f' : Nat → Int64) (b th l p me ml mr : Int) (line page : Nat → Int), PC z f' → PM b th l p me ml mr line page → okA z th f' b := by
  rcases O with ⟨v, h1, h2⟩ | ⟨k, nm, r, hk, h1, h2⟩
  · exact ⟨fun z f' => z = 0 ∧ f' 0 = (iI v).toInt64, fun b th _ _ _ _ _ _ _ => b = v ∧ th = 0, h1 _ _ ⟨rfl, fst1_at⟩, h2 _ (fun _ _ _ _ _ _ _ => ⟨rfl, rfl⟩), fun z f' b th _ _ _ _ _ _ _ a1 a2 => ok_val a1 a2⟩
  · exact ⟨fun z _ => z = (k : Int) + 1, fun _ th _ _ _ _ _ _ _ => th = (k : Int) + 1, h1 _ _ (hXP.2 _ k nm hk rfl), h2 _ (fun _ _ _ _ _ _ _ => rfl), fun z f' b th _ _ _ _ _ _ _ a1 a2 => ok_thr (hXP.k hk) a1 a2⟩
theorem jS (hXP : hasXP names XP) {C : (String → Prop) → (Int → Prop) → Prop} {M : (Int → Int → Prop) → Prop} (O : OutS names C M) (f : Nat → Int64) :
    ∃ (PC : Int → (Nat → Int64) → Prop) (PM : Int → Int → Prop), C (XP (fun k => PC k f)) (fun z => PC 0 (fst1 f z)) ∧ M PM ∧ ∀ (z : Int) (f' : Nat → Int64) (b th : Int), PC z f' → PM b th → okA z th f' b := by
  rcases O with ⟨v, h1, h2⟩ | ⟨k, nm, r, hk, h1, h2⟩
  · exact ⟨fun z f' => z = 0 ∧ f' 0 = (iI v).toInt64, fun b th => b = v ∧ th = 0, h1 _ _ ⟨rfl, fst1_at⟩, h2 _ ⟨rfl, rfl⟩, fun z f' b th a1 a2 => ok_val a1 a2⟩
  · exact ⟨fun z _ => z = (k : Int) + 1, fun _ th => th = (k : Int) + 1, h1 _ _ (hXP.2 _ k nm hk rfl), h2 _ rfl, fun z f' b th a1 a2 => ok_thr (hXP.k hk) a1 a2⟩
abbrev TQ : Type := Int → Int → Int → (Nat → Int) → (Nat → Int) → (Nat → Int) → (Nat → Int) → Int → Int → Int → Int → Int → Int → Int → Int → (Nat → Int64) → Prop
theorem jT (hXP : hasXP names XP) {C : (String → Prop) → TP → Prop} {M : MP → Prop} (O : OutT names C M) (f : Nat → Int64) (l0 p0 : Int) (a0 b0 c0 d0 : Nat → Int) (x1 x2 x3 x4 x5 x6 x7 x8 : Int) :
    ∃ (PC : TQ) (PM : MP), C (XP (fun k => PC k l0 p0 a0 b0 c0 d0 x1 x2 x3 x4 x5 x6 x7 x8 f)) (fun z l p a b c d y1 y2 y3 y4 y5 y6 y7 y8 => PC 0 l p a b c d y1 y2 y3 y4 y5 y6 y7 y8 (fst1 f z)) ∧ M PM ∧
      ∀ (z : Int) (l p : Int) (a b c d : Nat → Int) (y1 y2 y3 y4 y5 y6 y7 y8 : Int) (f' : Nat → Int64) (v th l2 p2 me ml mr : Int) (line page : Nat → Int), PC z l p a b c d y1 y2 y3 y4 y5 y6 y7 y8 f' → PM v th l2 p2 me ml mr line page → okA z th f' v := by
  rcases O with ⟨v, h1, h2⟩ | ⟨k, nm, r, hk, h1, h2⟩
  · exact ⟨fun z _ _ _ _ _ _ _ _ _ _ _ _ _ _ f' => z = 0 ∧ f' 0 = (iI v).toInt64, fun b th _ _ _ _ _ _ _ => b = v ∧ th = 0, h1 _ _ (fun _ _ _ _ _ _ _ _ _ _ _ _ _ _ => ⟨rfl, fst1_at⟩), h2 _ (fun _ _ _ _ _ _ _ => ⟨rfl, rfl⟩), fun z _ _ _ _ _ _ _ _ _ _ _ _ _ _ f' b th _ _ _ _ _ _ _ a1 a2 => ok_val a1 a2⟩
  · exact ⟨fun z _ _ _ _ _ _ _ _ _ _ _ _ _ _ _ => z = (k : Int) + 1, fun _ th _ _ _ _ _ _ _ => th = (k : Int) + 1, h1 _ _ (hXP.2 _ k nm hk rfl), h2 _ (fun _ _ _ _ _ _ _ => rfl), fun z _ _ _ _ _ _ _ _ _ _ _ _ _ _ f' b th _ _ _ _ _ _ _ a1 a2 => ok_thr (hXP.k hk) a1 a2⟩
abbrev UQ : Type := Int → Int → (Nat → Int) → (Nat → Int) → (Nat → Int) → (Nat → Int) → (Nat → Int) → (Nat → Int) → (Nat → Int) → (Nat → Int) → Int → Int → (Nat → Int) → (Nat → Int) → (Nat → Int) → (Nat → Int) → Int → Int → Int → Int → Int → Int → Int → Int → Int → (Nat → Nat) → SS → SS → SS → SS → (Nat → Int64) → Prop
theorem jU (hXP : hasXP names XP) {n : Int} {lt ln bd ah bh en st sh lv pv lo xb den ms past tx aside : Nat → Int} {yl yp xl hc pasts ty : Int} {g0 g1 g2 g3 : SS} (I : lwI n lt ln bd ah bh en st sh yl yp lv pv lo xl xb den hc g0 g1 g2 g3 pasts ty ms past tx) {C : (String → Prop) → CP → Prop} {M : MU → Prop} (O : OutU names pasts ms past aside C M) (f : Nat → Int64) (ha : Nat → Nat) (ts : Nat → Int) (x1 x2 x3 x4 x5 x6 x7 x8 : Int) :
    ∃ (PC : UQ) (PM : MU), C (XP (fun k => PC k n lt ln bd ah bh en st sh yl yp lv pv lo ts x1 x2 x3 x4 x5 x6 x7 x8 hc ha g0 g1 g2 g3 f)) (fun v n lt ln bd ah bh en st sh L P lv pv lo ts y1 y2 y3 y4 y5 y6 y7 y8 hc ha g0 g1 g2 g3 => PC 0 n lt ln bd ah bh en st sh L P lv pv lo ts y1 y2 y3 y4 y5 y6 y7 y8 hc ha g0 g1 g2 g3 (fst1 f v)) ∧ M PM ∧
      ∀ (z n : Int) (lt ln bd ah bh en st sh : Nat → Int) (yl yp : Int) (lv pv lo ts : Nat → Int) (y1 y2 y3 y4 y5 y6 y7 y8 hc : Int) (ha : Nat → Nat) (g0 g1 g2 g3 : SS) (f' : Nat → Int64) (b pasts th : Int) (ms past aside : Nat → Int), PC z n lt ln bd ah bh en st sh yl yp lv pv lo ts y1 y2 y3 y4 y5 y6 y7 y8 hc ha g0 g1 g2 g3 f' → PM b pasts th ms past aside →
        okA z th f' b ∧ lwI n lt ln bd ah bh en st sh yl yp lv pv lo xl xb den hc g0 g1 g2 g3 pasts ty ms past tx := by
  rcases O with ⟨v, n', lt', ln', bd', ah', bh', en', st', sh', ms', L, P, lv', pv', lo', hc', ha', h0, h1, h2, h3, past', R, Y, H, c1, c2⟩ | ⟨k, nm, r, hk, c1, c2⟩
  · refine ⟨fun z n lt ln bd ah bh en st sh yl yp lv pv lo _ _ _ _ _ _ _ _ _ hc _ g0 g1 g2 g3 f' => (z = 0 ∧ f' 0 = (iI v).toInt64) ∧ n = n' ∧ lt = lt' ∧ ln = ln' ∧ bd = bd' ∧ ah = ah' ∧ bh = bh' ∧ en = en' ∧ st = st' ∧ sh = sh' ∧ yl = (L : Int) ∧ yp = (P : Int) ∧ lv = lv' ∧ pv = pv' ∧ lo = lo' ∧ hc = hc' ∧ g0 = h0 ∧ g1 = h1 ∧ g2 = h2 ∧ g3 = h3, fun b pasts th ms past _ => (b = v ∧ th = 0) ∧ pasts = hc' ∧ ms = ms' ∧ past = past', c1 _ _ (fun _ _ _ _ _ _ _ _ _ => ⟨⟨rfl, fst1_at⟩, rfl, rfl, rfl, rfl, rfl, rfl, rfl, rfl, rfl, rfl, rfl, rfl, rfl, rfl, rfl, rfl, rfl, rfl, rfl⟩), c2 _ (fun _ => ⟨⟨rfl, rfl⟩, rfl, rfl, rfl⟩), ?_⟩
    intro z n2 lt2 ln2 bd2 ah2 bh2 en2 st2 sh2 yl2 yp2 lv2 pv2 lo2 ts2 y1 y2 y3 y4 y5 y6 y7 y8 hc2 ha2 q0 q1 q2 q3 f' b pasts2 th ms2 past2 aside2 a1 a2
    obtain ⟨a0, rfl, rfl, rfl, rfl, rfl, rfl, rfl, rfl, rfl, rfl, rfl, rfl, rfl, rfl, rfl, rfl, rfl, rfl, rfl⟩ := a1
    obtain ⟨b0, rfl, rfl, rfl⟩ := a2
    exact ⟨ok_val a0 b0, R, ⟨L, P, rfl, rfl, Y⟩, H, I.2.2.2⟩
  · refine ⟨fun z n2 lt2 ln2 bd2 ah2 bh2 en2 st2 sh2 yl2 yp2 lv2 pv2 lo2 _ _ _ _ _ _ _ _ _ hc2 _ q0 q1 q2 q3 f' => z = (k : Int) + 1 ∧ n2 = n ∧ lt2 = lt ∧ ln2 = ln ∧ bd2 = bd ∧ ah2 = ah ∧ bh2 = bh ∧ en2 = en ∧ st2 = st ∧ sh2 = sh ∧ yl2 = yl ∧ yp2 = yp ∧ lv2 = lv ∧ pv2 = pv ∧ lo2 = lo ∧ hc2 = hc ∧ q0 = g0 ∧ q1 = g1 ∧ q2 = g2 ∧ q3 = g3, fun b pasts2 th ms2 past2 _ => th = (k : Int) + 1 ∧ pasts2 = pasts ∧ ms2 = ms ∧ past2 = past, c1 _ _ (hXP.2 _ k nm hk ⟨rfl, rfl, rfl, rfl, rfl, rfl, rfl, rfl, rfl, rfl, rfl, rfl, rfl, rfl, rfl, rfl, rfl, rfl, rfl, rfl⟩), c2 _ ⟨rfl, rfl, rfl, rfl⟩, ?_⟩
    intro z n2 lt2 ln2 bd2 ah2 bh2 en2 st2 sh2 yl2 yp2 lv2 pv2 lo2 ts2 y1 y2 y3 y4 y5 y6 y7 y8 hc2 ha2 q0 q1 q2 q3 f' b pasts2 th ms2 past2 aside2 a1 a2
    obtain ⟨a0, rfl, rfl, rfl, rfl, rfl, rfl, rfl, rfl, rfl, rfl, rfl, rfl, rfl, rfl, rfl, rfl, rfl, rfl, rfl⟩ := a1
    obtain ⟨b0, rfl, rfl, rfl⟩ := a2
    exact ⟨ok_thr (hXP.k hk) a0 b0, I⟩
end J
