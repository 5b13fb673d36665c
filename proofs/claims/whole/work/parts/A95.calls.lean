/-! Every public method: what the class does and what the reference does agree, and the common state stands again. -/
section Cs
variable {n : Int} {lt ln bd ah bh en st sh lv pv lo xb den ms past tx : Nat → Int} {yl yp xl hc pasts ty : Int} {g0 g1 g2 g3 : SS}
theorem j_word (I : lwI n lt ln bd ah bh en st sh yl yp lv pv lo xl xb den hc g0 g1 g2 g3 pasts ty ms past tx) {p1 p2 : Int} (h1 : inR p1) (h2 : inR p2) (f : Nat → Int64) (th l0 p0 me ml mr : Int) (line0 page0 : Nat → Int) :
    ∃ (PC : Int → (Nat → Int64) → Prop) (PM : MP), wpX5_word n ln bd ah bh en lv lo p1 p2 (XPxa (fun k => PC k f)) (fun z => PC 0 (fst1 f z)) ∧ wpX6_word th l0 p0 me ml mr ms line0 page0 p1 p2 PM ∧ ∀ (z : Int) (f' : Nat → Int64) (b th l p me ml mr : Int) (line page : Nat → Int), PC z f' → PM b th l p me ml mr line page → okA z th f' b := by
  obtain ⟨R, ⟨L, P, rfl, rfl, Y⟩, -⟩ := I
  exact jM hx_xa (o_word R Y h1 h2) f
theorem j_line (I : lwI n lt ln bd ah bh en st sh yl yp lv pv lo xl xb den hc g0 g1 g2 g3 pasts ty ms past tx) {p1 p2 : Int} (h1 : inR p1) (h2 : inR p2) (f : Nat → Int64) (th l0 p0 me ml mr : Int) (line0 page0 : Nat → Int) :
    ∃ (PC : Int → (Nat → Int64) → Prop) (PM : MP), wpX5_line yl lv p1 p2 (XPxa (fun k => PC k f)) (fun z => PC 0 (fst1 f z)) ∧ wpX6_line th l0 p0 me ml mr ms line0 page0 p1 p2 PM ∧ ∀ (z : Int) (f' : Nat → Int64) (b th l p me ml mr : Int) (line page : Nat → Int), PC z f' → PM b th l p me ml mr line page → okA z th f' b := by
  obtain ⟨R, ⟨L, P, rfl, rfl, Y⟩, -⟩ := I
  exact jM hx_xa (o_line R Y h1 h2) f
theorem j_page (I : lwI n lt ln bd ah bh en st sh yl yp lv pv lo xl xb den hc g0 g1 g2 g3 pasts ty ms past tx) {p1 p2 : Int} (h1 : inR p1) (h2 : inR p2) (f : Nat → Int64) (th l0 p0 me ml mr : Int) (line0 page0 : Nat → Int) :
    ∃ (PC : Int → (Nat → Int64) → Prop) (PM : MP), wpX5_page yp pv p1 p2 (XPxa (fun k => PC k f)) (fun z => PC 0 (fst1 f z)) ∧ wpX6_page th l0 p0 me ml mr ms line0 page0 p1 p2 PM ∧ ∀ (z : Int) (f' : Nat → Int64) (b th l p me ml mr : Int) (line page : Nat → Int), PC z f' → PM b th l p me ml mr line page → okA z th f' b := by
  obtain ⟨R, ⟨L, P, rfl, rfl, Y⟩, -⟩ := I
  exact jM hx_xa (o_page R Y h1 h2) f
theorem j_whole (I : lwI n lt ln bd ah bh en st sh yl yp lv pv lo xl xb den hc g0 g1 g2 g3 pasts ty ms past tx) {p1 : Int} (h1 : inR p1) (f : Nat → Int64) (th l0 p0 me ml mr : Int) (line0 page0 : Nat → Int) :
    ∃ (PC : Int → (Nat → Int64) → Prop) (PM : MP), wpX5_whole n en st yl yp lv xl p1 (XPa (fun k => PC k f)) (fun z => PC 0 (fst1 f z)) ∧ wpX6_whole ty th l0 p0 me ml mr ms line0 page0 p1 PM ∧ ∀ (z : Int) (f' : Nat → Int64) (b th l p me ml mr : Int) (line page : Nat → Int), PC z f' → PM b th l p me ml mr line page → okA z th f' b := by
  obtain ⟨R, ⟨L, P, rfl, rfl, Y⟩, -, X, -⟩ := I
  have e := X.1
  subst e
  exact jM hx_a (o_whole R Y h1) f
theorem j_share (I : lwI n lt ln bd ah bh en st sh yl yp lv pv lo xl xb den hc g0 g1 g2 g3 pasts ty ms past tx) {p1 : Int} (h1 : inR p1) (f : Nat → Int64) (th : Int) :
    ∃ (PC : Int → (Nat → Int64) → Prop) (PM : Int → Int → Prop), wpX5_share sh p1 (XPx (fun k => PC k f)) (fun z => PC 0 (fst1 f z)) ∧ wpX6_share th ms p1 PM ∧ ∀ (z : Int) (f' : Nat → Int64) (b th : Int), PC z f' → PM b th → okA z th f' b :=
  jS hx_x (o_share I.1 h1) f
theorem j_lineByte (I : lwI n lt ln bd ah bh en st sh yl yp lv pv lo xl xb den hc g0 g1 g2 g3 pasts ty ms past tx) {p1 p2 : Int} (h1 : inR p1) (h2 : inR p2) (f : Nat → Int64) (th l0 p0 me ml mr : Int) (line0 page0 : Nat → Int) :
    ∃ (PC : Int → (Nat → Int64) → Prop) (PM : MP), wpX5_lineByte n lt ln ah bh yl lv p1 p2 (XPxa (fun k => PC k f)) (fun z => PC 0 (fst1 f z)) ∧ wpX6_lineByte th l0 p0 me ml mr ms line0 page0 p1 p2 PM ∧ ∀ (z : Int) (f' : Nat → Int64) (b th l p me ml mr : Int) (line page : Nat → Int), PC z f' → PM b th l p me ml mr line page → okA z th f' b := by
  obtain ⟨R, ⟨L, P, rfl, rfl, Y⟩, -⟩ := I
  exact jM hx_xa (o_lineByte R Y h1 h2) f
theorem j_unevenness (I : lwI n lt ln bd ah bh en st sh yl yp lv pv lo xl xb den hc g0 g1 g2 g3 pasts ty ms past tx) (th l0 p0 me ml mr : Int) (line0 page0 : Nat → Int) :
    ∃ (PC : Int → Prop) (PM : MP), wpX5_unevenness yl lv PC ∧ wpX6_unevenness th l0 p0 me ml mr ms line0 page0 PM ∧ ∀ (z b th l p me ml mr : Int) (line page : Nat → Int), PC z → PM b th l p me ml mr line page → z = b := by
  obtain ⟨R, ⟨L, P, rfl, rfl, Y⟩, -⟩ := I
  rcases o_unevenness R Y (th := th) (l0 := l0) (p0 := p0) (me := me) (ml := ml) (mr := mr) (line0 := line0) (page0 := page0) with ⟨v, h1, h2⟩ | ⟨k, nm, r, hk, -⟩
  · exact ⟨fun z => z = v, fun b _ _ _ _ _ _ _ _ => b = v, h1 (fun _ => True) _ rfl, h2 _ (fun _ _ _ _ _ _ _ => rfl), fun z b _ _ _ _ _ _ _ _ a1 a2 => a1.trans a2.symm⟩
  · cases hk
theorem j_meanEmpty (I : lwI n lt ln bd ah bh en st sh yl yp lv pv lo xl xb den hc g0 g1 g2 g3 pasts ty ms past tx) (th l0 p0 me ml mr : Int) (line0 page0 : Nat → Int) :
    ∃ (PC : UInt64 → Prop) (PM : UInt64 → Int → Int → Int → Int → Int → Int → (Nat → Int) → (Nat → Int) → Prop), wpX5_meanEmpty yl lv PC ∧ wpX6_meanEmpty th l0 p0 me ml mr ms line0 page0 PM ∧ ∀ (z b : UInt64) (th l p me ml mr : Int) (line page : Nat → Int), PC z → PM b th l p me ml mr line page → z = b := by
  obtain ⟨R, ⟨L, P, rfl, rfl, Y⟩, -⟩ := I
  obtain ⟨v, h1, h2⟩ := o_meanEmpty noNaN R Y (th := th) (l0 := l0) (p0 := p0) (me := me) (ml := ml) (mr := mr) (line0 := line0) (page0 := page0)
  exact ⟨fun z => z = v, fun b _ _ _ _ _ _ _ _ => b = v, h1 _ rfl, h2 _ (fun _ _ _ _ _ _ _ => rfl), fun z b _ _ _ _ _ _ _ _ a1 a2 => a1.trans a2.symm⟩
theorem j_linesWith (I : lwI n lt ln bd ah bh en st sh yl yp lv pv lo xl xb den hc g0 g1 g2 g3 pasts ty ms past tx) {p1 : Int} (h1 : inR p1) (f : Nat → Int64) (tl tp : Int) (tlv tpv tlo ts : Nat → Int) (x1 x2 x3 x4 x5 x6 x7 x8 : Int) (th l0 p0 me ml mr : Int) (line0 page0 : Nat → Int) :
    ∃ (PC : TQ) (PM : MP), wpX5_linesWith n bd ah bh en st sh tl tp tlv tpv tlo ts x1 x2 x3 x4 x5 x6 x7 x8 p1 (XPa (fun k => PC k tl tp tlv tpv tlo ts x1 x2 x3 x4 x5 x6 x7 x8 f)) (fun z l p a b c d y1 y2 y3 y4 y5 y6 y7 y8 => PC 0 l p a b c d y1 y2 y3 y4 y5 y6 y7 y8 (fst1 f z)) ∧ wpX6_linesWith th l0 p0 me ml mr ms line0 page0 p1 PM ∧
      ∀ (z : Int) (l p : Int) (a b c d : Nat → Int) (y1 y2 y3 y4 y5 y6 y7 y8 : Int) (f' : Nat → Int64) (v th l2 p2 me ml mr : Int) (line page : Nat → Int), PC z l p a b c d y1 y2 y3 y4 y5 y6 y7 y8 f' → PM v th l2 p2 me ml mr line page → okA z th f' v :=
  jT hx_a (o_linesWith I.1 h1 tl tp tlv tpv tlo ts x1 x2 x3 x4 x5 x6 x7 x8) f tl tp tlv tpv tlo ts x1 x2 x3 x4 x5 x6 x7 x8
theorem j_measureFor (I : lwI n lt ln bd ah bh en st sh yl yp lv pv lo xl xb den hc g0 g1 g2 g3 pasts ty ms past tx) {p1 : Int} (h1 : inR p1) (f : Nat → Int64) (tl tp : Int) (tlv tpv tlo ts : Nat → Int) (x1 x2 x3 x4 x5 x6 x7 x8 : Int) (th l0 p0 me ml mr : Int) (line0 page0 : Nat → Int) :
    ∃ (PC : TQ) (PM : MP), wpX5_measureFor n bd ah bh en st sh tl tp tlv tpv tlo ts x1 x2 x3 x4 x5 x6 x7 x8 p1 (XPa (fun k => PC k tl tp tlv tpv tlo ts x1 x2 x3 x4 x5 x6 x7 x8 f)) (fun z l p a b c d y1 y2 y3 y4 y5 y6 y7 y8 => PC 0 l p a b c d y1 y2 y3 y4 y5 y6 y7 y8 (fst1 f z)) ∧ wpX6_measureFor th l0 p0 me ml mr ms line0 page0 p1 PM ∧
      ∀ (z : Int) (l p : Int) (a b c d : Nat → Int) (y1 y2 y3 y4 y5 y6 y7 y8 : Int) (f' : Nat → Int64) (v th l2 p2 me ml mr : Int) (line page : Nat → Int), PC z l p a b c d y1 y2 y3 y4 y5 y6 y7 y8 f' → PM v th l2 p2 me ml mr line page → okA z th f' v :=
  jT hx_a (o_measureFor I.1 h1 tl tp tlv tpv tlo ts x1 x2 x3 x4 x5 x6 x7 x8) f tl tp tlv tpv tlo ts x1 x2 x3 x4 x5 x6 x7 x8
theorem j_evenest (I : lwI n lt ln bd ah bh en st sh yl yp lv pv lo xl xb den hc g0 g1 g2 g3 pasts ty ms past tx) {p1 : Int} (h1 : inR p1) (f : Nat → Int64) (tl tp : Int) (tlv tpv tlo ts : Nat → Int) (x1 x2 x3 x4 x5 x6 x7 x8 : Int) (th l0 p0 me ml mr : Int) (line0 page0 : Nat → Int) :
    ∃ (PC : TQ) (PM : MP), wpX5_evenest n bd ah bh en st sh tl tp tlv tpv tlo ts x1 x2 x3 x4 x5 x6 x7 x8 p1 (XPa (fun k => PC k tl tp tlv tpv tlo ts x1 x2 x3 x4 x5 x6 x7 x8 f)) (fun z l p a b c d y1 y2 y3 y4 y5 y6 y7 y8 => PC 0 l p a b c d y1 y2 y3 y4 y5 y6 y7 y8 (fst1 f z)) ∧ wpX6_evenest th l0 p0 me ml mr ms line0 page0 p1 PM ∧
      ∀ (z : Int) (l p : Int) (a b c d : Nat → Int) (y1 y2 y3 y4 y5 y6 y7 y8 : Int) (f' : Nat → Int64) (v th l2 p2 me ml mr : Int) (line page : Nat → Int), PC z l p a b c d y1 y2 y3 y4 y5 y6 y7 y8 f' → PM v th l2 p2 me ml mr line page → okA z th f' v :=
  jT hx_a (o_evenest I.1 h1 tl tp tlv tpv tlo ts x1 x2 x3 x4 x5 x6 x7 x8) f tl tp tlv tpv tlo ts x1 x2 x3 x4 x5 x6 x7 x8
theorem j_linesUnlent (I : lwI n lt ln bd ah bh en st sh yl yp lv pv lo xl xb den hc g0 g1 g2 g3 pasts ty ms past tx) (tl tp : Int) (tlv tpv tlo ts : Nat → Int) (x1 x2 x3 x4 x5 x6 x7 x8 : Int) (th l0 p0 me ml mr : Int) (line0 page0 : Nat → Int) :
    ∃ (PC : TP) (PM : MP), wpX5_linesUnlent n bd ah bh en st sh tl tp tlv tpv tlo ts x1 x2 x3 x4 x5 x6 x7 x8 PC ∧ wpX6_linesUnlent th l0 p0 me ml mr ms line0 page0 PM ∧
      ∀ (z : Int) (l p : Int) (a b c d : Nat → Int) (y1 y2 y3 y4 y5 y6 y7 y8 v th l2 p2 me ml mr : Int) (line page : Nat → Int), PC z l p a b c d y1 y2 y3 y4 y5 y6 y7 y8 → PM v th l2 p2 me ml mr line page → z = v := by
  rcases o_linesUnlent I.1 (th := th) (l0 := l0) (p0 := p0) (me := me) (ml := ml) (mr := mr) (line0 := line0) (page0 := page0) tl tp tlv tpv tlo ts x1 x2 x3 x4 x5 x6 x7 x8 with ⟨v, h1, h2⟩ | ⟨k, nm, r, hk, -⟩
  · exact ⟨fun z _ _ _ _ _ _ _ _ _ _ _ _ _ _ => z = v, fun b _ _ _ _ _ _ _ _ => b = v, h1 (fun _ => True) _ (fun _ _ _ _ _ _ _ _ _ _ _ _ _ _ => rfl), h2 _ (fun _ _ _ _ _ _ _ => rfl), fun _ _ _ _ _ _ _ _ _ _ _ _ _ _ _ _ _ _ _ _ _ _ _ _ a1 a2 => a1.trans a2.symm⟩
  · cases hk
theorem j_type (I : lwI n lt ln bd ah bh en st sh yl yp lv pv lo xl xb den hc g0 g1 g2 g3 pasts ty ms past tx) {p1 : Int} (h1 : inR p1) (f : Nat → Int64) (th : Int) :
    ∃ (PC : Int → Int → (Nat → Int) → (Nat → Int64) → Prop) (PM : Int → Int → Int → (Nat → Int) → Prop), wpX5_type xl xb p1 (XPas (fun k => PC k xl xb f)) (fun z xl xb => PC 0 xl xb (fst1 f z)) ∧ wpX6_type ty th tx p1 PM ∧
      ∀ (z xl : Int) (xb : Nat → Int) (f' : Nat → Int64) (b ty th : Int) (tx : Nat → Int), PC z xl xb f' → PM b ty th tx → okA z th f' b ∧ lwI n lt ln bd ah bh en st sh yl yp lv pv lo xl xb den hc g0 g1 g2 g3 pasts ty ms past tx := by
  obtain ⟨R, Y, H, X, D⟩ := I
  rcases o_type X (p1 := p1) (th := th) h1 with ⟨v, xl', xb', tx', X', c1, c2⟩ | ⟨k, nm, r, hk, c1, c2⟩
  · refine ⟨fun z xl xb f' => (z = 0 ∧ f' 0 = (iI v).toInt64) ∧ xl = xl' ∧ xb = xb', fun b ty th tx => (b = v ∧ th = 0) ∧ ty = xl' ∧ tx = tx', c1 _ _ ⟨⟨rfl, fst1_at⟩, rfl, rfl⟩, c2 _ ⟨⟨rfl, rfl⟩, rfl, rfl⟩, ?_⟩
    intro z xl2 xb2 f' b ty2 th2 tx2 a1 a2
    obtain ⟨a0, rfl, rfl⟩ := a1
    obtain ⟨b0, rfl, rfl⟩ := a2
    exact ⟨ok_val a0 b0, R, Y, H, X', D⟩
  · refine ⟨fun z xl2 xb2 f' => z = (k : Int) + 1 ∧ xl2 = xl ∧ xb2 = xb, fun b ty2 th tx2 => th = (k : Int) + 1 ∧ ty2 = ty ∧ tx2 = tx, c1 _ _ (hx_as.2 _ k nm hk ⟨rfl, rfl, rfl⟩), c2 _ ⟨rfl, rfl, rfl⟩, ?_⟩
    intro z xl2 xb2 f' b ty2 th2 tx2 a1 a2
    obtain ⟨a0, rfl, rfl⟩ := a1
    obtain ⟨b0, rfl, rfl⟩ := a2
    exact ⟨ok_thr (hx_as.k hk) a0 b0, R, Y, H, X, D⟩
theorem j_clearText (I : lwI n lt ln bd ah bh en st sh yl yp lv pv lo xl xb den hc g0 g1 g2 g3 pasts ty ms past tx) (th : Int) :
    ∃ (PC : Int → Int → Prop) (PM : Int → Int → Int → Prop), wpX5_clearText xl PC ∧ wpX6_clearText ty th PM ∧
      ∀ (z xl b ty th : Int), PC z xl → PM b ty th → z = b ∧ lwI n lt ln bd ah bh en st sh yl yp lv pv lo xl xb den hc g0 g1 g2 g3 pasts ty ms past tx := by
  obtain ⟨R, Y, H, X, D⟩ := I
  obtain ⟨X', c1, c2⟩ := o_clearText X (th := th)
  refine ⟨fun z x2 => z = xl ∧ x2 = 0, fun b t2 _ => b = xl ∧ t2 = 0, c1 _ ⟨rfl, rfl⟩, c2 _ ⟨rfl, rfl⟩, ?_⟩
  intro z x2 b t2 th2 a1 a2
  obtain ⟨a0, rfl⟩ := a1
  obtain ⟨b0, rfl⟩ := a2
  exact ⟨a0.trans b0.symm, R, Y, H, X', D⟩
theorem j_digest (I : lwI n lt ln bd ah bh en st sh yl yp lv pv lo xl xb den hc g0 g1 g2 g3 pasts ty ms past tx) (th l0 p0 me ml mr : Int) (hm : Int64) (line0 page0 : Nat → Int) :
    ∃ (PC : Int64 → Prop) (PM : Int64 → Int → Int → Int → Int → Int → Int → Int64 → (Nat → Int) → (Nat → Int) → Prop), wpX5_digest n lt ln bd ah bh en st sh yl yp lv pv lo xl hc PC ∧ wpX6_digest pasts ty th l0 p0 me ml mr hm ms line0 page0 PM ∧
      ∀ (z b : Int64) (th l p me ml mr : Int) (hm : Int64) (line page : Nat → Int), PC z → PM b th l p me ml mr hm line page → z = b := by
  obtain ⟨R, ⟨L, P, rfl, rfl, Y⟩, H, X, -⟩ := I
  have e := X.1
  subst e
  have e2 := H.1
  subst e2
  obtain ⟨v, h1, h2⟩ := o_digest R Y (ty := xl) (hc := pasts) (th := th) (l0 := l0) (p0 := p0) (me := me) (ml := ml) (mr := mr) (hm := hm) (line0 := line0) (page0 := page0)
  exact ⟨fun z => z = v, fun b _ _ _ _ _ _ _ _ _ => b = v, h1 _ rfl, h2 _ (fun _ _ _ _ _ _ _ => rfl), fun z b _ _ _ _ _ _ _ _ _ a1 a2 => a1.trans a2.symm⟩
end Cs
