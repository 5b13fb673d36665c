/-! Lines and pages in the class's tables. -/
def sr (g : Nat → Int) (a : Nat) : Nat → Int
  | 0 => 0
  | k + 1 => sr g a k + g (a + k)
theorem sr_cong {f g : Nat → Int} {a n : Nat} (h : ∀ k, a ≤ k → k < a + n → f k = g k) : sr f a n = sr g a n := by
  induction n with
  | zero => rfl
  | succ n ih => rw [sr, sr, ih (fun k h1 h2 => h k h1 (by omega)), h (a + n) (by omega) (by omega)]
theorem sr_succ (g : Nat → Int) (a k : Nat) : sr g a (k + 1) = sr g a k + g (a + k) := rfl
theorem updI_eq {f : Nat → Int} {k j : Nat} {v : Int} (h : j = k) : updI f k v j = v := if_pos h
theorem updI_ne {f : Nat → Int} {k j : Nat} {v : Int} (h : j ≠ k) : updI f k v j = f j := if_neg h
theorem q1_lineValue {lv : Nat → Int} {l j : Int} {post : Int → Prop} (h0 : 0 ≤ l) (h1 : l < 60) (h2 : 0 ≤ j) (h3 : j < 12) (h : post (lv (12 * l.toNat + j.toNat))) : wpX1_lineValue lv l j post := by
  rw [show 12 * l.toNat + j.toNat = (l * 12 + j).toNat by omega] at h
  unfold wpX1_lineValue
  repeat' (first | exact h | omega | refine And.intro ?_ ?_ | intro _)
theorem q1_pageValue {pv : Nat → Int} {l j : Int} {post : Int → Prop} (h0 : 0 ≤ l) (h1 : l < 60) (h2 : 0 ≤ j) (h3 : j < 6) (h : post (pv (6 * l.toNat + j.toNat))) : wpX1_pageValue pv l j post := by
  rw [show 6 * l.toNat + j.toNat = (l * 6 + j).toNat by omega] at h
  unfold wpX1_pageValue
  repeat' (first | exact h | omega | refine And.intro ?_ ?_ | intro _)
theorem q1_lineOfWord {lo : Nat → Int} {w : Int} {post : Int → Prop} (h0 : 0 ≤ w) (h1 : w < 60) (h : post (lo w.toNat)) : wpX1_lineOfWord lo w post := by
  unfold wpX1_lineOfWord
  repeat' (first | exact h | omega | refine And.intro ?_ ?_ | intro _)
theorem q1_lentTo {lv : Nat → Int} {l : Int} {post : Int → Prop} (h0 : 0 ≤ l) (h1 : l < 60) (h : post (lv (12 * l.toNat + 5) + lv (12 * l.toNat + 6))) : wpX1_lentTo lv l post := by
  unfold wpX1_lentTo
  exact q1_lineValue h0 h1 (by omega) (by omega) (q1_lineValue h0 h1 (by omega) (by omega) h)
theorem q1_empty {nat own left right wide : Int} {post : Int → Prop} (hw : wide = 0 ∨ wide = 1) (h : post (if wide = 0 then own + (left + right) - nat else 0)) : wpX2_empty nat own left right wide post := by
  unfold wpX2_empty
  rcases hw with rfl | rfl
  · exact ⟨inR_lit rfl, fun _ => h, fun c => absurd rfl c⟩
  · exact ⟨inR_lit rfl, fun c => absurd c (by decide), fun _ => h⟩
/-- which words the loop marks -/
theorem q1_mark {P L : Int} {lv lo : Nat → Int} {x1 x2 x3 x4 x5 x6 x7 x8 first : Int} {post : Int → (Nat → Int) → (Nat → Int) → Prop} (h0 : 0 ≤ first) (h1 : 1 ≤ x1) (h2 : first + x1 ≤ 60)
    (hp : ∀ lo' : Nat → Int, (∀ w : Nat, lo' w = if first ≤ (w : Int) ∧ (w : Int) < first + x1 then L else lo w) → post (L + 1) lv lo') :
    ∃ n0 : Nat, wpX1_addLine_212 P x1 x2 x3 x4 x5 x6 x7 x8 post n0 L lv lo first (if 0 < first then first else 0) := by
  have e : (if 0 < first then first else 0) = first := by split <;> omega
  rw [e]
  refine ⟨x1.toNat + 1, ?_⟩
  have key : ∀ (f : Nat) (v : Int) (lo1 : Nat → Int), first ≤ v → v + f = first + x1 → (∀ w : Nat, lo1 w = if first ≤ (w : Int) ∧ (w : Int) < v then L else lo w) → wpX1_addLine_212 P x1 x2 x3 x4 x5 x6 x7 x8 post (f + 1) L lv lo1 first v := by
    intro f
    induction f with
    | zero =>
      intro v lo1 a1 a2 a3
      rw [wpX1_addLine_212]
      refine ⟨inR_of (by omega), inR_of (by omega), fun _ => hp lo1 (fun w => ?_), fun c => absurd (by omega) c⟩
      rw [a3 w, show v = first + x1 by omega]
    | succ f ih =>
      intro v lo1 a1 a2 a3
      rw [wpX1_addLine_212]
      refine ⟨inR_of (by omega), inR_of (by omega), fun c => absurd c (by omega), fun _ => ⟨inR_of (by omega), fun c => absurd c (by omega), fun _ => ⟨by omega, by omega, ih (v + 1) _ (by omega) (by omega) (fun w => ?_)⟩⟩⟩
      by_cases c : w = v.toNat
      · rw [updI_eq c, if_pos (by omega)]
      · rw [updI_ne c, a3 w]
        by_cases c2 : first ≤ (w : Int) ∧ (w : Int) < v
        · rw [if_pos c2, if_pos (by omega)]
        · rw [if_neg c2, if_neg (by omega)]
  refine key x1.toNat first lo (by omega) (by omega) (fun w => ?_)
  rw [if_neg (by omega)]
/-- what addLine leaves -/
def lineIs (lv : Nat → Int) (L : Nat) (P first words nat own left right paid debt wide ends : Int) : Prop :=
  lv (12 * L) = P ∧ lv (12 * L + 1) = first ∧ lv (12 * L + 2) = words ∧ lv (12 * L + 3) = nat ∧ lv (12 * L + 4) = own ∧ lv (12 * L + 5) = left ∧ lv (12 * L + 6) = right ∧ lv (12 * L + 7) = paid ∧ lv (12 * L + 8) = debt ∧ lv (12 * L + 9) = wide ∧ lv (12 * L + 10) = ends ∧ lv (12 * L + 11) = (if wide = 0 then own + (left + right) - nat else 0)
theorem q1_addLine {L : Nat} {P : Int} {lv lo : Nat → Int} {words nat own left right paid debt wide first ends : Int} {post : Int → (Nat → Int) → (Nat → Int) → Prop} (hL : L < 60) (hw : wide = 0 ∨ wide = 1) (he : ends = 0 ∨ ends = 1) (h0 : 0 ≤ first) (h1 : 1 ≤ words) (h2 : first + words ≤ 60)
    (hp : ∀ lv' lo' : Nat → Int, (∀ k : Nat, k < 12 * L ∨ 12 * L + 12 ≤ k → lv' k = lv k) → lineIs lv' L P first words nat own left right paid debt wide ends → (∀ w : Nat, lo' w = if first ≤ (w : Int) ∧ (w : Int) < first + words then (L : Int) else lo w) → post (L + 1) lv' lo') :
    wpX1_addLine (L : Int) P lv lo words nat own left right paid debt wide first ends post := by
  unfold wpX1_addLine
  have z0 : ((L : Int) * 12 + 0).toNat = 12 * L := by omega
  have z1 : ((L : Int) * 12 + 1).toNat = 12 * L + 1 := by omega
  have z2 : ((L : Int) * 12 + 2).toNat = 12 * L + 2 := by omega
  have z3 : ((L : Int) * 12 + 3).toNat = 12 * L + 3 := by omega
  have z4 : ((L : Int) * 12 + 4).toNat = 12 * L + 4 := by omega
  have z5 : ((L : Int) * 12 + 5).toNat = 12 * L + 5 := by omega
  have z6 : ((L : Int) * 12 + 6).toNat = 12 * L + 6 := by omega
  have z7 : ((L : Int) * 12 + 7).toNat = 12 * L + 7 := by omega
  have z8 : ((L : Int) * 12 + 8).toNat = 12 * L + 8 := by omega
  have z9 : ((L : Int) * 12 + 9).toNat = 12 * L + 9 := by omega
  have z10 : ((L : Int) * 12 + 10).toNat = 12 * L + 10 := by omega
  have z11 : ((L : Int) * 12 + 11).toNat = 12 * L + 11 := by omega
  rw [z0, z1, z2, z3, z4, z5, z6, z7, z8]
  have fin : ∀ wd en : Int, wd = wide → en = ends → wpX1_addLine_188 P words nat own left right paid debt wide post (L : Int) (updI (updI (updI (updI (updI (updI (updI (updI (updI (updI lv (12 * L) P) (12 * L + 1) first) (12 * L + 2) words) (12 * L + 3) nat) (12 * L + 4) own) (12 * L + 5) left) (12 * L + 6) right) (12 * L + 7) paid) (12 * L + 8) debt) (12 * L + 9) wd) lo first ((L : Int) * 12) en ((L : Int) * 12 + 10) := by
    intro wd en e1 e2
    subst e1
    subst e2
    unfold wpX1_addLine_188
    refine ⟨by omega, by omega, q1_empty hw ⟨by omega, by omega, inR_of (by omega), ?_⟩⟩
    rw [z10, z11]
    refine q1_mark h0 h1 h2 (fun lo' hlo => hp _ lo' (fun k hk => ?_) ?_ hlo)
    · simp only [updI]
      repeat rw [if_neg (by omega)]
    · unfold lineIs
      simp only [updI]
      refine ⟨?_, ?_, ?_, ?_, ?_, ?_, ?_, ?_, ?_, ?_, ?_, ?_⟩ <;> (repeat rw [if_neg (by omega)]) <;> first | rfl | rw [if_pos rfl]
  have fin2 : ∀ wd : Int, wd = wide → wpX1_addLine_170 P words nat own left right paid debt wide post (L : Int) (updI (updI (updI (updI (updI (updI (updI (updI (updI lv (12 * L) P) (12 * L + 1) first) (12 * L + 2) words) (12 * L + 3) nat) (12 * L + 4) own) (12 * L + 5) left) (12 * L + 6) right) (12 * L + 7) paid) (12 * L + 8) debt) lo first ends ((L : Int) * 12) wd ((L : Int) * 12 + 9) := by
    intro wd e1
    unfold wpX1_addLine_170
    rw [z9]
    rcases he with e | e
    · exact ⟨by omega, by omega, inR_of (by omega), fun _ => fin wd 0 e1 e.symm, fun c => absurd e c⟩
    · exact ⟨by omega, by omega, inR_of (by omega), fun c => absurd c (by omega), fun _ => fin wd 1 e1 e.symm⟩
  rcases hw with e | e
  · refine ⟨inR_of (by omega), fun _ => ?_, fun c => absurd c (by omega)⟩
    exact ⟨by omega, by omega, by omega, by omega, by omega, by omega, by omega, by omega, by omega, by omega, by omega, by omega, by omega, by omega, by omega, by omega, by omega, by omega, inR_of (by omega), fun _ => fin2 0 e.symm, fun c => absurd e c⟩
  · refine ⟨inR_of (by omega), fun _ => ?_, fun c => absurd c (by omega)⟩
    exact ⟨by omega, by omega, by omega, by omega, by omega, by omega, by omega, by omega, by omega, by omega, by omega, by omega, by omega, by omega, by omega, by omega, by omega, by omega, inR_of (by omega), fun c => absurd c (by omega), fun _ => fin2 1 e.symm⟩
