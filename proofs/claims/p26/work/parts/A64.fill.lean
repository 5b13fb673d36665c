/-! One page: the class's fillPage and the reference's setPage. -/
theorem q1_lv {lv : Nat → Int} {l : Nat} (j : Nat) {post : Int → Prop} (h1 : l < 60) (h3 : j < 12) (h : post (lv (12 * l + j))) : wpX1_lineValue lv (l : Int) (j : Int) post := by
  refine q1_lineValue (by omega) (by omega) (by omega) (by omega) ?_
  rw [Int.toNat_natCast, Int.toNat_natCast]
  exact h
theorem q1_lent {lv : Nat → Int} {l : Nat} {post : Int → Prop} (h1 : l < 60) (h : post (lv (12 * l + 5) + lv (12 * l + 6))) : wpX1_lentTo lv (l : Int) post := by
  refine q1_lentTo (by omega) (by omega) ?_
  rw [Int.toNat_natCast]
  exact h
def pageIs (pv lv : Nat → Int) (P F L : Nat) (tk : Int) : Prop :=
  pv (6 * P) = (F : Int) ∧ pv (6 * P + 1) = (L : Int) - F ∧ pv (6 * P + 2) = sr (fun l => lv (12 * l + 5) + lv (12 * l + 6)) F (L - F) ∧ pv (6 * P + 3) = sr (fun l => lv (12 * l + 7)) F (L - F) ∧ pv (6 * P + 4) = lv (12 * (L - 1) + 8) ∧ pv (6 * P + 5) = tk
def pout (pv pv' : Nat → Int) (P : Nat) : Prop := ∀ k : Nat, k < 6 * P ∨ 6 * P + 6 ≤ k → pv' k = pv k
theorem q1_addPage {L P F : Nat} {lv pv : Nat → Int} {tk : Int} {post : Int → (Nat → Int) → Prop} (hP : P < 60) (hF : F < L) (hL : L ≤ 60) (htk : inR tk)
    (hp : ∀ pv' : Nat → Int, pout pv pv' P → pageIs pv' lv P F L (if tk = 0 then 0 else 1) → post (P + 1) pv') : wpX1_addPage (L : Int) (P : Int) lv pv (F : Int) tk post := by
  unfold wpX1_addPage
  have z0 : ((P : Int) * 6 + 0).toNat = 6 * P := by omega
  have z1 : ((P : Int) * 6 + 1).toNat = 6 * P + 1 := by omega
  have z2 : ((P : Int) * 6 + 2).toNat = 6 * P + 2 := by omega
  have z3 : ((P : Int) * 6 + 3).toNat = 6 * P + 3 := by omega
  have z4 : ((P : Int) * 6 + 4).toNat = 6 * P + 4 := by omega
  have z5 : ((P : Int) * 6 + 5).toNat = 6 * P + 5 := by omega
  have key : ∀ (f i : Nat) (a b : Int), F ≤ i → i + f = L → a = sr (fun l => lv (12 * l + 5) + lv (12 * l + 6)) F (i - F) → b = sr (fun l => lv (12 * l + 7)) F (i - F) → wpX1_addPage_18 (L : Int) lv post (f + 1) (P : Int) pv (F : Int) tk a b (i : Int) := by
    intro f
    induction f with
    | zero =>
      intro i a b a1 a2 a3 a4
      have e : i = L := by omega
      rw [e] at a3 a4
      rw [wpX1_addPage_18]
      refine ⟨inR_of (by omega), inR_of (by omega), fun _ => ⟨by omega, by omega, by omega, by omega, by omega, by omega, by omega, by omega, ?_⟩, fun c => absurd (by omega) c⟩
      rw [show (L : Int) - 1 = ((L - 1 : Nat) : Int) by omega]
      refine q1_lv 8 (by omega) (by omega) ⟨by omega, by omega, htk, fun c => ?_, fun c => ?_⟩
      · rw [z0, z1, z2, z3, z4]
        unfold wpX1_addPage_148
        rw [z5]
        rw [if_pos c] at hp
        refine ⟨by omega, by omega, hp _ (fun k hk => ?_) ?_⟩
        · simp only [updI]
          repeat rw [if_neg (by omega)]
        · unfold pageIs
          simp only [updI]
          refine ⟨?_, ?_, ?_, ?_, ?_, ?_⟩ <;> (repeat rw [if_neg (by omega)]) <;> first | rfl | (first | rw [if_pos rfl] | rw [if_pos trivial]) <;> assumption
      · rw [z0, z1, z2, z3, z4]
        unfold wpX1_addPage_148
        rw [z5]
        rw [if_neg c] at hp
        refine ⟨by omega, by omega, hp _ (fun k hk => ?_) ?_⟩
        · simp only [updI]
          repeat rw [if_neg (by omega)]
        · unfold pageIs
          simp only [updI]
          refine ⟨?_, ?_, ?_, ?_, ?_, ?_⟩ <;> (repeat rw [if_neg (by omega)]) <;> first | rfl | (first | rw [if_pos rfl] | rw [if_pos trivial]) <;> assumption
    | succ f ih =>
      intro i a b a1 a2 a3 a4
      rw [wpX1_addPage_18]
      refine ⟨inR_of (by omega), inR_of (by omega), fun c => absurd c (by omega), fun _ => q1_lent (by omega) (q1_lv 7 (by omega) (by omega) ?_)⟩
      have h9 := ih (i + 1) (a + (lv (12 * i + 5) + lv (12 * i + 6))) (b + lv (12 * i + 7)) (by omega) (by omega)
        (by rw [show i + 1 - F = (i - F) + 1 by omega, sr_succ, show F + (i - F) = i by omega, ← a3])
        (by rw [show i + 1 - F = (i - F) + 1 by omega, sr_succ, show F + (i - F) = i by omega, ← a4])
      rw [show ((i + 1 : Nat) : Int) = (i : Int) + 1 by omega] at h9
      exact h9
  refine ⟨inR_of (by omega), fun _ => ⟨(L - F) + 1, key (L - F) F 0 0 (Nat.le_refl _) (by omega) ?_ ?_⟩, fun c => absurd (by omega) c⟩
  · rw [Nat.sub_self]; rfl
  · rw [Nat.sub_self]; rfl
theorem q1_mayGiveBack {t lv : Nat → Int} {L F : Nat} {post : Int → Prop} (T : OKt t) (hF : F < L) (hL : L ≤ 60) (he : lv (12 * (L - 1) + 10) = 0 ∨ lv (12 * (L - 1) + 10) = 1)
    (h : post (if t 5 = 1 ∧ (L : Int) - F = t 1 ∧ lv (12 * (L - 1) + 10) = 0 then 1 else 0)) : wpX1_mayGiveBack (L : Int) lv t (F : Int) post := by
  obtain ⟨t0, t0', t1, t1', t2, t2', t3, t3', t4, t4', t5⟩ := T
  unfold wpX1_mayGiveBack
  refine ⟨inR_of (by omega), inR_of (by omega), fun c => ?_, fun c => ?_⟩
  · unfold wpX1_mayGiveBack_22
    rw [if_neg (fun z => c z.2.1)] at h
    exact ⟨inR_of (by omega), fun _ => h, fun _ => ⟨inR_lit rfl, fun _ => h, fun z => absurd rfl z⟩⟩
  · unfold wpX1_mayGiveBack_22
    refine ⟨inR_of (by omega), fun c2 => ?_, fun c2 => ⟨inR_lit rfl, fun z => absurd z (by decide), fun _ => ⟨inR_of (by omega), fun z => absurd z (by omega), fun _ => ?_⟩⟩⟩
    · rw [if_neg (fun z => c2 z.1)] at h
      exact h
    · rw [show (L : Int) - 1 = ((L - 1 : Nat) : Int) by omega]
      refine q1_lv 10 (by omega) (by omega) ⟨inR_of (by omega), fun c3 => ?_, fun c3 => ?_⟩
      · rw [if_neg (fun z => c3 z.2.2)] at h
        exact h
      · rw [if_pos ⟨c2, c, c3⟩] at h
        exact h
