/-! Reading all words. -/
section RA
variable {T : Int} {xb tx : Nat → Int} {st sh s0 : Nat → Int} {lo : Int}
theorem WO.monM {m : Nat} {C : RP → Nat → Prop} {M M' : (Int → Int → (Nat → Int) → Prop) → Prop} (W : WO T xb m st sh s0 lo C M) (hM : ∀ Q, M Q → M' Q) : WO T xb m st sh s0 lo C M' := by
  rcases W with ⟨i, q, l1, l2, l3, l4, l5, l6, s', b1, b2, b3, b4, b5, b6, b7, b8, b9⟩ | ⟨f, q, n, l1, l2, l3, l4, l5, l6, s', b1, b2, b3, b4, b8, b9⟩
  · exact Or.inl ⟨i, q, l1, l2, l3, l4, l5, l6, s', b1, b2, b3, b4, b5, b6, b7, b8, fun Q h => hM Q (b9 Q h)⟩
  · exact Or.inr ⟨f, q, n, l1, l2, l3, l4, l5, l6, s', b1, b2, b3, b4, b8, fun Q h => hM Q (b9 Q h)⟩
theorem rdL {m : Nat} {ah bh en : Nat → Int} {a : Int} (hT : T ≤ 200) (B : ∀ i : Nat, (i : Int) < T → tx i = xb i ∧ 0 ≤ xb i ∧ xb i ≤ 127) : ∀ (d : Nat) (j q : Int) (k : Nat) (lt ln bd s : Nat → Int), 0 ≤ j → j ≤ T → (T - j).toNat ≤ d → lo ≤ j → Bld m lt ln bd ah bh en st sh s a k → (∀ j : Nat, 975 ≤ j → s j = s0 j) → (k = 0 ∧ q = 1 ∨ 1 ≤ k ∧ q = 2) →
    WO T xb m st sh s0 lo (fun post r => wpX4_readInto_12 T xb post r q ((m : Int) + 1) lt ln bd ah bh en j) (fun Q => ∃ n0 : Nat, wpX6_readsWord_41 T tx Q n0 j s (m : Int) (k : Int)) := by
  intro d
  induction d with
  | zero =>
    intro j q k lt ln bd s h0 hj hd hlo H hs hq
    have hm := H.1
    have e : j = T := by omega
    subst e
    rcases hq with ⟨rfl, rfl⟩ | ⟨hk, rfl⟩
    · refine Or.inr ⟨j, 1, (m : Int) + 1, lt, ln, bd, ah, bh, en, s, h0, by omega, H.2.2.2.2.2.1, hs, ⟨1, fun post r h => ?_⟩, fun Q hQ => ⟨1, ?_⟩⟩
      · show wpX4_readInto_12 j xb post (1 + r) 1 ((m : Int) + 1) lt ln bd ah bh en j
        rw [Nat.add_comm 1 r, wpX4_readInto_12]
        exact ⟨inR_of (by omega), inR_of (by omega), fun _ => ⟨inR_lit rfl, fun z => absurd rfl z, fun _ => h⟩, fun z => absurd (Int.le_refl _) z⟩
      · rw [wpX6_readsWord_41]
        exact ⟨inR_of (by omega), inR_of (by omega), fun _ => ⟨inR_lit rfl, fun z => absurd rfl z, fun _ => hQ⟩, fun z => absurd (Int.le_refl _) z⟩
    · refine (rd2 hT h0 hj hlo B H hk hs (fun z => absurd z (by omega))).monM (fun Q hQ => ⟨1, ?_⟩)
      rw [wpX6_readsWord_41]
      exact ⟨inR_of (by omega), inR_of (by omega), fun _ => hQ, fun z => absurd (Int.le_refl _) z⟩
  | succ d ih =>
    intro j q k lt ln bd s h0 hj hd hlo H hs hq
    by_cases cT : j = T
    · exact (by
        have hm := H.1
        subst cT
        rcases hq with ⟨rfl, rfl⟩ | ⟨hk, rfl⟩
        · refine Or.inr ⟨j, 1, (m : Int) + 1, lt, ln, bd, ah, bh, en, s, h0, by omega, H.2.2.2.2.2.1, hs, ⟨1, fun post r h => ?_⟩, fun Q hQ => ⟨1, ?_⟩⟩
          · show wpX4_readInto_12 j xb post (1 + r) 1 ((m : Int) + 1) lt ln bd ah bh en j
            rw [Nat.add_comm 1 r, wpX4_readInto_12]
            exact ⟨inR_of (by omega), inR_of (by omega), fun _ => ⟨inR_lit rfl, fun z => absurd rfl z, fun _ => h⟩, fun z => absurd (Int.le_refl _) z⟩
          · rw [wpX6_readsWord_41]
            exact ⟨inR_of (by omega), inR_of (by omega), fun _ => ⟨inR_lit rfl, fun z => absurd rfl z, fun _ => hQ⟩, fun z => absurd (Int.le_refl _) z⟩
        · refine (rd2 hT h0 hj hlo B H hk hs (fun z => absurd z (by omega))).monM (fun Q hQ => ⟨1, ?_⟩)
          rw [wpX6_readsWord_41]
          exact ⟨inR_of (by omega), inR_of (by omega), fun _ => hQ, fun z => absurd (Int.le_refl _) z⟩)
    · have c1 : j < T := by omega
      have hm := H.1
      have hln := H.2.2.2.2.2.2.2.1
      have hk12 := H.2.2.2.2.2.2.2.2.1
      have b := (B j.toNat (by omega)).2
      have et := (B j.toNat (by omega)).1
      have em : ((m : Int) + 1 - 1).toNat = m := by omega
      by_cases cl : 97 ≤ xb j.toNat ∧ xb j.toNat ≤ 122
      · by_cases ck : k < 12
        · have H2 := H.letter ck (l := xb j.toNat - 97) (by omega)
          refine WO.go hT h0 c1 (ih (j + 1) 2 (k + 1) _ _ _ _ (by omega) (by omega) (by omega) (by omega) H2 (fun i hi => by rw [updI_ne (by omega)]; exact hs i hi) (Or.inr ⟨by omega, rfl⟩)) (fun post h => ?_) (fun Q hQ => ?_)
          · have h2 : post 1 2 ((m : Int) + 1) (updI lt (((m : Int) + 1 - 1) * 12 + ln ((m : Int) + 1 - 1).toNat).toNat (xb j.toNat - 97)) (updI ln ((m : Int) + 1 - 1).toNat (ln ((m : Int) + 1 - 1).toNat + 1)) (updI bd ((m : Int) + 1 - 1).toNat (bd ((m : Int) + 1 - 1).toNat + lw (xb j.toNat - 97))) ah bh en := by
              rw [em, hln, show (((m : Int) + 1 - 1) * 12 + (k : Int)).toNat = 12 * m + k by omega]
              exact h
            rcases hq with ⟨rfl, rfl⟩ | ⟨hk, rfl⟩
            · exact acc1 b (by omega) (by omega) (by omega) (by rw [em, hln]; rfl) (fun _ => h2) (fun z => absurd cl z)
            · exact acc2 b (by omega) (by omega) (by omega) (by rw [em, hln]; omega) (fun _ _ => h2) (fun z => absurd (sbB_not (Or.inr (Or.inr cl.1))) z) (fun z => absurd cl (by omega)) (fun z => by have := z cl; rw [em, hln] at this; omega)
          · obtain ⟨n0, hn⟩ := hQ
            refine ⟨n0 + 1, ?_⟩
            rw [wpX6_readsWord_41]
            unfold wpX6_puts
            rw [et]
            refine ⟨inR_of (by omega), inR_of (by omega), fun z => absurd z (by omega), fun _ => ⟨h0, by omega, q6_in (inR_of (by omega)) (inR_lit rfl) (inR_lit rfl) (fun _ => ⟨inR_lit rfl, fun z => absurd z (by decide), fun _ => ⟨inR_of (by omega), fun _ => ⟨h0, by omega, by omega, by omega, ?_⟩, fun z => absurd z (by omega)⟩⟩) (fun z => absurd cl z)⟩⟩
            rw [show (15 + 16 * (m : Int) + (k : Int)).toNat = 16 * m + (15 + k) by omega]
            exact hn
        · have ek : k = 12 := by omega
          have eq2 : q = 2 := by omega
          subst eq2
          refine WO.fail (q' := 2) (n' := (m : Int) + 1) (lt' := lt) (ln' := ln) (bd' := bd) (ah' := ah) (bh' := bh) hT h0 c1 H.2.2.2.2.2.1 hs (fun post h => acc2 b (by omega) (by omega) (by omega) (by rw [em, hln]; omega) (fun _ z => by rw [em, hln] at z; omega) (fun z => absurd (sbB_not (Or.inr (Or.inr cl.1))) z) (fun z => absurd cl (by omega)) (fun _ _ _ => h)) (fun Q hQ => ⟨1, ?_⟩)
          rw [wpX6_readsWord_41, et]
          exact ⟨inR_of (by omega), inR_of (by omega), fun z => absurd z (by omega), fun _ => ⟨h0, by omega, q6_in (inR_of (by omega)) (inR_lit rfl) (inR_lit rfl) (fun _ => ⟨inR_lit rfl, fun z => absurd z (by decide), fun _ => ⟨inR_of (by omega), fun z => absurd (by omega) z, fun _ => hQ⟩⟩) (fun z => absurd cl z)⟩⟩
      · have r41 : ∀ Q : Int → Int → (Nat → Int) → Prop, wpX6_readsWord_113 T tx Q j s (m : Int) (k : Int) → ∃ n0 : Nat, wpX6_readsWord_41 T tx Q n0 j s (m : Int) (k : Int) := fun Q hQ => ⟨1, by
          rw [wpX6_readsWord_41, et]
          exact ⟨inR_of (by omega), inR_of (by omega), fun z => absurd z (by omega), fun _ => ⟨h0, by omega, q6_in (inR_of (by omega)) (inR_lit rfl) (inR_lit rfl) (fun z => absurd z cl) (fun _ => ⟨inR_lit rfl, fun _ => hQ, fun z => absurd rfl z⟩)⟩⟩⟩
        rcases hq with ⟨rfl, rfl⟩ | ⟨hk, rfl⟩
        · have f113 : ∀ Q : Int → Int → (Nat → Int) → Prop, Q 0 j s → wpX6_readsWord_113 T tx Q j s (m : Int) ((0 : Nat) : Int) := fun Q hQ => ⟨inR_lit rfl, fun z => absurd rfl z, fun _ => hQ⟩
          by_cases c32 : xb j.toNat = 32
          · exact WO.fail (q' := 0) (n' := (m : Int) + 1) (lt' := lt) (ln' := ln) (bd' := bd) (ah' := ah) (bh' := bh) hT h0 c1 H.2.2.2.2.2.1 hs (fun post h => by rw [c32]; exact acc_sp1 h) (fun Q hQ => r41 Q (f113 Q hQ))
          · exact WO.fail (q' := 2) (n' := (m : Int) + 1) (lt' := lt) (ln' := ln) (bd' := bd) (ah' := ah) (bh' := bh) hT h0 c1 H.2.2.2.2.2.1 hs (fun post h => acc1 b c32 (by omega) (by omega) (by rw [em, hln]; rfl) (fun z => absurd z cl) (fun _ => h)) (fun Q hQ => r41 Q (f113 Q hQ))
        · exact (rd2 hT h0 hj hlo B H hk hs (fun _ => cl)).monM r41
theorem rdW {m : Nat} {lt ln bd ah bh en s : Nat → Int} {j : Int} (hT : T ≤ 200) (B : ∀ i : Nat, (i : Int) < T → tx i = xb i ∧ 0 ≤ xb i ∧ xb i ≤ 127) (h0 : 0 ≤ j) (hj : j < T) (h32 : xb j.toNat ≠ 32) (R : RS (m : Int) lt ln bd ah bh en st sh s) (hs : ∀ j : Nat, 975 ≤ j → s j = s0 j) :
    WO T xb m st sh s0 (j + 1) (fun post r => wpX4_readInto_12 T xb post r 0 (m : Int) lt ln bd ah bh en j) (fun Q => wpX6_readsWord T j s tx Q) := by
  have hm60 := R.2.2.1
  have e14 := R.1
  have he := R.2.2.2.2.2.2.1
  have b := (B j.toNat (by omega)).2
  have et := (B j.toNat (by omega)).1
  by_cases c60 : (m : Int) = 60
  · refine WO.fail (q' := 0) (n' := (m : Int)) (lt' := lt) (ln' := ln) (bd' := bd) (ah' := ah) (bh' := bh) hT h0 hj he hs (fun post h => acc0 b h32 (by omega) hm60 he (fun _ => h) (fun z => absurd c60 (by omega)) (fun z => absurd c60 (by omega)) (fun z => absurd c60 (by omega))) (fun Q hQ => ?_)
    unfold wpX6_readsWord
    rw [e14]
    exact ⟨inR_of (by omega), fun z => absurd c60 z, fun _ => hQ⟩
  · have hm : m < 60 := by omega
    have ems : msOp s m (15 + 16 * m) = s := by
      funext i
      unfold msOp
      rw [if_neg (by omega)]
    have emN : (m : Int).toNat = m := rfl
    have h28 : (15 + 16 * (m : Int) + 13).toNat = 16 * m + 28 := by omega
    have opn : ∀ (a : Int) (j' : Int), a = saB (xb j.toNat) → j' = (if a = -1 then j else j + 1) → ∀ Q : Int → Int → (Nat → Int) → Prop, (∃ n0 : Nat, wpX6_readsWord_41 T tx Q n0 j' (updI (blk (updI s 14 ((m : Int) + 1)) (fun _ => 0) (15 + 16 * m) 16) (16 * m + 28) a) (m : Int) 0) → wpX6_readsWord T j s tx Q := by
      intro a j' ea ej Q hQ
      unfold wpX6_readsWord
      rw [e14]
      refine ⟨inR_of (by omega), fun _ => q6_opens e14 hm (Nat.le_refl _) (q6_pass h0 hT (by omega) 1 (Or.inr rfl) (fun _ => ?_) (fun z => absurd z (by omega)) (fun _ => ?_)), fun z => absurd z c60⟩
      · rw [et]; exact inR_of (by omega)
      · rw [if_pos rfl, et, ← ea, ← ej, ems]
        refine ⟨by omega, by omega, ?_⟩
        rw [h28]
        exact hQ
    have sagree : ∀ (a : Int) (i : Nat), 975 ≤ i → updI (blk (updI s 14 ((m : Int) + 1)) (fun _ => 0) (15 + 16 * m) 16) (16 * m + 28) a i = s0 i := fun a i hi => by
      rw [updI_ne (by omega), blk_out (by omega), updI_ne (by omega)]
      exact hs i hi
    by_cases ca : saB (xb j.toNat) = -1
    · have H := Bld.start R hm (a := -1) (by omega)
      by_cases cl : 97 ≤ xb j.toNat ∧ xb j.toNat ≤ 122
      · have H2 := H.letter (by omega) (l := xb j.toNat - 97) (by omega)
        refine WO.go hT h0 hj (rdL hT B (T - (j + 1)).toNat (j + 1) 2 1 _ _ _ _ (by omega) (by omega) (Nat.le_refl _) (Int.le_refl _) H2 (fun i hi => by rw [updI_ne (by omega)]; exact sagree _ i hi) (Or.inr ⟨by omega, rfl⟩)) (fun post h => acc0 b h32 (by omega) hm60 he (fun z => absurd z c60) (fun _ z => absurd ca z) (fun _ _ _ => ?_) (fun _ _ z => absurd cl z)) (fun Q hQ => opn (-1) j ca.symm (by rw [if_pos rfl]) Q ?_)
        · rw [updI_upd, updI_upd, updI_eq rfl] at h
          rw [show ((m : Int) * 12).toNat = 12 * m + 0 by omega]
          have e1 : (((0 : Nat) : Int) + 1) = 1 := rfl
          have e2 : (0 : Int) + lw (xb j.toNat - 97) = lw (xb j.toNat - 97) := Int.zero_add _
          rw [e1, e2] at h
          exact h
        · obtain ⟨n0, hn⟩ := hQ
          refine ⟨n0 + 1, ?_⟩
          rw [wpX6_readsWord_41]
          unfold wpX6_puts
          rw [et]
          refine ⟨inR_of (by omega), inR_of (by omega), fun z => absurd z (by omega), fun _ => ⟨h0, by omega, q6_in (inR_of (by omega)) (inR_lit rfl) (inR_lit rfl) (fun _ => ⟨inR_lit rfl, fun z => absurd z (by decide), fun _ => ⟨inR_lit rfl, fun _ => ⟨h0, by omega, by omega, by omega, ?_⟩, fun z => absurd z (by decide)⟩⟩) (fun z => absurd cl z)⟩⟩
          rw [show (15 + 16 * (m : Int) + 0).toNat = 16 * m + (15 + 0) by omega]
          exact hn
      · refine WO.fail (q' := 2) (n' := (m : Int) + 1) (lt' := lt) (ln' := updI ln m 0) (bd' := updI bd m 0) (ah' := updI ah m (-1)) (bh' := updI bh m (-1)) (en' := updI en m 0) hT h0 hj H.2.2.2.2.2.1 (sagree (-1)) (fun post h => acc0 b h32 (by omega) hm60 he (fun z => absurd z c60) (fun _ z => absurd ca z) (fun _ _ z => absurd z cl) (fun _ _ _ => h)) (fun Q hQ => opn (-1) j ca.symm (by rw [if_pos rfl]) Q ⟨1, ?_⟩)
        rw [wpX6_readsWord_41, et]
        exact ⟨inR_of (by omega), inR_of (by omega), fun z => absurd z (by omega), fun _ => ⟨h0, by omega, q6_in (inR_of (by omega)) (inR_lit rfl) (inR_lit rfl) (fun z => absurd z cl) (fun _ => ⟨inR_lit rfl, fun _ => ⟨inR_lit rfl, fun z => absurd rfl z, fun _ => hQ⟩, fun z => absurd rfl z⟩)⟩⟩
    · have H := Bld.start R hm (a := saB (xb j.toNat)) (saB_bd _)
      exact WO.go hT h0 hj (rdL hT B (T - (j + 1)).toNat (j + 1) 1 0 _ _ _ _ (by omega) (by omega) (Nat.le_refl _) (Int.le_refl _) H (sagree _) (Or.inl ⟨rfl, rfl⟩)) (fun post h => acc0 b h32 (by omega) hm60 he (fun z => absurd z c60) (fun _ _ => h) (fun _ z => absurd z ca) (fun _ z => absurd z ca)) (fun Q hQ => opn _ (j + 1) rfl (by rw [if_neg ca]) Q hQ)
end RA
