/-! Reading words: one byte for the class, one word for the reference. -/
abbrev RP : Type := Int → Int → Int → (Nat → Int) → (Nat → Int) → (Nat → Int) → (Nat → Int) → (Nat → Int) → (Nat → Int) → Prop
theorem updI_self {f : Nat → Int} {k : Nat} : updI f k (f k) = f := by
  funext j
  unfold updI
  split
  · rename_i h; rw [h]
  · rfl
theorem cpyI_zero {f g : Nat → Int} {a b : Nat} : cpyI f g a b 0 = g := by
  funext j
  unfold cpyI
  rw [if_neg (by omega)]
section Acc
variable {n : Int} {lt ln bd ah bh en : Nat → Int} {b : Int} {post : Int → Int → Int → (Nat → Int) → (Nat → Int) → (Nat → Int) → (Nat → Int) → (Nat → Int) → (Nat → Int) → Prop}
theorem acc_sp {q : Int} (hq : inR q) (hq1 : q ≠ 1) (h : post 1 0 n lt ln bd ah bh en) : wpX4_accepts q n lt ln bd ah bh en 32 post :=
  ⟨inR_lit rfl, fun z => absurd rfl z, fun _ => ⟨hq, fun z => absurd z hq1, fun _ => h⟩⟩
theorem acc_sp1 (h : post 0 0 n lt ln bd ah bh en) : wpX4_accepts 1 n lt ln bd ah bh en 32 post :=
  ⟨inR_lit rfl, fun z => absurd rfl z, fun _ => ⟨inR_lit rfl, fun _ => h, fun z => absurd rfl z⟩⟩
theorem acc4 (hb : inR b) (hb2 : b ≠ 32) (h : post 0 4 n lt ln bd ah bh en) : wpX4_accepts 4 n lt ln bd ah bh en b post :=
  ⟨hb, fun _ => ⟨inR_lit rfl, fun z => absurd z (by decide), fun z => absurd z (by decide), fun z => absurd z (by decide), fun z => absurd z (by decide), fun _ => h⟩, fun z => absurd z hb2⟩
theorem acc3 (hb : inR b) (hb2 : b ≠ 32) (hn : 1 ≤ n) (hn2 : n ≤ 60) (h : if b = 47 then post 1 4 n lt ln bd ah bh (updI en (n - 1).toNat 1) else post 0 3 n lt ln bd ah bh en) : wpX4_accepts 3 n lt ln bd ah bh en b post := by
  refine ⟨hb, fun _ => ⟨inR_lit rfl, fun z => absurd z (by decide), fun z => absurd z (by decide), fun z => absurd z (by decide), fun _ => ⟨hb, fun c => ?_, fun c => ?_⟩, fun z => absurd z (by decide)⟩, fun z => absurd z hb2⟩
  · rw [if_pos c] at h
    exact q3_putEnd (by omega) (by omega) hn2 (Or.inr rfl) ⟨Or.inr rfl, h⟩
  · rw [if_neg c] at h
    exact ⟨Or.inl rfl, h⟩
theorem acc2 (hb : 0 ≤ b ∧ b ≤ 127) (hb2 : b ≠ 32) (hn : 1 ≤ n) (hn2 : n ≤ 60) (hl : 0 ≤ ln (n - 1).toNat ∧ ln (n - 1).toNat ≤ 12)
    (h1 : 97 ≤ b ∧ b ≤ 122 → ln (n - 1).toNat < 12 → post 1 2 n (updI lt ((n - 1) * 12 + ln (n - 1).toNat).toNat (b - 97)) (updI ln (n - 1).toNat (ln (n - 1).toNat + 1)) (updI bd (n - 1).toNat (bd (n - 1).toNat + lw (b - 97))) ah bh en)
    (h2 : sbB b ≠ -1 → post 1 3 n lt ln bd ah (updI bh (n - 1).toNat (sbB b)) en)
    (h3 : b = 47 → post 1 4 n lt ln bd ah bh (updI en (n - 1).toNat 1))
    (h4 : (97 ≤ b ∧ b ≤ 122 → 12 ≤ ln (n - 1).toNat) → sbB b = -1 → b ≠ 47 → post 0 2 n lt ln bd ah bh en) : wpX4_accepts 2 n lt ln bd ah bh en b post := by
  refine ⟨inR_of (by omega), fun _ => ⟨inR_lit rfl, fun z => absurd z (by decide), fun z => absurd z (by decide), fun _ => q3_addLetter (by omega) (by omega) hn2 hl (inR_of (by omega)) ?_, fun z => absurd z (by decide), fun z => absurd z (by decide)⟩, fun z => absurd z hb2⟩
  by_cases c : 0 ≤ b - 97 ∧ b - 97 < 26 ∧ ln (n - 1).toNat < 12
  · rw [if_pos c]
    exact ⟨inR_lit rfl, fun _ => h1 (by omega) c.2.2, fun z => absurd z (by decide)⟩
  · rw [if_neg c]
    refine ⟨inR_lit rfl, fun z => absurd rfl z, fun _ => q4_behind hn hn2 (inR_of (by omega)) ?_⟩
    by_cases c2 : sbB b = -1
    · rw [if_pos c2]
      refine ⟨inR_lit rfl, fun z => absurd rfl z, fun _ => ⟨inR_of (by omega), fun c3 => ?_, fun c3 => ?_⟩⟩
      · exact q3_putEnd (by omega) (by omega) hn2 (Or.inr rfl) ⟨inR_lit rfl, fun z => absurd z (by decide), fun _ => h3 c3⟩
      · exact ⟨inR_lit rfl, fun _ => h4 (fun z => by omega) c2 c3, fun z => absurd rfl z⟩
    · rw [if_neg c2, updI_self]
      exact ⟨inR_lit rfl, fun _ => h2 c2, fun z => absurd z (by decide)⟩
theorem acc1 (hb : 0 ≤ b ∧ b ≤ 127) (hb2 : b ≠ 32) (hn : 1 ≤ n) (hn2 : n ≤ 60) (hl : ln (n - 1).toNat = 0)
    (h1 : 97 ≤ b ∧ b ≤ 122 → post 1 2 n (updI lt ((n - 1) * 12 + ln (n - 1).toNat).toNat (b - 97)) (updI ln (n - 1).toNat (ln (n - 1).toNat + 1)) (updI bd (n - 1).toNat (bd (n - 1).toNat + lw (b - 97))) ah bh en)
    (h4 : ¬ (97 ≤ b ∧ b ≤ 122) → post 0 2 n lt ln bd ah bh en) : wpX4_accepts 1 n lt ln bd ah bh en b post := by
  refine ⟨inR_of (by omega), fun _ => ⟨inR_lit rfl, fun z => absurd z (by decide), fun _ => q3_addLetter (by omega) (by omega) hn2 (by omega) (inR_of (by omega)) ?_, fun z => absurd z (by decide), fun z => absurd z (by decide), fun z => absurd z (by decide)⟩, fun z => absurd z hb2⟩
  by_cases c : 0 ≤ b - 97 ∧ b - 97 < 26 ∧ ln (n - 1).toNat < 12
  · rw [if_pos c]
    exact ⟨Or.inr rfl, h1 (by omega)⟩
  · rw [if_neg c]
    exact ⟨Or.inl rfl, h4 (by omega)⟩
theorem acc0 (hb : 0 ≤ b ∧ b ≤ 127) (hb2 : b ≠ 32) (hn : 0 ≤ n) (hn2 : n ≤ 60) (he : ∀ i : Nat, i < 60 → en i = 0 ∨ en i = 1)
    (h0 : n = 60 → post 0 0 n lt ln bd ah bh en)
    (h1 : n < 60 → saB b ≠ -1 → post 1 1 (n + 1) lt (updI ln n.toNat 0) (updI bd n.toNat 0) (updI ah n.toNat (saB b)) (updI bh n.toNat (-1)) (updI en n.toNat 0))
    (h2 : n < 60 → saB b = -1 → 97 ≤ b ∧ b ≤ 122 → post 1 2 (n + 1) (updI lt (n * 12).toNat (b - 97)) (updI ln n.toNat 1) (updI bd n.toNat (lw (b - 97))) (updI ah n.toNat (-1)) (updI bh n.toNat (-1)) (updI en n.toNat 0))
    (h4 : n < 60 → saB b = -1 → ¬ (97 ≤ b ∧ b ≤ 122) → post 0 2 (n + 1) lt (updI ln n.toNat 0) (updI bd n.toNat 0) (updI ah n.toNat (-1)) (updI bh n.toNat (-1)) (updI en n.toNat 0)) : wpX4_accepts 0 n lt ln bd ah bh en b post := by
  refine ⟨inR_of (by omega), fun _ => ⟨inR_lit rfl, fun _ => ⟨inR_of (by omega), fun c => ?_, fun c => ?_⟩, fun z => absurd z (by decide), fun z => absurd z (by decide), fun z => absurd z (by decide), fun z => absurd z (by decide)⟩, fun z => absurd z hb2⟩
  · refine q3_open hn (Int.le_refl _) c he ?_
    rw [show n - n = 0 by omega, show ((0 : Int) * 12).toNat = 0 from rfl, show (0 : Int).toNat = 0 from rfl, cpyI_zero, cpyI_zero, cpyI_zero, cpyI_zero, cpyI_zero, cpyI_zero]
    refine q4_ahead hn (by omega) (by omega) (inR_of (by omega)) (fun z => ?_) (fun z => q3_addLetter hn (by omega) (by omega) (by rw [updI_eq rfl]; omega) (inR_of (by omega)) ?_)
    · rw [updI_upd, updI_upd]
      exact ⟨Or.inr rfl, h1 c z⟩
    · rw [updI_eq rfl, updI_eq rfl, updI_upd, updI_upd, Int.add_zero, Int.zero_add, Int.zero_add]
      by_cases c2 : 0 ≤ b - 97 ∧ b - 97 < 26 ∧ (0 : Int) < 12
      · rw [if_pos c2]
        exact ⟨Or.inr rfl, Or.inr rfl, h2 c z (by omega)⟩
      · rw [if_neg c2]
        exact ⟨Or.inl rfl, Or.inl rfl, h4 c z (by omega)⟩
  · exact ⟨Or.inl rfl, h0 (by omega)⟩
end Acc
section Bld
variable {lt ln bd ah bh en st sh s : Nat → Int} {m k : Nat} {a : Int}
def Bld (m : Nat) (lt ln bd ah bh en st sh s : Nat → Int) (a : Int) (k : Nat) : Prop :=
  m < 60 ∧ s 14 = (m : Int) + 1 ∧ (∀ i : Nat, i < 6 → s i = st i) ∧ (∀ i : Nat, i < 8 → s (6 + i) = sh i ∧ 0 ≤ sh i ∧ sh i ≤ 100) ∧ OKt st ∧ (∀ i : Nat, i < 60 → en i = 0 ∨ en i = 1) ∧ (∀ w : Nat, w < m → WR lt ln bd ah bh en s w) ∧
  ln m = (k : Int) ∧ k ≤ 12 ∧ ah m = a ∧ -1 ≤ a ∧ a ≤ 1 ∧ bh m = -1 ∧ en m = 0 ∧ s (16 * m + 28) = a ∧ s (16 * m + 30) = 0 ∧ (∀ i : Nat, i < k → s (16 * m + (15 + i)) = lt (12 * m + i) ∧ 0 ≤ lt (12 * m + i) ∧ lt (12 * m + i) < 26) ∧ bd m = sm (fun i => lw (lt (12 * m + i))) k
theorem Bld.start (R : RS (m : Int) lt ln bd ah bh en st sh s) (hm : m < 60) (ha : -1 ≤ a ∧ a ≤ 1) : Bld m lt (updI ln m 0) (updI bd m 0) (updI ah m a) (updI bh m (-1)) (updI en m 0) st sh (updI (blk (updI s 14 ((m : Int) + 1)) (fun _ => 0) (15 + 16 * m) 16) (16 * m + 28) a) a 0 := by
  obtain ⟨a1, a2, a3, a4, a5, a6, a7, a8⟩ := R
  have o : ∀ j : Nat, j < 15 + 16 * m → j ≠ 14 → updI (blk (updI s 14 ((m : Int) + 1)) (fun _ => 0) (15 + 16 * m) 16) (16 * m + 28) a j = s j := fun j h1 h2 => by
    rw [updI_ne (by omega), blk_out (by omega), updI_ne h2]
  refine ⟨hm, ?_, fun i hi => (o i (by omega) (by omega)).trans (a4 i hi), fun i hi => ⟨(o _ (by omega) (by omega)).trans (a5 i hi).1, (a5 i hi).2⟩, a6, fun i hi => ?_, fun w hw => ?_, updI_eq rfl, by omega, updI_eq rfl, ha.1, ha.2, updI_eq rfl, updI_eq rfl, updI_eq rfl, ?_, fun i hi => absurd hi (by omega), ?_⟩
  · rw [updI_ne (by omega), blk_out (by omega), updI_eq rfl]
  · by_cases c : i = m
    · rw [updI_eq c]; exact Or.inl rfl
    · rw [updI_ne c]; exact a7 i hi
  · exact WR.cong (w := w) (a8 w (by omega)) (updI_ne (by omega)) (updI_ne (by omega)) (updI_ne (by omega)) (updI_ne (by omega)) (updI_ne (by omega)) (fun k hk => rfl) (fun i hi => o _ (by omega) (by omega))
  · rw [updI_ne (by omega), show 16 * m + 30 = 15 + 16 * m + 15 by omega, blk_in (by omega)]
  · rw [updI_eq rfl]; rfl
theorem Bld.letter (H : Bld m lt ln bd ah bh en st sh s a k) (hk : k < 12) {l : Int} (hl : 0 ≤ l ∧ l < 26) : Bld m (updI lt (12 * m + k) l) (updI ln m ((k : Int) + 1)) (updI bd m (bd m + lw l)) ah bh en st sh (updI s (16 * m + (15 + k)) l) a (k + 1) := by
  obtain ⟨a1, a2, a3, a4, a5, a6, a7, a8, a9, a10, a11, a12, a13, a14, a15, a16, a17, a18⟩ := H
  have o : ∀ j : Nat, j ≠ 16 * m + (15 + k) → updI s (16 * m + (15 + k)) l j = s j := fun j h => updI_ne h
  refine ⟨a1, (o _ (by omega)).trans a2, fun i hi => (o i (by omega)).trans (a3 i hi), fun i hi => ⟨(o _ (by omega)).trans (a4 i hi).1, (a4 i hi).2⟩, a5, a6, fun w hw => ?_, ?_, by omega, a10, a11, a12, a13, a14, (o _ (by omega)).trans a15, (o _ (by omega)).trans a16, fun i hi => ?_, ?_⟩
  · exact WR.cong (w := w) (a7 w hw) (updI_ne (by omega)) (updI_ne (by omega)) rfl rfl rfl (fun k hk => updI_ne (by omega)) (fun i hi => o _ (by omega))
  · rw [updI_eq rfl]; omega
  · by_cases c : i = k
    · subst c
      rw [updI_eq rfl, updI_eq rfl]
      exact ⟨rfl, hl⟩
    · rw [updI_ne (by omega), updI_ne (by omega)]
      exact a17 i (by omega)
  · rw [updI_eq rfl, sm_succ, updI_eq rfl, a18]
    rw [sm_cong (f := fun i => lw (lt (12 * m + i))) (g := fun i => lw (updI lt (12 * m + k) l (12 * m + i))) (fun i hi => by show lw (lt (12 * m + i)) = lw (updI lt (12 * m + k) l (12 * m + i)); rw [updI_ne (by omega)])]
theorem Bld.done (H : Bld m lt ln bd ah bh en st sh s a k) (hk : 1 ≤ k) {b e : Int} {bh' en' s' : Nat → Int} (hb : -1 ≤ b ∧ b ≤ 7) (he : e = 0 ∨ e = 1) (eb : bh' m = b) (ob : ∀ w : Nat, w < m → bh' w = bh w) (ee : en' m = e) (oe : ∀ w : Nat, w ≠ m → en' w = en w)
    (s1 : s' (16 * m + 27) = (k : Int)) (s2 : s' (16 * m + 29) = b) (s3 : s' (16 * m + 30) = e) (os : ∀ j : Nat, j ≠ 16 * m + 27 → j ≠ 16 * m + 29 → j ≠ 16 * m + 30 → s' j = s j) : RS ((m : Int) + 1) lt ln bd ah bh' en' st sh s' := by
  obtain ⟨a1, a2, a3, a4, a5, a6, a7, a8, a9, a10, a11, a12, a13, a14, a15, a16, a17, a18⟩ := H
  refine ⟨(os _ (by omega) (by omega) (by omega)).trans a2, by omega, by omega, fun i hi => (os i (by omega) (by omega) (by omega)).trans (a3 i hi), fun i hi => ⟨(os _ (by omega) (by omega) (by omega)).trans (a4 i hi).1, (a4 i hi).2⟩, a5, fun i hi => ?_, fun w hw => ?_⟩
  · by_cases c : i = m
    · rw [c, ee]; exact he
    · rw [oe i c]; exact a6 i hi
  · by_cases c : w = m
    · subst c
      refine ⟨by omega, by omega, s1.trans a8.symm, ((os _ (by omega) (by omega) (by omega)).trans a15).trans a10.symm, s2.trans eb.symm, s3.trans ee.symm, by omega, by omega, by omega, by omega, fun i hi => ?_, ?_⟩
      · rw [os _ (by omega) (by omega) (by omega)]
        exact a17 i (by omega)
      · rw [a18, a8, Int.toNat_natCast]
    · exact WR.cong (w := w) (a7 w (by omega)) rfl rfl rfl (ob w (by omega)) (oe w c) (fun k hk => rfl) (fun i hi => os _ (by omega) (by omega) (by omega))
end Bld
