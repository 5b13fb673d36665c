/-! Reading one word: the class byte by byte, the reference at once. -/
def WO (T : Int) (xb : Nat → Int) (m : Nat) (st sh s0 : Nat → Int) (lo : Int) (C : RP → Nat → Prop) (M : (Int → Int → (Nat → Int) → Prop) → Prop) : Prop :=
  (∃ (i q : Int) (lt ln bd ah bh en s : Nat → Int), lo ≤ i ∧ i ≤ T ∧ (i < T → xb i.toNat = 32) ∧ q ≠ 1 ∧ inR q ∧ RS ((m : Int) + 1) lt ln bd ah bh en st sh s ∧ (∀ j : Nat, 975 ≤ j → s j = s0 j) ∧
    (∃ fu : Nat, ∀ (post : RP) (r : Nat), wpX4_readInto_12 T xb post r q ((m : Int) + 1) lt ln bd ah bh en i → C post (fu + r)) ∧ ∀ Q : Int → Int → (Nat → Int) → Prop, Q 1 i s → M Q) ∨
  (∃ (f q n : Int) (lt ln bd ah bh en s : Nat → Int), 0 ≤ f ∧ f ≤ T ∧ (∀ i : Nat, i < 60 → en i = 0 ∨ en i = 1) ∧ (∀ j : Nat, 975 ≤ j → s j = s0 j) ∧
    (∃ fu : Nat, ∀ (post : RP) (r : Nat), post f q n lt ln bd ah bh en → C post (fu + r)) ∧ ∀ Q : Int → Int → (Nat → Int) → Prop, Q 0 f s → M Q)
section WOs
variable {T : Int} {xb tx : Nat → Int} {m : Nat} {lt ln bd ah bh en st sh s s0 : Nat → Int} {lo j : Int}
theorem WO.step {C C' : RP → Nat → Prop} {M M' : (Int → Int → (Nat → Int) → Prop) → Prop} (W : WO T xb m st sh s0 lo C M) (hC : ∀ post r, C post r → C' post (r + 1)) (hM : ∀ Q, M Q → M' Q) : WO T xb m st sh s0 lo C' M' := by
  rcases W with ⟨i, q, l1, l2, l3, l4, l5, l6, s', b1, b2, b3, b4, b5, b6, b7, ⟨fu, b8⟩, b9⟩ | ⟨f, q, n, l1, l2, l3, l4, l5, l6, s', b1, b2, b3, b4, ⟨fu, b8⟩, b9⟩
  · exact Or.inl ⟨i, q, l1, l2, l3, l4, l5, l6, s', b1, b2, b3, b4, b5, b6, b7, ⟨fu + 1, fun post r h => by rw [show fu + 1 + r = fu + r + 1 by omega]; exact hC _ _ (b8 post r h)⟩, fun Q h => hM Q (b9 Q h)⟩
  · exact Or.inr ⟨f, q, n, l1, l2, l3, l4, l5, l6, s', b1, b2, b3, b4, ⟨fu + 1, fun post r h => by rw [show fu + 1 + r = fu + r + 1 by omega]; exact hC _ _ (b8 post r h)⟩, fun Q h => hM Q (b9 Q h)⟩
theorem ri_step {q n : Int} {post : RP} {r : Nat} (hT : T ≤ 200) (h0 : 0 ≤ j) (hj : j < T) (h : wpX4_accepts q n lt ln bd ah bh en (xb j.toNat) (fun z q n lt ln bd ah bh en => inR z ∧ (¬ z = 0 → wpX4_readInto_12 T xb post r q n lt ln bd ah bh en (j + 1)) ∧ (z = 0 → post j q n lt ln bd ah bh en))) : wpX4_readInto_12 T xb post (r + 1) q n lt ln bd ah bh en j := by
  rw [wpX4_readInto_12]
  exact ⟨inR_of (by omega), inR_of (by omega), fun z => absurd hj (by omega), fun _ => ⟨inR_of (by omega), fun z => absurd z (by omega), fun _ => ⟨h0, by omega, h⟩⟩⟩
theorem WO.go {q q' n n' : Int} {lt' ln' bd' ah' bh' en' : Nat → Int} {M M' : (Int → Int → (Nat → Int) → Prop) → Prop} (hT : T ≤ 200) (h0 : 0 ≤ j) (hj : j < T) (W : WO T xb m st sh s0 lo (fun post r => wpX4_readInto_12 T xb post r q' n' lt' ln' bd' ah' bh' en' (j + 1)) M)
    (hacc : ∀ post : RP, post 1 q' n' lt' ln' bd' ah' bh' en' → wpX4_accepts q n lt ln bd ah bh en (xb j.toNat) post) (hM : ∀ Q, M Q → M' Q) : WO T xb m st sh s0 lo (fun post r => wpX4_readInto_12 T xb post r q n lt ln bd ah bh en j) M' :=
  W.step (fun post r h => ri_step hT h0 hj (hacc _ ⟨inR_lit rfl, fun _ => h, fun z => absurd z (by decide)⟩)) hM
theorem WO.fail {q q' n n' : Int} {lt' ln' bd' ah' bh' en' : Nat → Int} {M : (Int → Int → (Nat → Int) → Prop) → Prop} (hT : T ≤ 200) (h0 : 0 ≤ j) (hj : j < T) (he : ∀ i : Nat, i < 60 → en' i = 0 ∨ en' i = 1) (hs : ∀ j : Nat, 975 ≤ j → s j = s0 j)
    (hacc : ∀ post : RP, post 0 q' n' lt' ln' bd' ah' bh' en' → wpX4_accepts q n lt ln bd ah bh en (xb j.toNat) post) (hM : ∀ Q : Int → Int → (Nat → Int) → Prop, Q 0 j s → M Q) : WO T xb m st sh s0 lo (fun post r => wpX4_readInto_12 T xb post r q n lt ln bd ah bh en j) M :=
  Or.inr ⟨j, q', n', lt', ln', bd', ah', bh', en', s, h0, by omega, he, hs, ⟨1, fun post r h => by rw [Nat.add_comm]; exact ri_step hT h0 hj (hacc _ ⟨inR_lit rfl, fun z => absurd rfl z, fun _ => h⟩)⟩, hM⟩
theorem q6_182 {Q : Int → Int → (Nat → Int) → Prop} (hT : T ≤ 200) (h0 : 0 ≤ j) (hj : j ≤ T) (B : ∀ i : Nat, (i : Int) < T → tx i = xb i ∧ 0 ≤ xb i ∧ xb i ≤ 127) (h1 : (j < T → xb j.toNat = 32) → Q 1 j s) (h2 : j < T → xb j.toNat ≠ 32 → Q 0 j s) : wpX6_readsWord_182 T tx Q j s := by
  refine ⟨inR_of (by omega), inR_of (by omega), fun c => h1 (fun z => by omega), fun c => ⟨h0, by omega, ?_, fun c2 => ?_, fun c2 => ?_⟩⟩
  · rw [(B j.toNat (by omega)).1]
    have := (B j.toNat (by omega)).2
    exact inR_of (by omega)
  · rw [(B j.toNat (by omega)).1] at c2
    exact h2 (by omega) c2
  · rw [(B j.toNat (by omega)).1] at c2
    exact h1 (fun _ => c2)
theorem rdS {q : Int} (hq : q ≠ 1) (hq2 : inR q) (R : RS ((m : Int) + 1) lt ln bd ah bh en st sh s) (hs : ∀ j : Nat, 975 ≤ j → s j = s0 j) (hlo : lo ≤ j) (hj : j ≤ T) (hend : j < T → xb j.toNat = 32) {M : (Int → Int → (Nat → Int) → Prop) → Prop} (hM : ∀ Q : Int → Int → (Nat → Int) → Prop, Q 1 j s → M Q) :
    WO T xb m st sh s0 lo (fun post r => wpX4_readInto_12 T xb post r q ((m : Int) + 1) lt ln bd ah bh en j) M :=
  Or.inl ⟨j, q, lt, ln, bd, ah, bh, en, s, hlo, hj, hend, hq, hq2, R, hs, ⟨0, fun post r h => by rw [Nat.zero_add]; exact h⟩, hM⟩
theorem rd4 (hT : T ≤ 200) (h0 : 0 ≤ j) (hj : j ≤ T) (hlo : lo ≤ j) (B : ∀ i : Nat, (i : Int) < T → tx i = xb i ∧ 0 ≤ xb i ∧ xb i ≤ 127) (R : RS ((m : Int) + 1) lt ln bd ah bh en st sh s) (hs : ∀ j : Nat, 975 ≤ j → s j = s0 j) :
    WO T xb m st sh s0 lo (fun post r => wpX4_readInto_12 T xb post r 4 ((m : Int) + 1) lt ln bd ah bh en j) (fun Q => wpX6_readsWord_182 T tx Q j s) := by
  by_cases c : j < T → xb j.toNat = 32
  · exact rdS (by decide) (inR_lit rfl) R hs hlo hj c (fun Q hQ => q6_182 hT h0 hj B (fun _ => hQ) (fun z1 z2 => absurd (c z1) z2))
  · have c1 : j < T := Classical.byContradiction (fun z => c (fun z2 => absurd z2 z))
    have c2 : xb j.toNat ≠ 32 := fun z => c (fun _ => z)
    have b := (B j.toNat (by omega)).2
    exact WO.fail hT h0 c1 R.2.2.2.2.2.2.1 hs (fun post h => acc4 (inR_of (by omega)) c2 h) (fun Q hQ => q6_182 hT h0 hj B (fun z => absurd (z c1) c2) (fun _ _ => hQ))
/-- what the reference does after the sign behind -/
def M3 (T : Int) (tx : Nat → Int) (m : Nat) (Q : Int → Int → (Nat → Int) → Prop) (j : Int) (s : Nat → Int) : Prop :=
  inR j ∧ inR T ∧ (T ≤ j → wpX6_readsWord_182 T tx Q j s) ∧ (¬ T ≤ j → 0 ≤ j ∧ j < 200 ∧ inR (tx j.toNat) ∧ (¬ tx j.toNat = 47 → wpX6_readsWord_182 T tx Q j s) ∧ (tx j.toNat = 47 → wpX6_puts s (m : Int) 15 1 (fun s' => wpX6_readsWord_182 T tx Q (j + 1) s')))
theorem q6_M3 {Q : Int → Int → (Nat → Int) → Prop} (hT : T ≤ 200) (h0 : 0 ≤ j) (hj : j ≤ T) (hm : m < 60) (B : ∀ i : Nat, (i : Int) < T → tx i = xb i ∧ 0 ≤ xb i ∧ xb i ≤ 127) (h1 : (j < T → xb j.toNat ≠ 47) → wpX6_readsWord_182 T tx Q j s) (h2 : j < T → xb j.toNat = 47 → wpX6_readsWord_182 T tx Q (j + 1) (updI s (16 * m + 30) 1)) : M3 T tx m Q j s := by
  refine ⟨inR_of (by omega), inR_of (by omega), fun c => h1 (fun z => absurd c (by omega)), fun c => ⟨h0, by omega, ?_, fun c2 => ?_, fun c2 => ?_⟩⟩
  · rw [(B j.toNat (by omega)).1]
    have := (B j.toNat (by omega)).2
    exact inR_of (by omega)
  · rw [(B j.toNat (by omega)).1] at c2
    exact h1 (fun _ => c2)
  · rw [(B j.toNat (by omega)).1] at c2
    refine ⟨by omega, by omega, ?_⟩
    rw [show (15 + 16 * (m : Int) + 15).toNat = 16 * m + 30 by omega]
    exact h2 (by omega) c2
theorem rd3 (hT : T ≤ 200) (h0 : 0 ≤ j) (hj : j ≤ T) (hlo : lo ≤ j) (hm : m < 60) (B : ∀ i : Nat, (i : Int) < T → tx i = xb i ∧ 0 ≤ xb i ∧ xb i ≤ 127) (R : RS ((m : Int) + 1) lt ln bd ah bh en st sh s) (R4 : RS ((m : Int) + 1) lt ln bd ah bh (updI en m 1) st sh (updI s (16 * m + 30) 1)) (hs : ∀ j : Nat, 975 ≤ j → s j = s0 j) :
    WO T xb m st sh s0 lo (fun post r => wpX4_readInto_12 T xb post r 3 ((m : Int) + 1) lt ln bd ah bh en j) (fun Q => M3 T tx m Q j s) := by
  by_cases c : j < T → xb j.toNat = 32
  · exact rdS (by decide) (inR_lit rfl) R hs hlo hj c (fun Q hQ => q6_M3 hT h0 hj hm B (fun _ => q6_182 hT h0 hj B (fun _ => hQ) (fun z1 z2 => absurd (c z1) z2)) (fun z1 z2 => absurd (c z1) (by omega)))
  · have c1 : j < T := Classical.byContradiction (fun z => c (fun z2 => absurd z2 z))
    have c2 : xb j.toNat ≠ 32 := fun z => c (fun _ => z)
    have b := (B j.toNat (by omega)).2
    by_cases c3 : xb j.toNat = 47
    · refine WO.go hT h0 c1 (rd4 hT (by omega) (by omega) (by omega) B R4 (fun i hi => by rw [updI_ne (by omega)]; exact hs i hi)) (fun post h => acc3 (inR_of (by omega)) c2 (by omega) (by omega) ?_) (fun Q hQ => q6_M3 hT h0 hj hm B (fun z => absurd c3 (z c1)) (fun _ _ => hQ))
      rw [if_pos c3, show ((m : Int) + 1 - 1).toNat = m by omega]
      exact h
    · refine WO.fail (q' := 3) (n' := (m : Int) + 1) (lt' := lt) (ln' := ln) (bd' := bd) (ah' := ah) (bh' := bh) hT h0 c1 R.2.2.2.2.2.2.1 hs (fun post h => acc3 (inR_of (by omega)) c2 (by omega) (by omega) ?_) (fun Q hQ => q6_M3 hT h0 hj hm B (fun z => q6_182 hT h0 hj B (fun z => absurd (z c1) c2) (fun _ _ => hQ)) (fun _ z => absurd z c3))
      rw [if_neg c3]
      exact h
/-- the state of the reference when the letters and the sign behind are written down -/
def dn (s : Nat → Int) (m k : Nat) (b : Int) : Nat → Int := updI (updI s (16 * m + 27) (k : Int)) (16 * m + 29) b
theorem dn_R {a : Int} {k : Nat} (H : Bld m lt ln bd ah bh en st sh s a k) (hk : 1 ≤ k) {b : Int} (hb : -1 ≤ b ∧ b ≤ 7) : RS ((m : Int) + 1) lt ln bd ah (updI bh m b) en st sh (dn s m k b) ∧ RS ((m : Int) + 1) lt ln bd ah (updI bh m b) (updI en m 1) st sh (updI (dn s m k b) (16 * m + 30) 1) := by
  have h14 := H.2.2.2.2.2.2.2.2.2.2.2.2.2.1
  have h16 := H.2.2.2.2.2.2.2.2.2.2.2.2.2.2.2.1
  constructor
  · refine H.done hk hb (Or.inl rfl) (updI_eq rfl) (fun w hw => updI_ne (by omega)) h14 (fun w hw => rfl) ?_ ?_ ?_ (fun j h1 h2 h3 => ?_)
    · unfold dn; rw [updI_ne (by omega), updI_eq rfl]
    · unfold dn; rw [updI_eq rfl]
    · unfold dn; rw [updI_ne (by omega), updI_ne (by omega)]; exact h16
    · unfold dn; rw [updI_ne h2, updI_ne h1]
  · refine H.done hk hb (Or.inr rfl) (updI_eq rfl) (fun w hw => updI_ne (by omega)) (updI_eq rfl) (fun w hw => updI_ne hw) ?_ ?_ ?_ (fun j h1 h2 h3 => ?_)
    · unfold dn; rw [updI_ne (by omega), updI_ne (by omega), updI_eq rfl]
    · unfold dn; rw [updI_ne (by omega), updI_eq rfl]
    · rw [updI_eq rfl]
    · unfold dn; rw [updI_ne h3, updI_ne h2, updI_ne h1]
theorem q6_113 {k : Nat} {Q : Int → Int → (Nat → Int) → Prop} (hT : T ≤ 200) (h0 : 0 ≤ j) (hj : j ≤ T) (hm : m < 60) (B : ∀ i : Nat, (i : Int) < T → tx i = xb i ∧ 0 ≤ xb i ∧ xb i ≤ 127) (hk : 1 ≤ k) (hk2 : k ≤ 12) (h1 : (j < T → sbB (xb j.toNat) = -1) → M3 T tx m Q j (dn s m k (-1))) (h2 : j < T → sbB (xb j.toNat) ≠ -1 → M3 T tx m Q (j + 1) (dn s m k (sbB (xb j.toNat)))) : wpX6_readsWord_113 T tx Q j s (m : Int) (k : Int) := by
  refine ⟨inR_of (by omega), fun _ => ⟨by omega, by omega, ?_⟩, fun z => absurd z (by omega)⟩
  rw [show (15 + 16 * (m : Int) + 12).toNat = 16 * m + 27 by omega]
  refine q6_pass h0 hT hj 0 (Or.inl rfl) (fun z => ?_) (fun z => ⟨by omega, by omega, ?_⟩) (fun z => ?_)
  · rw [(B j.toNat (by omega)).1]
    have := (B j.toNat (by omega)).2
    exact inR_of (by omega)
  · rw [show (15 + 16 * (m : Int) + 14).toNat = 16 * m + 29 by omega]
    exact h1 (fun z2 => absurd z2 (by omega))
  · rw [if_neg (by decide), (B j.toNat (by omega)).1]
    refine ⟨by omega, by omega, ?_⟩
    rw [show (15 + 16 * (m : Int) + 14).toNat = 16 * m + 29 by omega]
    by_cases c : sbB (xb j.toNat) = -1
    · rw [if_pos c, c]
      exact h1 (fun _ => c)
    · rw [if_neg c]
      exact h2 z c
theorem sbB_not {b : Int} (h : b = 32 ∨ b = 47 ∨ 97 ≤ b) : sbB b = -1 := by
  unfold sbB
  repeat' (split)
  all_goals omega
/-- after the letters, at no letter (or after twelve) -/
theorem rd2 {a : Int} {k : Nat} (hT : T ≤ 200) (h0 : 0 ≤ j) (hj : j ≤ T) (hlo : lo ≤ j) (B : ∀ i : Nat, (i : Int) < T → tx i = xb i ∧ 0 ≤ xb i ∧ xb i ≤ 127) (H : Bld m lt ln bd ah bh en st sh s a k) (hk : 1 ≤ k) (hs : ∀ j : Nat, 975 ≤ j → s j = s0 j) (hno : j < T → ¬ (97 ≤ xb j.toNat ∧ xb j.toNat ≤ 122)) :
    WO T xb m st sh s0 lo (fun post r => wpX4_readInto_12 T xb post r 2 ((m : Int) + 1) lt ln bd ah bh en j) (fun Q => wpX6_readsWord_113 T tx Q j s (m : Int) (k : Int)) := by
  have hm := H.1
  have hk2 := H.2.2.2.2.2.2.2.2.1
  have hln := H.2.2.2.2.2.2.2.1
  have hbh := H.2.2.2.2.2.2.2.2.2.2.2.2.1
  have hd : ∀ b : Int, ∀ i : Nat, 975 ≤ i → dn s m k b i = s0 i := fun b i hi => by
    unfold dn
    rw [updI_ne (by omega), updI_ne (by omega)]
    exact hs i hi
  have eB : updI bh m (-1) = bh := by rw [← hbh, updI_self]
  have R1 := (dn_R H hk (b := -1) (by omega)).1
  have R2 := (dn_R H hk (b := -1) (by omega)).2
  rw [eB] at R1 R2
  have em : ((m : Int) + 1 - 1).toNat = m := by omega
  by_cases c : j < T → xb j.toNat = 32
  · exact rdS (by decide) (inR_lit rfl) R1 (hd _) hlo hj c (fun Q hQ => q6_113 hT h0 hj hm B hk hk2 (fun _ => q6_M3 hT h0 hj hm B (fun _ => q6_182 hT h0 hj B (fun _ => hQ) (fun z1 z2 => absurd (c z1) z2)) (fun z1 z2 => absurd (c z1) (by omega))) (fun z1 z2 => absurd (sbB_not (Or.inl (c z1))) z2))
  · have c1 : j < T := Classical.byContradiction (fun z => c (fun z2 => absurd z2 z))
    have c2 : xb j.toNat ≠ 32 := fun z => c (fun _ => z)
    have b := (B j.toNat (by omega)).2
    have hno := hno c1
    by_cases c3 : sbB (xb j.toNat) = -1
    · by_cases c4 : xb j.toNat = 47
      · refine WO.go hT h0 c1 (rd4 hT (by omega) (by omega) (by omega) B R2 (fun i hi => by rw [updI_ne (by omega)]; exact hd _ i hi)) (fun post h => acc2 b c2 (by omega) (by omega) ?_ ?_ ?_ ?_ ?_) (fun Q hQ => q6_113 hT h0 hj hm B hk hk2 (fun _ => q6_M3 hT h0 hj hm B (fun z => absurd c4 (z c1)) (fun _ _ => hQ)) (fun _ z => absurd c3 z))
        · rw [em, hln]; omega
        · exact fun z => absurd z hno
        · exact fun z => absurd c3 z
        · rw [em]; exact fun _ => h
        · exact fun _ _ z => absurd c4 z
      · refine WO.fail (q' := 2) (n' := (m : Int) + 1) (lt' := lt) (ln' := ln) (bd' := bd) (ah' := ah) (bh' := bh) hT h0 c1 H.2.2.2.2.2.1 (hd (-1)) (fun post h => acc2 b c2 (by omega) (by omega) ?_ ?_ ?_ ?_ ?_) (fun Q hQ => q6_113 hT h0 hj hm B hk hk2 (fun _ => q6_M3 hT h0 hj hm B (fun _ => q6_182 hT h0 hj B (fun z => absurd (z c1) c2) (fun _ _ => hQ)) (fun _ z => absurd z c4)) (fun _ z => absurd c3 z))
        · rw [em, hln]; omega
        · exact fun z => absurd z hno
        · exact fun z => absurd c3 z
        · exact fun z => absurd z c4
        · exact fun _ _ _ => h
    · have R3 := dn_R H hk (b := sbB (xb j.toNat)) (sbB_bd _)
      refine WO.go hT h0 c1 (rd3 hT (by omega) (by omega) (by omega) hm B R3.1 R3.2 (hd _)) (fun post h => acc2 b c2 (by omega) (by omega) ?_ ?_ ?_ ?_ ?_) (fun Q hQ => q6_113 hT h0 hj hm B hk hk2 (fun z => absurd (z c1) c3) (fun _ _ => hQ))
      · rw [em, hln]; omega
      · exact fun z => absurd z hno
      · rw [em]; exact fun _ => h
      · exact fun z => absurd (sbB_not (Or.inr (Or.inl z))) c3
      · exact fun _ z => absurd z c3
end WOs
