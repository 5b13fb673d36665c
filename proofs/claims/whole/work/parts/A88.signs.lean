/-! Reading words: signs of a byte. -/
def saB (b : Int) : Int := if b = 34 then 0 else if b = 40 then 1 else -1
def sbB (b : Int) : Int := if b = 34 then 0 else if b = 41 then 2 else if b = 46 then 3 else if b = 44 then 4 else if b = 45 then 5 else if b = 59 then 6 else if b = 33 then 7 else -1
theorem saB_bd (b : Int) : -1 ≤ saB b ∧ saB b ≤ 1 := by unfold saB; split <;> (try split) <;> omega
theorem sbB_bd (b : Int) : -1 ≤ sbB b ∧ sbB b ≤ 7 := by unfold sbB; repeat' (split); all_goals omega
theorem sbB_iff {i : Int} (h0 : 0 ≤ i) (h7 : i ≤ 7) (h1 : i ≠ 1) (b : Int) : b = sgB i ↔ sbB b = i := by
  have hc : i = 0 ∨ i = 2 ∨ i = 3 ∨ i = 4 ∨ i = 5 ∨ i = 6 ∨ i = 7 := by omega
  rcases hc with rfl | rfl | rfl | rfl | rfl | rfl | rfl <;> unfold sbB sgB <;> repeat' (split) <;> omega
theorem saB_iff {i : Int} (h0 : 0 ≤ i) (h7 : i ≤ 1) (b : Int) : b = sgB i ↔ saB b = i := by
  have hc : i = 0 ∨ i = 1 := by omega
  rcases hc with rfl | rfl <;> unfold saB sgB <;> repeat' (split) <;> omega
theorem tbS_eq {i : Int} (h0 : 0 ≤ i) (h7 : i ≤ 7) : tb_SIGN_BYTE i.toNat = sgB i := by
  have hc : i = 0 ∨ i = 1 ∨ i = 2 ∨ i = 3 ∨ i = 4 ∨ i = 5 ∨ i = 6 ∨ i = 7 := by omega
  rcases hc with rfl | rfl | rfl | rfl | rfl | rfl | rfl | rfl <;> rfl
theorem sgB_inR (i : Int) : inR (sgB i) := by
  refine inR_of ?_
  unfold sgB
  repeat' (split)
  all_goals omega
theorem q5_ahead {i : Int} {post : Int → Prop} (h0 : 0 ≤ i) (h7 : i ≤ 7) (h : post (if i ≤ 1 then 1 else 0)) : wpX5_mayStandAhead i post := by
  unfold wpX5_mayStandAhead
  by_cases c : i ≤ 1
  · rw [if_pos c] at h
    exact ⟨inR_of (by omega), fun _ => h, fun _ => ⟨inR_of (by omega), fun z => absurd (by omega) z, fun _ => h⟩⟩
  · rw [if_neg c] at h
    exact ⟨inR_of (by omega), fun z => absurd z (by omega), fun _ => ⟨inR_of (by omega), fun _ => h, fun z => absurd z (by omega)⟩⟩
theorem q5_behind {i : Int} {post : Int → Prop} (h0 : 0 ≤ i) (h7 : i ≤ 7) (h : post (if i = 1 then 0 else 1)) : wpX5_mayStandBehind i post := by
  unfold wpX5_mayStandBehind
  by_cases c : i = 1
  · rw [if_pos c] at h
    exact ⟨inR_of (by omega), fun z => absurd z (by omega), fun _ => ⟨inR_of (by omega), fun _ => h, fun z => absurd (by omega) z⟩⟩
  · rw [if_neg c] at h
    exact ⟨inR_of (by omega), fun _ => h, fun _ => ⟨inR_of (by omega), fun z => absurd z (by omega), fun _ => ⟨inR_of (by omega), fun z => absurd z (by omega), fun _ => h⟩⟩⟩
theorem q4_behind {n q b : Int} {ah bh : Nat → Int} {post : Int → Int → (Nat → Int) → (Nat → Int) → Prop} (hn : 1 ≤ n) (hn2 : n ≤ 60) (hb : inR b)
    (h : if sbB b = -1 then post 0 q ah bh else post 1 3 (updI ah (n - 1).toNat (ah (n - 1).toNat)) (updI bh (n - 1).toNat (sbB b))) : wpX4_hasSignBehind q n ah bh b post := by
  unfold wpX4_hasSignBehind
  refine ⟨9, ?_⟩
  have key : ∀ (f i : Nat), i + f = 8 → (sbB b = -1 ∨ (i : Int) ≤ sbB b) → wpX4_hasSignBehind_10 n post (f + 1) q ah bh b (n - 1) (i : Int) := by
    intro f
    induction f with
    | zero =>
      intro i hi hs
      have hb7 := sbB_bd b
      rw [if_pos (by omega)] at h
      rw [wpX4_hasSignBehind_10]
      exact ⟨inR_of (by omega), fun _ => h, fun z => absurd (by omega) z⟩
    | succ f ih =>
      intro i hi hs
      rw [wpX4_hasSignBehind_10]
      unfold wpX4_hasSignBehind_54
      refine ⟨inR_of (by omega), fun z => absurd z (by omega), fun _ => q5_behind (by omega) (by omega) ?_⟩
      by_cases c : (i : Int) = 1
      · rw [if_pos c]
        have h8 := ih (i + 1) (by omega) (by
          have hne : sbB b ≠ 1 := by unfold sbB; repeat' (split); all_goals omega
          omega)
        exact ⟨inR_lit rfl, fun _ => h8, fun z => absurd rfl z⟩
      · rw [if_neg c, tbS_eq (by omega) (by omega)]
        refine ⟨inR_lit rfl, fun z => absurd z (by decide), fun _ => ⟨by omega, by omega, hb, sgB_inR _, fun z => ?_, fun z => ?_⟩⟩
        · exact ih (i + 1) (by omega) (by
            have := (not_congr (sbB_iff (i := (i : Int)) (by omega) (by omega) c b)).mp z
            omega)
        · have z2 := (sbB_iff (i := (i : Int)) (by omega) (by omega) c b).mp z
          rw [if_neg (by omega), z2] at h
          exact q3_aheadOf (by omega) (by omega) hn2 (q3_putSigns (by omega) (by omega) hn2 h)
  exact key 8 0 rfl (by have := sbB_bd b; omega)
theorem q4_ahead {n q b w : Int} {lt ln bd ah bh en : Nat → Int} {post : Int → Int → Int → (Nat → Int) → (Nat → Int) → (Nat → Int) → (Nat → Int) → (Nat → Int) → (Nat → Int) → Prop} (hw : 0 ≤ w) (hw2 : w < n) (hn2 : n ≤ 60) (hb : inR b)
    (h1 : ¬ saB b = -1 → post 1 1 n lt ln bd (updI ah w.toNat (saB b)) (updI bh w.toNat (-1)) en)
    (h2 : saB b = -1 → wpX3_addLetter n lt ln bd w (b - 97) (fun z lt ln bd => (z = 0 ∨ z = 1) ∧ post z 2 n lt ln bd ah bh en)) : ∃ n0 : Nat, wpX4_beginsWord_24 post n0 q n lt ln bd ah bh en b w 0 := by
  refine ⟨9, ?_⟩
  have key : ∀ (f i : Nat), i + f = 8 → (saB b = -1 ∨ (i : Int) ≤ saB b) → wpX4_beginsWord_24 post (f + 1) q n lt ln bd ah bh en b w (i : Int) := by
    intro f
    induction f with
    | zero =>
      intro i hi hs
      have hb7 := saB_bd b
      rw [wpX4_beginsWord_24]
      exact ⟨inR_of (by omega), fun _ => h2 (by omega), fun z => absurd (by omega) z⟩
    | succ f ih =>
      intro i hi hs
      rw [wpX4_beginsWord_24]
      unfold wpX4_beginsWord_64
      refine ⟨inR_of (by omega), fun z => absurd z (by omega), fun _ => q5_ahead (by omega) (by omega) ?_⟩
      by_cases c : (i : Int) ≤ 1
      · rw [if_pos c, tbS_eq (by omega) (by omega)]
        refine ⟨inR_lit rfl, fun z => absurd z (by decide), fun _ => ⟨by omega, by omega, hb, sgB_inR _, fun z => ?_, fun z => ?_⟩⟩
        · exact ih (i + 1) (by omega) (by
            have := (not_congr (saB_iff (i := (i : Int)) (by omega) (by omega) b)).mp z
            omega)
        · have z2 := (saB_iff (i := (i : Int)) (by omega) (by omega) b).mp z
          have h3 := h1 (by omega)
          rw [z2] at h3
          exact q3_putSigns (by omega) (by omega) hn2 h3
      · rw [if_neg c]
        exact ⟨inR_lit rfl, fun _ => ih (i + 1) (by omega) (by have := saB_bd b; omega), fun z => absurd rfl z⟩
  exact key 8 0 rfl (by have := saB_bd b; omega)
theorem q6_pass {T j : Int} {tx : Nat → Int} {post : Int → Int → Prop} (h0 : 0 ≤ j) (hT : T ≤ 200) (hjT : j ≤ T) (a : Int) (ha : a = 0 ∨ a = 1) (hb : j < T → inR (tx j.toNat))
    (h1 : T ≤ j → post (-1) j) (h2 : j < T → post (if a = 1 then saB (tx j.toNat) else sbB (tx j.toNat)) (if (if a = 1 then saB (tx j.toNat) else sbB (tx j.toNat)) = -1 then j else j + 1)) : wpX6_passSign T j tx a post := by
  unfold wpX6_passSign
  refine ⟨9, ?_⟩
  by_cases cT : T ≤ j
  · rw [wpX6_passSign_2]
    exact ⟨inR_lit rfl, fun _ => h1 cT, fun _ => ⟨inR_of (by omega), inR_of (by omega), fun _ => h1 cT, fun z => absurd cT z⟩⟩
  · have hbb := hb (by omega)
    have h2 := h2 (by omega)
    have step : ∀ (f i : Nat), i + f = 8 → ((if a = 1 then saB (tx j.toNat) else sbB (tx j.toNat)) = -1 ∨ (i : Int) ≤ (if a = 1 then saB (tx j.toNat) else sbB (tx j.toNat))) → wpX6_passSign_2 T tx post (f + 1) j a (i : Int) := by
      have hs1 : ∀ b, sbB b ≠ 1 := fun b => by unfold sbB; repeat' (split); all_goals omega
      have hs7 := sbB_bd (tx j.toNat)
      have ha7 := saB_bd (tx j.toNat)
      intro f
      induction f with
      | zero =>
        intro i hi hs
        rw [wpX6_passSign_2]
        have e : (if a = 1 then saB (tx j.toNat) else sbB (tx j.toNat)) = -1 := by
          revert hs
          split <;> omega
        rw [e, if_pos rfl] at h2
        exact ⟨inR_of (by omega), fun _ => h2, fun z => absurd (by omega) z⟩
      | succ f ih =>
        intro i hi hs
        rw [wpX6_passSign_2]
        unfold wpX6_passSign_46 wpX6_passSign_79
        have skip : ∀ (w0 : Int), w0 = 0 ∨ w0 = 1 → ¬ (if a = 1 then saB (tx j.toNat) else sbB (tx j.toNat)) = (i : Int) → (w0 = 1 → ¬ tx j.toNat = sgB (i : Int)) → inR w0 ∧ (w0 = 0 → wpX6_passSign_2 T tx post (f + 1) j a ((i : Int) + 1)) ∧ (¬ w0 = 0 → 0 ≤ j ∧ j < 200 ∧ wpX6_byteOf (i : Int) (fun z2 => inR (tx j.toNat) ∧ inR z2 ∧ (¬ tx j.toNat = z2 → wpX6_passSign_2 T tx post (f + 1) j a ((i : Int) + 1)) ∧ (tx j.toNat = z2 → post (i : Int) (j + 1)))) := by
          intro w0 hw hne hnb
          have h8 := ih (i + 1) (by omega) (by omega)
          exact ⟨inR_of (by omega), fun _ => h8, fun z => ⟨h0, by omega, q6_byteOf (by omega) (by omega) ⟨hbb, sgB_inR _, fun _ => h8, fun z2 => absurd z2 (hnb (by omega))⟩⟩⟩
        have take : (if a = 1 then saB (tx j.toNat) else sbB (tx j.toNat)) = (i : Int) → tx j.toNat = sgB (i : Int) → inR 1 ∧ ((1 : Int) = 0 → wpX6_passSign_2 T tx post (f + 1) j a ((i : Int) + 1)) ∧ (¬ (1 : Int) = 0 → 0 ≤ j ∧ j < 200 ∧ wpX6_byteOf (i : Int) (fun z2 => inR (tx j.toNat) ∧ inR z2 ∧ (¬ tx j.toNat = z2 → wpX6_passSign_2 T tx post (f + 1) j a ((i : Int) + 1)) ∧ (tx j.toNat = z2 → post (i : Int) (j + 1)))) := by
          intro he hb2
          rw [he, if_neg (by omega)] at h2
          exact ⟨inR_lit rfl, fun z => absurd z (by decide), fun z => ⟨h0, by omega, q6_byteOf (by omega) (by omega) ⟨hbb, sgB_inR _, fun z2 => absurd hb2 z2, fun z2 => h2⟩⟩⟩
        refine ⟨inR_of (by omega), fun z => absurd z (by omega), fun _ => ⟨inR_of (by omega), inR_of (by omega), fun z => absurd z cT, fun _ => ⟨inR_of (by omega), fun ca => ⟨inR_of (by omega), fun c => ?_, fun c => ?_⟩, fun ca => ⟨inR_of (by omega), fun c => ?_, fun c => ?_⟩⟩⟩⟩
        · refine skip 0 (Or.inl rfl) ?_ (fun z => absurd z (by decide))
          rw [if_neg (by omega), c]
          exact hs1 _
        · by_cases c2 : tx j.toNat = sgB (i : Int)
          · refine take ?_ c2
            rw [if_neg (by omega)]
            exact (sbB_iff (by omega) (by omega) c _).mp c2
          · refine skip 1 (Or.inr rfl) ?_ (fun _ => c2)
            rw [if_neg (by omega)]
            exact (not_congr (sbB_iff (by omega) (by omega) c _)).mp c2
        · refine skip 0 (Or.inl rfl) ?_ (fun z => absurd z (by decide))
          rw [if_pos (by omega)]
          omega
        · by_cases c2 : tx j.toNat = sgB (i : Int)
          · refine take ?_ c2
            rw [if_pos (by omega)]
            exact (saB_iff (by omega) (by omega) _).mp c2
          · refine skip 1 (Or.inr rfl) ?_ (fun _ => c2)
            rw [if_pos (by omega)]
            exact (not_congr (saB_iff (by omega) (by omega) _)).mp c2
    exact step 8 0 rfl (by
      have hs7 := sbB_bd (tx j.toNat)
      have ha7 := saB_bd (tx j.toNat)
      split <;> omega)
