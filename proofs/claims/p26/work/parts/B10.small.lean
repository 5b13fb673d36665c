/-! The law's rows of numbers tell the class's words; its small methods. -/
def G26 (n : Int) (lt ln ah bh en st sh g e : Nat → Int) : Prop :=
  n ≤ 10 ∧ g 14 = n ∧ (∀ i : Nat, i < 6 → g i = st i) ∧ (∀ i : Nat, i < 8 → g (6 + i) = sh i) ∧
  ∀ w : Nat, (w : Int) < n → e (5 * w + 1) = ln w ∧ e (5 * w + 2) = ah w ∧ e (5 * w + 3) = bh w ∧ e (5 * w + 4) = en w ∧ 0 ≤ e (5 * w) ∧ e (5 * w) < 26 ∧ ∀ k : Nat, (k : Int) < ln w → lt (12 * w + k) = (e (5 * w) + (k : Int)) % 26
/-- the natural width of q words from a on -/
def nt (W : Nat → Int) (a q : Nat) : Int := 2 * (q : Int) - 2 + sr W a q
theorem nt_succ (W : Nat → Int) (a d : Nat) : nt W a (d + 1) = 2 * (d : Int) + sr W a d + W (a + d) := by
  unfold nt
  rw [sr_succ]
  omega
theorem u_sign {s : Int} {post : Int → Prop} (h0 : -1 ≤ s) (h1 : s ≤ 7) (h : post (sgW s)) : wpL_sign s post := by
  have hc : s = -1 ∨ s = 0 ∨ s = 1 ∨ s = 2 ∨ s = 3 ∨ s = 4 ∨ s = 5 ∨ s = 6 ∨ s = 7 := by omega
  unfold wpL_sign
  rcases hc with rfl | rfl | rfl | rfl | rfl | rfl | rfl | rfl | rfl <;> repeat' (first | exact h | omega | refine And.intro ?_ ?_ | intro _)
theorem u_low {v m : Int} {post : Int → Prop} (h0 : 0 < m) (h1 : m ≤ 2147483647) (h : ∀ k : Int, 0 ≤ k → k < m → post k) : wpL_low v m post := by
  unfold wpL_low
  exact fun q hq => ⟨hq.1, hq.2, h0, h1, h _ (Int.emod_nonneg _ (by omega)) (Int.emod_lt_of_pos _ h0)⟩
section Small
variable {n : Int} {lt ln bd ah bh en st sh ms g e : Nat → Int}
theorem u_width (R : RS n lt ln bd ah bh en st sh ms) (Gr : G26 n lt ln ah bh en st sh g e) {w : Nat} {post : Int → Prop} (hw : (w : Int) < n) (h : post (cW bd ah bh w)) : wpL_width e (w : Int) post := by
  obtain ⟨b1, b2, b3, b4, b5, b6, b7, b8, b9, b10, b11, b12⟩ := R.2.2.2.2.2.2.2 w hw
  obtain ⟨gn, g14, g6, g8, gw⟩ := Gr
  obtain ⟨c1, c2, c3, c4, c5, c6, c7⟩ := gw w hw
  have z0 : (5 * (w : Int)).toNat = 5 * w := by omega
  have z1 : (5 * (w : Int) + 1).toNat = 5 * w + 1 := by omega
  have z2 : (5 * (w : Int) + 2).toNat = 5 * w + 2 := by omega
  have z3 : (5 * (w : Int) + 3).toNat = 5 * w + 3 := by omega
  unfold cW at h
  rw [b12] at h
  have key : ∀ (f i : Nat), i + f = (ln w).toNat → wpL_width_24 e post (f + 1) (w : Int) (sgW (ah w) + sgW (bh w) + sm (fun k => lw (lt (12 * w + k))) i) (i : Int) := by
    intro f
    induction f with
    | zero =>
      intro i hi
      rw [wpL_width_24, z1, c1]
      refine ⟨by omega, by omega, inR_of (by omega), inR_of (by omega), fun _ => ?_, fun c => absurd (by omega) c⟩
      rw [show i = (ln w).toNat by omega]
      rw [show sgW (ah w) + sgW (bh w) + sm (fun k => lw (lt (12 * w + k))) (ln w).toNat = sm (fun k => lw (lt (12 * w + k))) (ln w).toNat + sgW (ah w) + sgW (bh w) by omega]
      exact h
    | succ f ih =>
      intro i hi
      have hb := b11 i (by omega)
      have hk := c7 i (by omega)
      have h1 := ih (i + 1) (by omega)
      rw [sm, show ((i + 1 : Nat) : Int) = (i : Int) + 1 by omega, show sgW (ah w) + sgW (bh w) + (sm (fun k => lw (lt (12 * w + k))) i + lw (lt (12 * w + i))) = sgW (ah w) + sgW (bh w) + sm (fun k => lw (lt (12 * w + k))) i + lw (lt (12 * w + i)) by omega] at h1
      have hlw := lw_eq hb.2.1 hb.2.2
      rw [wpL_width_24, z1, c1, z0, ← hk]
      generalize sgW (ah w) + sgW (bh w) + sm (fun k => lw (lt (12 * w + k))) i = S at h1 ⊢
      generalize lt (12 * w + i) = c at h1 hb hlw ⊢
      have k2 : lw c = 2 → wpL_width_82 e post (wpL_width_24 e post (f + 1)) (w : Int) (i : Int) S := fun q => by
        unfold wpL_width_82 wpL_width_106
        rw [q] at h1
        exact h1
      have k6 : lw c = 6 → wpL_width_100 e post (wpL_width_24 e post (f + 1)) (w : Int) (i : Int) S := fun q => by
        unfold wpL_width_100 wpL_width_106
        rw [q] at h1
        exact h1
      have k4 : lw c = 4 → wpL_width_106 e post (wpL_width_24 e post (f + 1)) (w : Int) (i : Int) 4 S := fun q => by
        unfold wpL_width_106
        rw [q] at h1
        exact h1
      have ic : inR c := inR_of (by omega)
      exact ⟨by omega, by omega, inR_of (by omega), inR_of (by omega), fun q => absurd q (by omega), fun _ => ⟨by omega, by omega, by omega, by omega, ic, fun q => k2 (by rw [hlw, if_pos (by omega)]), fun q1 => ⟨ic, fun q => k2 (by rw [hlw, if_pos (by omega)]), fun q2 => ⟨ic, fun q => k2 (by rw [hlw, if_pos (by omega)]), fun q3 => ⟨ic, fun q => k2 (by rw [hlw, if_pos (by omega)]), fun q4 => ⟨ic, fun q5 => ⟨ic, fun q => k6 (by rw [hlw, if_neg (by omega), if_pos (by omega)]), fun q6 => ⟨ic, fun q7 => k4 (by rw [hlw, if_neg (by omega), if_neg (by omega)]), fun q => k6 (by rw [hlw, if_neg (by omega), if_pos (by omega)])⟩⟩, fun q => k2 (by rw [hlw, if_pos (by omega)])⟩⟩⟩⟩⟩⟩
  have hk0 := key (ln w).toNat 0 (by omega)
  rw [sm, Int.add_zero] at hk0
  unfold wpL_width
  rw [z2, z3, c2, c3]
  exact ⟨by omega, by omega, u_sign b7 (by omega) ⟨by omega, by omega, u_sign b9 b10 ⟨(ln w).toNat + 1, hk0⟩⟩⟩
theorem u_natural (R : RS n lt ln bd ah bh en st sh ms) (Gr : G26 n lt ln ah bh en st sh g e) {f q : Nat} {post : Int → Prop} (hb : (f : Int) + (q : Int) ≤ n) (h : post (nt (cW bd ah bh) f q)) : wpL_natural e (f : Int) (q : Int) post := by
  have hn := R.2.2.1
  have key : ∀ (k i : Nat), i + k = q → wpL_natural_9 e post (k + 1) (f : Int) (q : Int) (2 * (q : Int) - 2 + sr (cW bd ah bh) f i) ((f : Int) + (i : Int)) := by
    intro k
    induction k with
    | zero =>
      intro i hi
      rw [wpL_natural_9]
      refine ⟨inR_of (by omega), inR_of (by omega), fun _ => ?_, fun c => absurd (by omega) c⟩
      rw [show i = q by omega]
      exact h
    | succ k ih =>
      intro i hi
      rw [wpL_natural_9]
      have h1 := ih (i + 1) (by omega)
      rw [sr_succ, show (f : Int) + ((i + 1 : Nat) : Int) = (f : Int) + (i : Int) + 1 by omega, ← Int.add_assoc] at h1
      refine ⟨inR_of (by omega), inR_of (by omega), fun c => absurd c (by omega), fun _ => ?_⟩
      rw [show (f : Int) + (i : Int) = ((f + i : Nat) : Int) by omega] at h1 ⊢
      exact u_width R Gr (by omega) h1
  have h2 := key q 0 (by omega)
  rw [show (f : Int) + ((0 : Nat) : Int) = (f : Int) by omega, show 2 * (q : Int) - 2 + sr (cW bd ah bh) f 0 = 2 * (q : Int) - 2 from Int.add_zero _] at h2
  exact ⟨q + 1, h2⟩
theorem u_hang (R : RS n lt ln bd ah bh en st sh ms) (Gr : G26 n lt ln ah bh en st sh g e) {s m : Int} {post : Int → Prop} (h0 : -1 ≤ s) (h1 : s ≤ 7) (hm : 0 ≤ m ∧ m ≤ 10) (h : post (if m < ov sh s then m else ov sh s)) : wpL_hang g s m post := by
  have hb := ov_bd h0 h1 R.okw.2.2.2
  have key : ∀ w0 : Int, w0 = ov sh s → wpL_hang_22 g post m w0 := by
    intro w0 hw0
    rw [← hw0] at h hb
    unfold wpL_hang_22
    refine ⟨inR_of (by omega), inR_of (by omega), fun c => ?_, fun c => ?_⟩
    · rw [if_neg (by omega)] at h
      exact h
    · rw [if_pos (by omega)] at h
      exact h
  unfold wpL_hang
  by_cases c : s = -1
  · have e0 : ov sh s = 0 := by unfold ov; rw [if_pos c]
    exact ⟨inR_of (by omega), fun z => absurd z (by omega), fun _ => key 0 e0.symm⟩
  · have e1 : ov sh s = sgW s * sh s.toNat / 100 := by unfold ov; rw [if_neg c]
    have h2 := R.okw.2.2.2 s.toNat (by omega)
    have h3 : sgW s = 0 ∨ sgW s = 2 ∨ sgW s = 3 := by unfold sgW; split <;> (try split) <;> omega
    have e2 : g (6 + s).toNat = sh s.toNat := by
      rw [show (6 + s).toNat = 6 + s.toNat by omega]
      exact Gr.2.2.2.1 s.toNat (by omega)
    rw [e2]
    refine ⟨inR_of (by omega), fun _ => u_sign h0 h1 ⟨by omega, by omega, ?_, ?_, key _ e1.symm⟩, fun z => absurd (by omega) z⟩ <;> rcases h3 with h3 | h3 | h3 <;> rw [h3] <;> omega
theorem u_closes (R : RS n lt ln bd ah bh en st sh ms) (Gr : G26 n lt ln ah bh en st sh g e) {w : Int} {post : Int → Prop} (h0 : 0 ≤ w) (hw : w < n) (h : post (pe n en w)) : wpL_closes g e w post := by
  obtain ⟨gn, g14, g6, g8, gw⟩ := Gr
  obtain ⟨c1, c2, c3, c4, c5, c6, c7⟩ := gw w.toNat (by omega)
  have he := R.2.2.2.2.2.2.1 w.toNat (by omega)
  unfold wpL_closes
  rw [show (5 * w + 4).toNat = 5 * w.toNat + 4 by omega, c4, g14]
  unfold pe at h
  refine ⟨by omega, by omega, inR_of (by omega), fun c => ?_, fun c => ⟨inR_of (by omega), inR_of (by omega), fun c2 => ?_, fun c2 => ?_⟩⟩
  · rw [if_pos (Or.inl c)] at h; exact h
  · rw [if_neg (by omega)] at h; exact h
  · rw [if_pos (Or.inr (by omega))] at h; exact h
end Small
