/-! Rows of the law's own body. -/
def xv (xs : Nat → Int32) (j : Int) : Int := (xs j.toNat).toInt
theorem xv_in {xs : Nat → Int32} {j : Int} : inR (xv xs j) := inR_toInt _
def bz (x : Int) : Int := if x = 0 then 0 else 1
theorem bz_01 (x : Int) : bz x = 0 ∨ bz x = 1 := by unfold bz; split; exact Or.inl rfl; exact Or.inr rfl
theorem lg_same (x : Int64) : lg_cmp x x = 0 := by
  unfold lg_cmp
  simp
theorem and31 (x : Int32) : ∃ k : Int, 0 ≤ k ∧ k ≤ 31 ∧ x &&& iI 31 = iI k := by
  refine ⟨(((x &&& iI 31).toBitVec.toNat : Nat) : Int), by omega, ?_, ?_⟩
  · have h : (x &&& iI 31).toBitVec.toNat ≤ 31 := by
      rw [Int32.toBitVec_and, BitVec.toNat_and]
      exact Nat.and_le_right
    omega
  · have h : (x &&& iI 31).toBitVec.toNat ≤ 31 := by
      rw [Int32.toBitVec_and, BitVec.toNat_and]
      exact Nat.and_le_right
    have e1 : (x &&& iI 31).toInt = (((x &&& iI 31).toBitVec.toNat : Nat) : Int) := by
      show (x &&& iI 31).toBitVec.toInt = _
      rw [BitVec.toInt_eq_toNat_of_lt (by omega)]
    rw [← e1, iI_of]
section LRow
variable {p : Program} {l : Launch} {e : Env} {R : Room} {s : State} {m : MethodId} {args : Array Value} {below : List Frame} {meth : Method} {c : Code} {H : Heap} {locs : List Loc} {cells slots : Nat} {Q : State → Prop}
variable {cc : ByteArray} {pc : Nat} {ls : Array Slot} {rest : List Value} {A : Nat → Prop} {H0 : Heap}
theorem l_sld (hx : p.tables.exec = Jvm.exec) (hb : c.code = cc) {b L : Nat} {xs : Nat → Int32} (hX : va_X b L xs s H0) (hbl : b < H0.size) (hbA : ¬ A b) (hS : va_S A H0 H locs) {j : Int} (h0 : 0 ≤ j) (h1 : j < L) (hL : L ≤ 3072) (hdg : decode cc pc = .ok (.iaload, 1))
    (kk : W p l e R s m args below meth c H locs cells slots Q (F0 m (pc + 1) ls (.int (iI (xv xs j)) :: rest))) : W p l e R s m args below meth c H locs cells slots Q (F0 m pc ls (.int (iI j) :: .ref b :: rest)) :=
  va_sld hx hb hX hbl hbA hS (iI_in h0 h1 (by omega)) hdg (by
    rw [iI_cl h0 (by omega)]
    unfold xv at kk
    rw [iI_of] at kk
    exact kk)
theorem l_slen (hx : p.tables.exec = Jvm.exec) (hb : c.code = cc) {b L : Nat} {xs : Nat → Int32} (hX : va_X b L xs s H0) (hbl : b < H0.size) (hbA : ¬ A b) (hS : va_S A H0 H locs) (hdg : decode cc pc = .ok (.arraylength, 1))
    (kk : W p l e R s m args below meth c H locs cells slots Q (F0 m (pc + 1) ls (.int (iI (L : Int)) :: rest))) : W p l e R s m args below meth c H locs cells slots Q (F0 m pc ls (.ref b :: rest)) :=
  va_slen hx hb hX hbl hbA hS hdg (by
    rw [iI_nI] at kk
    exact kk)
theorem l_and31 (hx : p.tables.exec = Jvm.exec) (hb : c.code = cc) {x : Int} (hdg : decode cc pc = .ok (.iand, 1))
    (kk : ∀ k : Int, 0 ≤ k → k ≤ 31 → W p l e R s m args below meth c H locs cells slots Q (F0 m (pc + 1) ls (.int (iI k) :: rest))) : W p l e R s m args below meth c H locs cells slots Q (F0 m pc ls (.int (iI 31) :: .int (iI x) :: rest)) :=
  lv_iand hx hb hdg (by
    obtain ⟨k, h0, h1, h2⟩ := and31 (iI x)
    rw [h2]
    exact kk k h0 h1)
theorem l_bz (hx : p.tables.exec = Jvm.exec) (hb : c.code = cc) {x : Int} (hp : inR x) (d0 : decode cc pc = .ok (.ifCond .eq 7, 3)) (d3 : decode cc (pc + 3) = .ok (.iconst 1, 1)) (d4 : decode cc (pc + 3 + 1) = .ok (.goto 4, 3)) (d7 : decode cc (pc + 7) = .ok (.iconst 0, 1))
    (kk : W p l e R s m args below meth c H locs cells slots Q (F0 m (pc + 8) ls (.int (iI (bz x)) :: rest))) : W p l e R s m args below meth c H locs cells slots Q (F0 m pc ls (.int (iI x) :: rest)) := by
  refine i_if_eq (tgt := pc + 7) hx hb hp d0 (by omega) (fun c => ?_) (fun c => ?_)
  · refine lv_iconst (v := iI 0) hx hb d7 rfl ?_
    have e1 : bz x = 0 := if_pos c
    rw [e1] at kk
    exact kk
  · refine lv_iconst (v := iI 1) hx hb d3 rfl ?_
    refine lv_goto (tgt := pc + 8) hx hb d4 (by omega) ?_
    have e1 : bz x = 1 := if_neg c
    rw [e1] at kk
    exact kk
theorem l_ceq (hx : p.tables.exec = Jvm.exec) (hb : c.code = cc) {x : Int32} {off : Int} {tgt : Nat} (hdg : decode cc pc = .ok (.if_icmp .eq off, 3)) (ht : (pc : Int) + off = (tgt : Int)) (kk : W p l e R s m args below meth c H locs cells slots Q (F0 m tgt ls rest)) : W p l e R s m args below meth c H locs cells slots Q (F0 m pc ls (.int x :: .int x :: rest)) :=
  lv_icmp_eq hx hb hdg ht (fun _ => kk) (fun q => absurd rfl q)
theorem l_lceq (hx : p.tables.exec = Jvm.exec) (hb : c.code = cc) {x : Int64} {off : Int} {tgt : Nat} (hd1 : decode cc pc = .ok (.lcmp, 1)) (hdg : decode cc (pc + 1) = .ok (.ifCond .eq off, 3)) (ht : ((pc + 1 : Nat) : Int) + off = (tgt : Int)) (kk : W p l e R s m args below meth c H locs cells slots Q (F0 m tgt ls rest)) : W p l e R s m args below meth c H locs cells slots Q (F0 m pc ls (.long x :: .long x :: rest)) :=
  W.lcmp hx hb hd1 (by
    rw [lg_same]
    exact lv_if_eq hx hb hdg ht (fun _ => kk) (fun q => absurd rfl q))
end LRow
