/-! Int-level rows: a machine int is written iI z, an int array aI f. -/
def aI (f : Nat → Int) : Nat → Int32 := fun j => iI (f j)
theorem iI_toInt {z : Int} (h : inR z) : (iI z).toInt = z := Int32.toInt_ofInt_of_le (by have := h.1; omega) (by have := h.2; omega)
theorem iI_of (x : Int32) : iI x.toInt = x := Int32.ofInt_toInt x
theorem inR_toInt (x : Int32) : inR x.toInt := by
  have h1 := Int32.le_toInt x
  have h2 := Int32.toInt_lt x
  exact ⟨by omega, by omega⟩
theorem iI_ex (x : Int32) : ∃ z : Int, inR z ∧ x = iI z := ⟨x.toInt, inR_toInt x, (iI_of x).symm⟩
theorem iI_add (a b : Int) : iI a + iI b = iI (a + b) := (Int32.ofInt_add a b).symm
theorem iI_sub (a b : Int) : iI a - iI b = iI (a - b) := (Int32.ofInt_sub a b).symm
theorem iI_mul (a b : Int) : iI a * iI b = iI (a * b) := (Int32.ofInt_mul a b).symm
theorem iI_neg (a : Int) : -iI a = iI (-a) := (Int32.ofInt_neg a).symm
theorem iI_nI (n : Nat) : iI (n : Int) = nI n := Int32.ofInt_eq_ofNat
theorem iI_lt {a b : Int} (ha : inR a) (hb : inR b) : iI a < iI b ↔ a < b := by rw [Int32.lt_iff_toInt_lt, iI_toInt ha, iI_toInt hb]
theorem iI_le {a b : Int} (ha : inR a) (hb : inR b) : iI a ≤ iI b ↔ a ≤ b := by rw [Int32.le_iff_toInt_le, iI_toInt ha, iI_toInt hb]
theorem iI_eq {a b : Int} (ha : inR a) (hb : inR b) : iI a = iI b ↔ a = b := by rw [← Int32.toInt_inj, iI_toInt ha, iI_toInt hb]
theorem iI_cl {i : Int} (h0 : 0 ≤ i) (h1 : i ≤ 2147483647) : (iI i).toNatClampNeg = i.toNat := by
  show (iI i).toInt.toNat = i.toNat
  rw [iI_toInt ⟨by omega, h1⟩]
theorem iI_in {i : Int} {n : Nat} (h0 : 0 ≤ i) (h1 : i < n) (hn : n ≤ 2147483647) : vp_in (iI i) n := by
  rw [vp_in_iff, iI_toInt ⟨by omega, by omega⟩]
  exact ⟨h0, h1⟩
theorem iI_div {a b : Int} (ha : 0 ≤ a) (ha2 : a ≤ 2147483647) (hb : 0 < b) (hb2 : b ≤ 2147483647) : iI a / iI b = iI (a / b) := by
  obtain ⟨n, rfl⟩ := Int.eq_ofNat_of_zero_le ha
  obtain ⟨k, rfl⟩ := Int.eq_ofNat_of_zero_le (Int.le_of_lt hb)
  rw [← Int.natCast_ediv, iI_nI, iI_nI, iI_nI]
  exact pk_div (by omega) (by omega) (by omega)
theorem iI_rem {a b : Int} (ha : 0 ≤ a) (ha2 : a ≤ 2147483647) (hb : 0 < b) (hb2 : b ≤ 2147483647) : iI a - iI a / iI b * iI b = iI (a % b) := by
  obtain ⟨n, rfl⟩ := Int.eq_ofNat_of_zero_le ha
  obtain ⟨k, rfl⟩ := Int.eq_ofNat_of_zero_le (Int.le_of_lt hb)
  rw [← Int.natCast_emod, iI_nI, iI_nI, iI_nI]
  exact pk_rem (by omega) (by omega) (by omega)
theorem iI_max {a b : Int} (ha : inR a) (hb : inR b) : (if iI a < iI b then iI b else iI a) = iI (if a < b then b else a) := by
  by_cases h : a < b
  · rw [if_pos h, if_pos ((iI_lt ha hb).mpr h)]
  · rw [if_neg h, if_neg (fun q => h ((iI_lt ha hb).mp q))]
theorem iI_min {a b : Int} (ha : inR a) (hb : inR b) : (if iI b < iI a then iI b else iI a) = iI (if b < a then b else a) := by
  by_cases h : b < a
  · rw [if_pos h, if_pos ((iI_lt hb ha).mpr h)]
  · rw [if_neg h, if_neg (fun q => h ((iI_lt hb ha).mp q))]
theorem aI_upd (f : Nat → Int) (k : Nat) (v : Int) : upd (aI f) k (iI v) = aI (updI f k v) := by
  funext j
  show (if j = k then iI v else iI (f j)) = iI (if j = k then v else f j)
  split <;> rfl
theorem aI_cpy (f g : Nat → Int) (sp dp n : Nat) : va_cpy (aI f) (aI g) sp dp n = aI (cpyI f g sp dp n) := by
  funext k
  show (if dp ≤ k ∧ k < dp + n then iI (f (sp + (k - dp))) else iI (g k)) = iI (if dp ≤ k ∧ k < dp + n then f (sp + (k - dp)) else g k)
  split <;> rfl
theorem nar_bool {v : Int} (h : v = 0 ∨ v = 1) : vp_nar .boolean (iI v) = iI v := by
  rcases h with rfl | rfl <;> decide +kernel
section IRow
variable {p : Program} {l : Launch} {e : Env} {R : Room} {s : State} {m : MethodId} {args : Array Value} {below : List Frame} {meth : Method} {c : Code} {H : Heap} {locs : List Loc} {cells slots : Nat} {Q : State → Prop}
variable {cc : ByteArray} {pc : Nat} {ls : Array Slot} {rest : List Value} {D : va_G} {cl : List vw_C} {A : Nat → Prop} {a : Nat} {tys : List (ClassId × FieldType)} {ws : va_W} {H0 : Heap}
theorem i_add (hx : p.tables.exec = Jvm.exec) (hb : c.code = cc) {x y : Int} (hdg : decode cc pc = .ok (.iadd, 1)) (k : W p l e R s m args below meth c H locs cells slots Q (F0 m (pc + 1) ls (.int (iI (x + y)) :: rest))) : W p l e R s m args below meth c H locs cells slots Q (F0 m pc ls (.int (iI y) :: .int (iI x) :: rest)) :=
  lv_iadd hx hb hdg (by rw [iI_add]; exact k)
theorem i_sub (hx : p.tables.exec = Jvm.exec) (hb : c.code = cc) {x y : Int} (hdg : decode cc pc = .ok (.isub, 1)) (k : W p l e R s m args below meth c H locs cells slots Q (F0 m (pc + 1) ls (.int (iI (x - y)) :: rest))) : W p l e R s m args below meth c H locs cells slots Q (F0 m pc ls (.int (iI y) :: .int (iI x) :: rest)) :=
  lv_isub hx hb hdg (by rw [iI_sub]; exact k)
theorem i_mul (hx : p.tables.exec = Jvm.exec) (hb : c.code = cc) {x y : Int} (hdg : decode cc pc = .ok (.imul, 1)) (k : W p l e R s m args below meth c H locs cells slots Q (F0 m (pc + 1) ls (.int (iI (x * y)) :: rest))) : W p l e R s m args below meth c H locs cells slots Q (F0 m pc ls (.int (iI y) :: .int (iI x) :: rest)) :=
  lv_imul hx hb hdg (by rw [iI_mul]; exact k)
theorem i_neg (hx : p.tables.exec = Jvm.exec) (hb : c.code = cc) {x : Int} (hdg : decode cc pc = .ok (.ineg, 1)) (k : W p l e R s m args below meth c H locs cells slots Q (F0 m (pc + 1) ls (.int (iI (-x)) :: rest))) : W p l e R s m args below meth c H locs cells slots Q (F0 m pc ls (.int (iI x) :: rest)) :=
  lv_ineg hx hb hdg (by rw [iI_neg]; exact k)
theorem i_div (hx : p.tables.exec = Jvm.exec) (hb : c.code = cc) {x y : Int} (h1 : 0 ≤ x) (h2 : x ≤ 2147483647) (h3 : 0 < y) (h4 : y ≤ 2147483647) (hdg : decode cc pc = .ok (.idiv, 1)) (k : W p l e R s m args below meth c H locs cells slots Q (F0 m (pc + 1) ls (.int (iI (x / y)) :: rest))) : W p l e R s m args below meth c H locs cells slots Q (F0 m pc ls (.int (iI y) :: .int (iI x) :: rest)) :=
  lv_idiv hx hb hdg (fun q => by have := (iI_eq (a := y) (b := 0) ⟨by omega, h4⟩ ⟨by omega, by omega⟩).mp q; omega) (by rw [iI_div h1 h2 h3 h4]; exact k)
theorem i_rem (hx : p.tables.exec = Jvm.exec) (hb : c.code = cc) {x y : Int} (h1 : 0 ≤ x) (h2 : x ≤ 2147483647) (h3 : 0 < y) (h4 : y ≤ 2147483647) (hdg : decode cc pc = .ok (.irem, 1)) (k : W p l e R s m args below meth c H locs cells slots Q (F0 m (pc + 1) ls (.int (iI (x % y)) :: rest))) : W p l e R s m args below meth c H locs cells slots Q (F0 m pc ls (.int (iI y) :: .int (iI x) :: rest)) :=
  lv_irem hx hb hdg (fun q => by have := (iI_eq (a := y) (b := 0) ⟨by omega, h4⟩ ⟨by omega, by omega⟩).mp q; omega) (by rw [iI_rem h1 h2 h3 h4]; exact k)
theorem i_cmp_eq (hx : p.tables.exec = Jvm.exec) (hb : c.code = cc) {x y : Int} {off : Int} {tgt : Nat} (h1 : inR x) (h2 : inR y) (hdg : decode cc pc = .ok (.if_icmp .eq off, 3)) (ht : (pc : Int) + off = (tgt : Int)) (kt : x = y → W p l e R s m args below meth c H locs cells slots Q (F0 m tgt ls rest)) (kf : ¬ x = y → W p l e R s m args below meth c H locs cells slots Q (F0 m (pc + 3) ls rest)) : W p l e R s m args below meth c H locs cells slots Q (F0 m pc ls (.int (iI y) :: .int (iI x) :: rest)) :=
  lv_icmp_eq hx hb hdg ht (fun q => kt ((iI_eq h1 h2).mp q)) (fun q => kf (fun z => q ((iI_eq h1 h2).mpr z)))
theorem i_cmp_ne (hx : p.tables.exec = Jvm.exec) (hb : c.code = cc) {x y : Int} {off : Int} {tgt : Nat} (h1 : inR x) (h2 : inR y) (hdg : decode cc pc = .ok (.if_icmp .ne off, 3)) (ht : (pc : Int) + off = (tgt : Int)) (kt : ¬ x = y → W p l e R s m args below meth c H locs cells slots Q (F0 m tgt ls rest)) (kf : x = y → W p l e R s m args below meth c H locs cells slots Q (F0 m (pc + 3) ls rest)) : W p l e R s m args below meth c H locs cells slots Q (F0 m pc ls (.int (iI y) :: .int (iI x) :: rest)) :=
  lv_icmp_ne hx hb hdg ht (fun q => kt (fun z => q ((iI_eq h1 h2).mpr z))) (fun q => kf ((iI_eq h1 h2).mp q))
theorem i_cmp_lt (hx : p.tables.exec = Jvm.exec) (hb : c.code = cc) {x y : Int} {off : Int} {tgt : Nat} (h1 : inR x) (h2 : inR y) (hdg : decode cc pc = .ok (.if_icmp .lt off, 3)) (ht : (pc : Int) + off = (tgt : Int)) (kt : x < y → W p l e R s m args below meth c H locs cells slots Q (F0 m tgt ls rest)) (kf : ¬ x < y → W p l e R s m args below meth c H locs cells slots Q (F0 m (pc + 3) ls rest)) : W p l e R s m args below meth c H locs cells slots Q (F0 m pc ls (.int (iI y) :: .int (iI x) :: rest)) :=
  lv_icmp_lt hx hb hdg ht (fun q => kt ((iI_lt h1 h2).mp q)) (fun q => kf (fun z => q ((iI_lt h1 h2).mpr z)))
theorem i_cmp_ge (hx : p.tables.exec = Jvm.exec) (hb : c.code = cc) {x y : Int} {off : Int} {tgt : Nat} (h1 : inR x) (h2 : inR y) (hdg : decode cc pc = .ok (.if_icmp .ge off, 3)) (ht : (pc : Int) + off = (tgt : Int)) (kt : y ≤ x → W p l e R s m args below meth c H locs cells slots Q (F0 m tgt ls rest)) (kf : ¬ y ≤ x → W p l e R s m args below meth c H locs cells slots Q (F0 m (pc + 3) ls rest)) : W p l e R s m args below meth c H locs cells slots Q (F0 m pc ls (.int (iI y) :: .int (iI x) :: rest)) :=
  lv_icmp_ge hx hb hdg ht (fun q => kt ((iI_le h2 h1).mp q)) (fun q => kf (fun z => q ((iI_le h2 h1).mpr z)))
theorem i_cmp_gt (hx : p.tables.exec = Jvm.exec) (hb : c.code = cc) {x y : Int} {off : Int} {tgt : Nat} (h1 : inR x) (h2 : inR y) (hdg : decode cc pc = .ok (.if_icmp .gt off, 3)) (ht : (pc : Int) + off = (tgt : Int)) (kt : y < x → W p l e R s m args below meth c H locs cells slots Q (F0 m tgt ls rest)) (kf : ¬ y < x → W p l e R s m args below meth c H locs cells slots Q (F0 m (pc + 3) ls rest)) : W p l e R s m args below meth c H locs cells slots Q (F0 m pc ls (.int (iI y) :: .int (iI x) :: rest)) :=
  lv_icmp_gt hx hb hdg ht (fun q => kt ((iI_lt h2 h1).mp q)) (fun q => kf (fun z => q ((iI_lt h2 h1).mpr z)))
theorem i_cmp_le (hx : p.tables.exec = Jvm.exec) (hb : c.code = cc) {x y : Int} {off : Int} {tgt : Nat} (h1 : inR x) (h2 : inR y) (hdg : decode cc pc = .ok (.if_icmp .le off, 3)) (ht : (pc : Int) + off = (tgt : Int)) (kt : x ≤ y → W p l e R s m args below meth c H locs cells slots Q (F0 m tgt ls rest)) (kf : ¬ x ≤ y → W p l e R s m args below meth c H locs cells slots Q (F0 m (pc + 3) ls rest)) : W p l e R s m args below meth c H locs cells slots Q (F0 m pc ls (.int (iI y) :: .int (iI x) :: rest)) :=
  lv_icmp_le hx hb hdg ht (fun q => kt ((iI_le h1 h2).mp q)) (fun q => kf (fun z => q ((iI_le h1 h2).mpr z)))
theorem i_if_eq (hx : p.tables.exec = Jvm.exec) (hb : c.code = cc) {x : Int} {off : Int} {tgt : Nat} (h1 : inR x) (hdg : decode cc pc = .ok (.ifCond .eq off, 3)) (ht : (pc : Int) + off = (tgt : Int)) (kt : x = 0 → W p l e R s m args below meth c H locs cells slots Q (F0 m tgt ls rest)) (kf : ¬ x = 0 → W p l e R s m args below meth c H locs cells slots Q (F0 m (pc + 3) ls rest)) : W p l e R s m args below meth c H locs cells slots Q (F0 m pc ls (.int (iI x) :: rest)) :=
  lv_if_eq hx hb hdg ht (fun q => kt ((iI_eq h1 (b := 0) (inR_lit rfl)).mp q)) (fun q => kf (fun z => q ((iI_eq h1 (b := 0) (inR_lit rfl)).mpr z)))
theorem i_if_ne (hx : p.tables.exec = Jvm.exec) (hb : c.code = cc) {x : Int} {off : Int} {tgt : Nat} (h1 : inR x) (hdg : decode cc pc = .ok (.ifCond .ne off, 3)) (ht : (pc : Int) + off = (tgt : Int)) (kt : ¬ x = 0 → W p l e R s m args below meth c H locs cells slots Q (F0 m tgt ls rest)) (kf : x = 0 → W p l e R s m args below meth c H locs cells slots Q (F0 m (pc + 3) ls rest)) : W p l e R s m args below meth c H locs cells slots Q (F0 m pc ls (.int (iI x) :: rest)) :=
  lv_if_ne hx hb hdg ht (fun q => kt (fun z => q ((iI_eq h1 (b := 0) (inR_lit rfl)).mpr z))) (fun q => kf ((iI_eq h1 (b := 0) (inR_lit rfl)).mp q))
theorem i_if_lt (hx : p.tables.exec = Jvm.exec) (hb : c.code = cc) {x : Int} {off : Int} {tgt : Nat} (h1 : inR x) (hdg : decode cc pc = .ok (.ifCond .lt off, 3)) (ht : (pc : Int) + off = (tgt : Int)) (kt : x < 0 → W p l e R s m args below meth c H locs cells slots Q (F0 m tgt ls rest)) (kf : ¬ x < 0 → W p l e R s m args below meth c H locs cells slots Q (F0 m (pc + 3) ls rest)) : W p l e R s m args below meth c H locs cells slots Q (F0 m pc ls (.int (iI x) :: rest)) :=
  lv_if_lt hx hb hdg ht (fun q => kt ((iI_lt h1 (b := 0) (inR_lit rfl)).mp q)) (fun q => kf (fun z => q ((iI_lt h1 (b := 0) (inR_lit rfl)).mpr z)))
theorem i_if_ge (hx : p.tables.exec = Jvm.exec) (hb : c.code = cc) {x : Int} {off : Int} {tgt : Nat} (h1 : inR x) (hdg : decode cc pc = .ok (.ifCond .ge off, 3)) (ht : (pc : Int) + off = (tgt : Int)) (kt : 0 ≤ x → W p l e R s m args below meth c H locs cells slots Q (F0 m tgt ls rest)) (kf : ¬ 0 ≤ x → W p l e R s m args below meth c H locs cells slots Q (F0 m (pc + 3) ls rest)) : W p l e R s m args below meth c H locs cells slots Q (F0 m pc ls (.int (iI x) :: rest)) :=
  lv_if_ge hx hb hdg ht (fun q => kt ((iI_le (a := 0) (inR_lit rfl) h1).mp q)) (fun q => kf (fun z => q ((iI_le (a := 0) (inR_lit rfl) h1).mpr z)))
theorem i_if_gt (hx : p.tables.exec = Jvm.exec) (hb : c.code = cc) {x : Int} {off : Int} {tgt : Nat} (h1 : inR x) (hdg : decode cc pc = .ok (.ifCond .gt off, 3)) (ht : (pc : Int) + off = (tgt : Int)) (kt : 0 < x → W p l e R s m args below meth c H locs cells slots Q (F0 m tgt ls rest)) (kf : ¬ 0 < x → W p l e R s m args below meth c H locs cells slots Q (F0 m (pc + 3) ls rest)) : W p l e R s m args below meth c H locs cells slots Q (F0 m pc ls (.int (iI x) :: rest)) :=
  lv_if_gt hx hb hdg ht (fun q => kt ((iI_lt (a := 0) (inR_lit rfl) h1).mp q)) (fun q => kf (fun z => q ((iI_lt (a := 0) (inR_lit rfl) h1).mpr z)))
theorem i_if_le (hx : p.tables.exec = Jvm.exec) (hb : c.code = cc) {x : Int} {off : Int} {tgt : Nat} (h1 : inR x) (hdg : decode cc pc = .ok (.ifCond .le off, 3)) (ht : (pc : Int) + off = (tgt : Int)) (kt : x ≤ 0 → W p l e R s m args below meth c H locs cells slots Q (F0 m tgt ls rest)) (kf : ¬ x ≤ 0 → W p l e R s m args below meth c H locs cells slots Q (F0 m (pc + 3) ls rest)) : W p l e R s m args below meth c H locs cells slots Q (F0 m pc ls (.int (iI x) :: rest)) :=
  lv_if_le hx hb hdg ht (fun q => kt ((iI_le h1 (b := 0) (inR_lit rfl)).mp q)) (fun q => kf (fun z => q ((iI_le h1 (b := 0) (inR_lit rfl)).mpr z)))
theorem i_ald (hx : p.tables.exec = Jvm.exec) (hb : c.code = cc) (hK : va_K D cl tys s) (hP : va_P D cl ws H) (q0 t0 : Nat) {cA : ClassId} {n : Nat} {f : Nat → Int} (ha : ws[q0]? = some (a, .inl (cA, n, .inl (aI f)))) (ht : tys[t0]? = some (cA, .int)) {i N : Int} (h0 : 0 ≤ i) (h1 : i < N) (hN : N = (n : Int)) (hn : n ≤ 2147483647) (hdg : decode cc pc = .ok (.iaload, 1))
    (kk : W p l e R s m args below meth c H locs cells slots Q (F0 m (pc + 1) ls (.int (iI (f i.toNat)) :: rest))) : W p l e R s m args below meth c H locs cells slots Q (F0 m pc ls (.int (iI i) :: .ref a :: rest)) :=
  va_iald hx hb hK hP q0 t0 ha ht (iI_in h0 (hN ▸ h1) hn) hdg (by rw [iI_cl h0 (by omega)]; exact kk)
theorem i_zld (hx : p.tables.exec = Jvm.exec) (hb : c.code = cc) (hK : va_K D cl tys s) (hP : va_P D cl ws H) (q0 t0 : Nat) {cA : ClassId} {n : Nat} {f : Nat → Int} (ha : ws[q0]? = some (a, .inl (cA, n, .inl (aI f)))) (ht : tys[t0]? = some (cA, .boolean)) {i N : Int} (h0 : 0 ≤ i) (h1 : i < N) (hN : N = (n : Int)) (hn : n ≤ 2147483647) (hdg : decode cc pc = .ok (.baload, 1))
    (kk : W p l e R s m args below meth c H locs cells slots Q (F0 m (pc + 1) ls (.int (iI (f i.toNat)) :: rest))) : W p l e R s m args below meth c H locs cells slots Q (F0 m pc ls (.int (iI i) :: .ref a :: rest)) :=
  va_zald hx hb hK hP q0 t0 ha ht (iI_in h0 (hN ▸ h1) hn) hdg (by rw [iI_cl h0 (by omega)]; exact kk)
theorem i_ast (hx : p.tables.exec = Jvm.exec) (hb : c.code = cc) (hK : va_K D cl tys s) (hP : va_P D cl ws H) (hD : va_D A ws) (hS : va_S A H0 H locs) (q0 t0 : Nat) {cA : ClassId} {n : Nat} {f : Nat → Int} (ha : ws[q0]? = some (a, .inl (cA, n, .inl (aI f)))) (ht : tys[t0]? = some (cA, .int)) {i x N : Int} (h0 : 0 ≤ i) (h1 : i < N) (hN : N = (n : Int)) (hn : n ≤ 2147483647) (hdg : decode cc pc = .ok (.iastore, 1))
    (kk : ∀ (H1 : Heap) (locs1 : List Loc), va_P D cl (ws.set q0 (a, .inl (cA, n, .inl (aI (updI f i.toNat x))))) H1 → va_D A (ws.set q0 (a, .inl (cA, n, .inl (aI (updI f i.toNat x))))) → va_S A H0 H1 locs1 → W p l e R s m args below meth c H1 locs1 cells slots Q (F0 m (pc + 1) ls rest)) : W p l e R s m args below meth c H locs cells slots Q (F0 m pc ls (.int (iI x) :: .int (iI i) :: .ref a :: rest)) :=
  va_iast hx hb hK hP hD hS q0 t0 ha ht (iI_in h0 (hN ▸ h1) hn) hdg (by rw [iI_cl h0 (by omega), aI_upd]; exact kk)
theorem i_zst (hx : p.tables.exec = Jvm.exec) (hb : c.code = cc) (hK : va_K D cl tys s) (hP : va_P D cl ws H) (hD : va_D A ws) (hS : va_S A H0 H locs) (q0 t0 : Nat) {cA : ClassId} {n : Nat} {f : Nat → Int} (ha : ws[q0]? = some (a, .inl (cA, n, .inl (aI f)))) (ht : tys[t0]? = some (cA, .boolean)) {i x N : Int} (h0 : 0 ≤ i) (h1 : i < N) (hN : N = (n : Int)) (hv : x = 0 ∨ x = 1) (hn : n ≤ 2147483647) (hdg : decode cc pc = .ok (.bastore, 1))
    (kk : ∀ (H1 : Heap) (locs1 : List Loc), va_P D cl (ws.set q0 (a, .inl (cA, n, .inl (aI (updI f i.toNat x))))) H1 → va_D A (ws.set q0 (a, .inl (cA, n, .inl (aI (updI f i.toNat x))))) → va_S A H0 H1 locs1 → W p l e R s m args below meth c H1 locs1 cells slots Q (F0 m (pc + 1) ls rest)) : W p l e R s m args below meth c H locs cells slots Q (F0 m pc ls (.int (iI x) :: .int (iI i) :: .ref a :: rest)) :=
  va_zast hx hb hK hP hD hS q0 t0 ha ht (iI_in h0 (hN ▸ h1) hn) hdg (by rw [iI_cl h0 (by omega), nar_bool hv, aI_upd]; exact kk)
theorem i_tsw (hx : p.tables.exec = Jvm.exec) (hb : c.code = cc) {dflt lo hi : Int} {offs : Array Int} {len : Nat} {x : Int} {off : Int} {tgt : Nat} {v : Int} (h0 : inR x) (hv : x = v) (hdg : decode cc pc = .ok (.tableswitch dflt lo hi offs, len)) (h1 : (decide (lo ≤ v) && decide (v ≤ hi)) = true) (ho : offs[(v - lo).toNat]? = some off) (ht : (pc : Int) + off = (tgt : Int))
    (k : W p l e R s m args below meth c H locs cells slots Q (F0 m tgt ls rest)) : W p l e R s m args below meth c H locs cells slots Q (F0 m pc ls (.int (iI x) :: rest)) := by
  rw [Bool.and_eq_true, decide_eq_true_eq, decide_eq_true_eq] at h1
  subst hv
  exact lv_tableIn hx hb hdg (by rw [iI_toInt h0]; omega) (by rw [iI_toInt h0]; omega) (by rw [iI_toInt h0]; exact ho) ht k
theorem i_tsd (hx : p.tables.exec = Jvm.exec) (hb : c.code = cc) {dflt lo hi : Int} {offs : Array Int} {len : Nat} {x : Int} {tgt : Nat} (h0 : inR x) (hv : x < lo ∨ hi < x) (hdg : decode cc pc = .ok (.tableswitch dflt lo hi offs, len)) (ht : (pc : Int) + dflt = (tgt : Int))
    (k : W p l e R s m args below meth c H locs cells slots Q (F0 m tgt ls rest)) : W p l e R s m args below meth c H locs cells slots Q (F0 m pc ls (.int (iI x) :: rest)) :=
  lv_tableOut hx hb hdg (by rw [iI_toInt h0]; exact hv) ht k
theorem i_tld (hx : p.tables.exec = Jvm.exec) (hb : c.code = cc) {t n : Nat} {f : Nat → Int} (hT : va_T .int t n (fun j => .int (iI (f j))) A s s.heap) (hS : va_S A s.heap H locs) {i N : Int} (h0 : 0 ≤ i) (h1 : i < N) (hN : N = (n : Int)) (hn : n ≤ 2147483647) (hdg : decode cc pc = .ok (.iaload, 1))
    (kk : W p l e R s m args below meth c H locs cells slots Q (F0 m (pc + 1) ls (.int (iI (f i.toNat)) :: rest))) : W p l e R s m args below meth c H locs cells slots Q (F0 m pc ls (.int (iI i) :: .ref t :: rest)) :=
  va_ti hx hb hT hS (iI_in h0 (hN ▸ h1) hn) rfl hdg (by rw [iI_cl h0 (by omega)]; exact kk)
theorem va_P_ext {q0 : Nat} {b : Nat} {cA : ClassId} {n : Nat} {f g : Nat → Int32} (hfg : ∀ j, j < n → f j = g j) (h : va_P D cl (ws.set q0 (b, .inl (cA, n, .inl f))) H) : va_P D cl (ws.set q0 (b, .inl (cA, n, .inl g))) H := by
  have e : vp_cell cA (n, .inl f) = vp_cell cA (n, .inl g) := by
    rw [vp_cell_i, vp_cell_i]
    have h2 : (Array.ofFn (n := n) fun j => Value.int (f j.val)) = Array.ofFn (n := n) fun j => Value.int (g j.val) := by
      congr 1
      funext j
      rw [hfg j.val j.isLt]
    show ({ cls := cA, slots := Array.ofFn (n := n) fun j => Value.int (f j.val), vm := .none } : Cell) = { cls := cA, slots := Array.ofFn (n := n) fun j => Value.int (g j.val), vm := .none }
    rw [h2]
  intro k q hk
  by_cases hkp : q0 = k
  · subst hkp
    by_cases hl : q0 < ws.length
    · rw [List.getElem?_set_self hl] at hk
      cases hk
      have h3 := h q0 (b, .inl (cA, n, .inl f)) (List.getElem?_set_self hl)
      show H[b]? = some (vp_cell cA (n, .inl g))
      rw [← e]
      exact h3
    · rw [List.getElem?_eq_none (by rw [List.length_set]; omega)] at hk
      cases hk
  · rw [List.getElem?_set_ne hkp] at hk
    exact h k q (by rw [List.getElem?_set_ne hkp]; exact hk)
theorem va_D_ext {q0 : Nat} {b : Nat} {e1 e2 : va_E} (h : va_D A (ws.set q0 (b, e1))) : va_D A (ws.set q0 (b, e2)) := by
  by_cases hl : q0 < ws.length
  · have h1 := h.set (p := q0) (a := b) (e0 := e1) (e := e2) (List.getElem?_set_self hl)
    rw [List.set_set] at h1
    exact h1
  · rw [List.set_eq_of_length_le (by omega)] at h ⊢
    exact h
theorem i_cpyI {a0 : Nat} {c0 : ClassId} {n0 n1 : Nat} {f g : Nat → Int} {own : String} {index : Nat} (hx : p.tables.exec = Jvm.exec) (hb : c.code = cc) (hml : c.maxLocals = ls.size) (hown : s.vm.findClass own = some m.cls) (hlink : (Cond.methodLink own index arraycopyName).before args s = true) (hnat : (Cond.native arraycopyName).before args s = true) (hstat : (Cond.static arraycopyName).before args s = true) (hini : (Cond.initialized "java/lang/System").before args s = true)
    (hK : va_K D cl tys s) (hP : va_P D cl ws H) (hD : va_D A ws) (hS : va_S A H0 H locs) (q0 q1 t0 : Nat) (ha0 : ws[q0]? = some (a0, .inl (c0, n0, .inl (aI f)))) (ha1 : ws[q1]? = some (a, .inl (c0, n1, .inl (aI g)))) (ht : tys[t0]? = some (c0, .int)) {sp dp n N0 N1 : Int} (h1 : 0 ≤ sp) (h2 : 0 ≤ dp) (h3 : 0 ≤ n) (h4 : sp + n ≤ N0) (h5 : dp + n ≤ N1) (hN0 : N0 = (n0 : Int)) (hN1 : N1 = (n1 : Int)) (b0 : n0 ≤ 2147483647) (b1 : n1 ≤ 2147483647)
    (hframes : 1 ≤ R.frames) (hlocals : (rest.map fun v => v.category).sum + (nativeFrameWords "java/lang/System" "arraycopy" 5 + 11) ≤ R.locals) (hdg : decode cc pc = .ok (.invokestatic index, 3))
    (kk : ∀ (H1 : Heap) (locs1 : List Loc), va_P D cl (ws.set q1 (a, .inl (c0, n1, .inl (aI (cpyI f g sp.toNat dp.toNat n.toNat))))) H1 → va_D A (ws.set q1 (a, .inl (c0, n1, .inl (aI (cpyI f g sp.toNat dp.toNat n.toNat))))) → va_S A H0 H1 locs1 → W p l e R s m args below meth c H1 locs1 cells slots Q (F0 m (pc + 3) ls rest)) : W p l e R s m args below meth c H locs cells slots Q (F0 m pc ls (.int (iI n) :: .int (iI dp) :: .ref a :: .int (iI sp) :: .ref a0 :: rest)) := by
  have r1 : inR sp := ⟨by omega, by omega⟩
  have r2 : inR dp := ⟨by omega, by omega⟩
  have r3 : inR n := ⟨by omega, by omega⟩
  have z : inR 0 := inR_lit rfl
  have e1 := iI_cl h1 r1.2
  have e2 := iI_cl h2 r2.2
  have e3 := iI_cl h3 r3.2
  refine va_copyi hx hb hml hown hlink hnat hstat hini hK hP hD hS q0 q1 t0 t0 ha0 ha1 ht ht rfl (fun q => ?_) (fun q => ?_) (fun q => ?_) (by rw [e1, e3]; omega) (by rw [e2, e3]; omega) (fun _ _ => rfl) hframes hlocals hdg (by rw [e1, e2, e3, aI_cpy]; exact kk)
  · have := (iI_lt r1 z).mp q; omega
  · have := (iI_lt r2 z).mp q; omega
  · have := (iI_lt r3 z).mp q; omega
theorem i_cpyZ {a0 : Nat} {c0 : ClassId} {n0 n1 : Nat} {f g : Nat → Int} {own : String} {index : Nat} (hx : p.tables.exec = Jvm.exec) (hb : c.code = cc) (hml : c.maxLocals = ls.size) (hown : s.vm.findClass own = some m.cls) (hlink : (Cond.methodLink own index arraycopyName).before args s = true) (hnat : (Cond.native arraycopyName).before args s = true) (hstat : (Cond.static arraycopyName).before args s = true) (hini : (Cond.initialized "java/lang/System").before args s = true)
    (hK : va_K D cl tys s) (hP : va_P D cl ws H) (hD : va_D A ws) (hS : va_S A H0 H locs) (q0 q1 t0 : Nat) (ha0 : ws[q0]? = some (a0, .inl (c0, n0, .inl (aI f)))) (ha1 : ws[q1]? = some (a, .inl (c0, n1, .inl (aI g)))) (ht : tys[t0]? = some (c0, .boolean)) {sp dp n N0 N1 : Int} (h1 : 0 ≤ sp) (h2 : 0 ≤ dp) (h3 : 0 ≤ n) (h4 : sp + n ≤ N0) (h5 : dp + n ≤ N1) (hN0 : N0 = (n0 : Int)) (hN1 : N1 = (n1 : Int)) (hz : ∀ i : Nat, i < n.toNat → (f (sp.toNat + i) = 0 ∨ f (sp.toNat + i) = 1)) (b0 : n0 ≤ 2147483647) (b1 : n1 ≤ 2147483647)
    (hframes : 1 ≤ R.frames) (hlocals : (rest.map fun v => v.category).sum + (nativeFrameWords "java/lang/System" "arraycopy" 5 + 11) ≤ R.locals) (hdg : decode cc pc = .ok (.invokestatic index, 3))
    (kk : ∀ (H1 : Heap) (locs1 : List Loc), va_P D cl (ws.set q1 (a, .inl (c0, n1, .inl (aI (cpyI f g sp.toNat dp.toNat n.toNat))))) H1 → va_D A (ws.set q1 (a, .inl (c0, n1, .inl (aI (cpyI f g sp.toNat dp.toNat n.toNat))))) → va_S A H0 H1 locs1 → W p l e R s m args below meth c H1 locs1 cells slots Q (F0 m (pc + 3) ls rest)) : W p l e R s m args below meth c H locs cells slots Q (F0 m pc ls (.int (iI n) :: .int (iI dp) :: .ref a :: .int (iI sp) :: .ref a0 :: rest)) := by
  have r1 : inR sp := ⟨by omega, by omega⟩
  have r2 : inR dp := ⟨by omega, by omega⟩
  have r3 : inR n := ⟨by omega, by omega⟩
  have z : inR 0 := inR_lit rfl
  have e1 := iI_cl h1 r1.2
  have e2 := iI_cl h2 r2.2
  have e3 := iI_cl h3 r3.2
  refine va_copyi hx hb hml hown hlink hnat hstat hini hK hP hD hS q0 q1 t0 t0 ha0 ha1 ht ht rfl (fun q => ?_) (fun q => ?_) (fun q => ?_) (by rw [e1, e3]; omega) (by rw [e2, e3]; omega) (fun i hi => ?_) hframes hlocals hdg (by rw [e1, e2, e3, aI_cpy]; exact kk)
  · have := (iI_lt r1 z).mp q; omega
  · have := (iI_lt r2 z).mp q; omega
  · have := (iI_lt r3 z).mp q; omega
  · rw [e3] at hi
    rw [e1]
    show fits .boolean (.int (iI (f (sp.toNat + i)))) = true
    rcases hz i hi with q | q <;> rw [q] <;> decide +kernel
theorem i_cpyIF {a0 : Nat} {c0 : ClassId} {n0 n1 : Nat} {f g : Nat → Int} {own : String} {index : Nat} (hx : p.tables.exec = Jvm.exec) (hb : c.code = cc) (hml : c.maxLocals = ls.size) (hown : s.vm.findClass own = some m.cls) (hlink : (Cond.methodLink own index arraycopyName).before args s = true) (hnat : (Cond.native arraycopyName).before args s = true) (hstat : (Cond.static arraycopyName).before args s = true) (hini : (Cond.initialized "java/lang/System").before args s = true)
    (hK : va_K D cl tys s) (hP : va_P D cl ws H) (hD : va_D A ws) (hS : va_S A H0 H locs) (q0 q1 t0 : Nat) (ha0 : ws[q0]? = some (a0, .inl (c0, n0, .inl (aI f)))) (ha1 : ws[q1]? = some (a, .inl (c0, n1, .inl (aI g)))) (ht : tys[t0]? = some (c0, .int)) {n N0 N1 : Int} (h1 : (0 : Int) ≤ 0) (h2 : (0 : Int) ≤ 0) (h3 : 0 ≤ n) (h4 : 0 + n ≤ N0) (h5 : 0 + n ≤ N1) (hN0 : N0 = (n0 : Int)) (hN1 : N1 = (n1 : Int)) (b0 : n0 ≤ 2147483647) (b1 : n1 ≤ 2147483647)
    (hframes : 1 ≤ R.frames) (hlocals : (rest.map fun v => v.category).sum + (nativeFrameWords "java/lang/System" "arraycopy" 5 + 11) ≤ R.locals) (hdg : decode cc pc = .ok (.invokestatic index, 3)) (hfull : n = (n1 : Int))
    (kk : ∀ (H1 : Heap) (locs1 : List Loc), va_P D cl (ws.set q1 (a, .inl (c0, n1, .inl (aI f)))) H1 → va_D A (ws.set q1 (a, .inl (c0, n1, .inl (aI f)))) → va_S A H0 H1 locs1 → W p l e R s m args below meth c H1 locs1 cells slots Q (F0 m (pc + 3) ls rest)) : W p l e R s m args below meth c H locs cells slots Q (F0 m pc ls (.int (iI n) :: .int (iI 0) :: .ref a :: .int (iI 0) :: .ref a0 :: rest)) := by
  refine i_cpyI hx hb hml hown hlink hnat hstat hini hK hP hD hS q0 q1 t0 ha0 ha1 ht h1 h2 h3 h4 h5 hN0 hN1 b0 b1 hframes hlocals hdg (fun H1 locs1 hP1 hD1 hS1 => kk H1 locs1 (va_P_ext (fun j hj => ?_) hP1) (va_D_ext hD1) hS1)
  show iI (cpyI f g _ _ _ j) = iI (f j)
  unfold cpyI
  rw [if_pos ⟨Nat.zero_le _, by omega⟩]
  simp
theorem i_cpyZF {a0 : Nat} {c0 : ClassId} {n0 n1 : Nat} {f g : Nat → Int} {own : String} {index : Nat} (hx : p.tables.exec = Jvm.exec) (hb : c.code = cc) (hml : c.maxLocals = ls.size) (hown : s.vm.findClass own = some m.cls) (hlink : (Cond.methodLink own index arraycopyName).before args s = true) (hnat : (Cond.native arraycopyName).before args s = true) (hstat : (Cond.static arraycopyName).before args s = true) (hini : (Cond.initialized "java/lang/System").before args s = true)
    (hK : va_K D cl tys s) (hP : va_P D cl ws H) (hD : va_D A ws) (hS : va_S A H0 H locs) (q0 q1 t0 : Nat) (ha0 : ws[q0]? = some (a0, .inl (c0, n0, .inl (aI f)))) (ha1 : ws[q1]? = some (a, .inl (c0, n1, .inl (aI g)))) (ht : tys[t0]? = some (c0, .boolean)) {n N0 N1 : Int} (h1 : (0 : Int) ≤ 0) (h2 : (0 : Int) ≤ 0) (h3 : 0 ≤ n) (h4 : 0 + n ≤ N0) (h5 : 0 + n ≤ N1) (hN0 : N0 = (n0 : Int)) (hN1 : N1 = (n1 : Int)) (hz : ∀ i : Nat, i < n.toNat → (f (0 + i) = 0 ∨ f (0 + i) = 1)) (b0 : n0 ≤ 2147483647) (b1 : n1 ≤ 2147483647)
    (hframes : 1 ≤ R.frames) (hlocals : (rest.map fun v => v.category).sum + (nativeFrameWords "java/lang/System" "arraycopy" 5 + 11) ≤ R.locals) (hdg : decode cc pc = .ok (.invokestatic index, 3)) (hfull : n = (n1 : Int))
    (kk : ∀ (H1 : Heap) (locs1 : List Loc), va_P D cl (ws.set q1 (a, .inl (c0, n1, .inl (aI f)))) H1 → va_D A (ws.set q1 (a, .inl (c0, n1, .inl (aI f)))) → va_S A H0 H1 locs1 → W p l e R s m args below meth c H1 locs1 cells slots Q (F0 m (pc + 3) ls rest)) : W p l e R s m args below meth c H locs cells slots Q (F0 m pc ls (.int (iI n) :: .int (iI 0) :: .ref a :: .int (iI 0) :: .ref a0 :: rest)) := by
  refine i_cpyZ hx hb hml hown hlink hnat hstat hini hK hP hD hS q0 q1 t0 ha0 ha1 ht h1 h2 h3 h4 h5 hN0 hN1 hz b0 b1 hframes hlocals hdg (fun H1 locs1 hP1 hD1 hS1 => kk H1 locs1 (va_P_ext (fun j hj => ?_) hP1) (va_D_ext hD1) hS1)
  show iI (cpyI f g _ _ _ j) = iI (f j)
  unfold cpyI
  rw [if_pos ⟨Nat.zero_le _, by omega⟩]
  simp
end IRow
