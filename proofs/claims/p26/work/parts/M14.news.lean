/-! New arrays and objects: their class ids are the ones the world knows. -/
section Nw
variable {p : Program} {l : Launch} {e : Env} {R : Room} {s : State} {m : MethodId} {args : Array Value} {below : List Frame} {meth : Method} {c : Code} {H : Heap} {locs : List Loc} {cells slots : Nat} {Q : State → Prop}
variable {cc : ByteArray} {pc : Nat} {ls : Array Slot} {rest : List Value} {A : Nat → Prop} {a : Nat} {X : XD} {ws : va_W} {H0 : Heap}
theorem nw_i (hx : p.tables.exec = Jvm.exec) (hb : c.code = cc) (harr : (Cond.arrayClass .int).before args s = true) (hK : va_K X.1 vwCl (tyL X) s) (hP : va_P X.1 vwCl ws H) (hD : va_D A ws) (hS : va_S A H0 H locs) (hA : ∀ q, H0.size ≤ q → A q)
    {n : Int32} {N : Nat} (hn : ¬ n < 0) (hN : n.toNatClampNeg = N) (hbytes : N * 4 ≤ 536870912) (hcells : cells + 1 ≤ R.cells) (hslots : slots + N ≤ R.slots) (hdg : decode cc pc = .ok (.newarray .int, 2))
    (kk : ∀ (q : Nat) (H1 : Heap), va_P X.1 vwCl (ws ++ [(q, eI X N (fun _ => 0))]) H1 → va_D A (ws ++ [(q, eI X N (fun _ => 0))]) → va_S A H0 H1 locs →
      W p l e R s m args below meth c H1 locs (cells + 1) (slots + N) Q (F0 m (pc + 2) ls (.ref q :: rest))) : W p l e R s m args below meth c H locs cells slots Q (F0 m pc ls (.int n :: rest)) :=
  va_newa (atype := .int) hx hb harr (ty := .int) rfl hK hP hD hS hA (a0 := (N, .inl (aI (fun _ => 0)))) (fun cA => rfl) hn hN hbytes hcells hslots hdg (fun q cA H1 k1 k2 k3 k4 => by
    have h1 : s.vm.findClass ("[" ++ FieldType.int.toString) = some cA := (k1.2 3 _ rfl).2
    have h2 : s.vm.findClass ("[" ++ FieldType.int.toString) = some X.2.1 := (hK.2 0 _ rfl).2
    have e1 : cA = X.2.1 := Option.some.inj (h1.symm.trans h2)
    subst e1
    exact kk q H1 k2 k3 k4)
theorem nw_z (hx : p.tables.exec = Jvm.exec) (hb : c.code = cc) (harr : (Cond.arrayClass .boolean).before args s = true) (hK : va_K X.1 vwCl (tyL X) s) (hP : va_P X.1 vwCl ws H) (hD : va_D A ws) (hS : va_S A H0 H locs) (hA : ∀ q, H0.size ≤ q → A q)
    {n : Int32} {N : Nat} (hn : ¬ n < 0) (hN : n.toNatClampNeg = N) (hbytes : N * 4 ≤ 536870912) (hcells : cells + 1 ≤ R.cells) (hslots : slots + N ≤ R.slots) (hdg : decode cc pc = .ok (.newarray .boolean, 2))
    (kk : ∀ (q : Nat) (H1 : Heap), va_P X.1 vwCl (ws ++ [(q, eZ X N (fun _ => 0))]) H1 → va_D A (ws ++ [(q, eZ X N (fun _ => 0))]) → va_S A H0 H1 locs →
      W p l e R s m args below meth c H1 locs (cells + 1) (slots + N) Q (F0 m (pc + 2) ls (.ref q :: rest))) : W p l e R s m args below meth c H locs cells slots Q (F0 m pc ls (.int n :: rest)) :=
  va_newa (atype := .boolean) hx hb harr (ty := .boolean) rfl hK hP hD hS hA (a0 := (N, .inl (aI (fun _ => 0)))) (fun cA => rfl) hn hN (by show N * 1 ≤ _; omega) hcells hslots hdg (fun q cA H1 k1 k2 k3 k4 => by
    have h1 : s.vm.findClass ("[" ++ FieldType.boolean.toString) = some cA := (k1.2 3 _ rfl).2
    have h2 : s.vm.findClass ("[" ++ FieldType.boolean.toString) = some X.2.2.1 := (hK.2 1 _ rfl).2
    have e1 : cA = X.2.2.1 := Option.some.inj (h1.symm.trans h2)
    subst e1
    exact kk q H1 k2 k3 k4)
theorem nw_q (hx : p.tables.exec = Jvm.exec) (hb : c.code = cc) {own : String} {index : Nat} (hown : s.vm.findClass own = some m.cls) (hclink : (Cond.classLink own index "LentMargins$Script").before args s = true) (hover : va_AO "LentMargins$Script" s) (hK : va_K X.1 vwCl (tyL X) s) (hP : va_P X.1 vwCl ws H) (hD : va_D A ws) (hS : va_S A H0 H locs) (hA : ∀ q, H0.size ≤ q → A q)
    {n : Int32} {N : Nat} (hn : ¬ n < 0) (hN : n.toNatClampNeg = N) (hbytes : N * 4 ≤ 536870912) (hcells : cells + 1 ≤ R.cells) (hslots : slots + N ≤ R.slots) (hdg : decode cc pc = .ok (.anewarray index, 3))
    (kk : ∀ (q : Nat) (H1 : Heap), va_P X.1 vwCl (ws ++ [(q, eO X N (fun _ => none))]) H1 → va_D A (ws ++ [(q, eO X N (fun _ => none))]) → va_S A H0 H1 locs →
      W p l e R s m args below meth c H1 locs (cells + 1) (slots + N) Q (F0 m (pc + 3) ls (.ref q :: rest))) : W p l e R s m args below meth c H locs cells slots Q (F0 m pc ls (.int n :: rest)) :=
  va_newq hx hb hown hclink hover hK hP hD hS hA hn hN hbytes hcells hslots hdg (fun q cA H1 k1 k2 k3 k4 => by
    obtain ⟨kA, comp, -, -, -, h1⟩ := (k1.2 3 _ rfl).2
    obtain ⟨kB, comp2, -, -, -, h2⟩ := (hK.2 2 _ rfl).2
    have e1 : cA = X.2.2.2 := Option.some.inj (h1.symm.trans h2)
    subst e1
    exact kk q H1 k2 k3 k4)
/-- the clone of a static array of numbers -/
theorem nw_clone (hx : p.tables.exec = Jvm.exec) (hb : c.code = cc) (hml : c.maxLocals = ls.size) {own : String} {index : Nat} (hown : s.vm.findClass own = some m.cls)
    (hlink : (Cond.methodLink own index ⟨"[I", "clone", "()Ljava/lang/Object;"⟩).before args s = true) (hsame : (Cond.sameMethod "[I" "java/lang/Object" "clone" "()Ljava/lang/Object;").before args s = true)
    (hnat : (Cond.native ⟨"java/lang/Object", "clone", "()Ljava/lang/Object;"⟩).before args s = true) (hinst : (Cond.instanceMethod ⟨"java/lang/Object", "clone", "()Ljava/lang/Object;"⟩).before args s = true)
    (hsel : (Cond.selects "[I" ⟨"[I", "clone", "()Ljava/lang/Object;"⟩ ⟨"java/lang/Object", "clone", "()Ljava/lang/Object;"⟩).before args s = true) (hcl : va_Nw (.castable "[I" "java/lang/Cloneable") s)
    (hK : va_K X.1 vwCl (tyL X) s) (hP : va_P X.1 vwCl ws H) (hD : va_D A ws) (hS : va_S A s.heap H locs) (hA : ∀ q, s.heap.size ≤ q → A q) {t N : Nat} {f : Nat → Int} (h1 : va_T .int t N (fun j => .int (iI (f j))) A s s.heap) (h2 : ∃ cell : Cell, s.heap[t]? = some cell ∧ cell.slots.size = N ∧ s.vm.findClass "[I" = some cell.cls)
    (hframes : 1 ≤ R.frames) (hlocals : (rest.map fun v => v.category).sum + 14 ≤ R.locals) (hcells : cells + 1 ≤ R.cells) (hslots : slots + N ≤ R.slots) (hdg : decode cc pc = .ok (.invokevirtual index, 3))
    (kk : ∀ (q : Nat) (H1 : Heap), va_P X.1 vwCl (ws ++ [(q, eI X N f)]) H1 → va_D A (ws ++ [(q, eI X N f)]) → va_S A s.heap H1 locs →
      W p l e R s m args below meth c H1 locs (cells + 1) (slots + N) Q (F0 m (pc + 3) ls (.ref q :: rest))) : W p l e R s m args below meth c H locs cells slots Q (F0 m pc ls (.ref t :: rest)) := by
  obtain ⟨cell, g1, g2, g3, g4, g5, g6, g7⟩ := h1
  obtain ⟨cell', k1, k2, k3⟩ := h2
  cases g1.symm.trans k1
  have n2 : s.vm.findClass ("[" ++ FieldType.int.toString) = some X.2.1 := (hK.2 0 _ rfl).2
  have ecls : cell.cls = X.2.1 := Option.some.inj (k3.symm.trans n2)
  have hHt : H[t]? = some cell := (hS.2.1 t (Array.getElem?_eq_some_iff.mp g1).1 g7).trans g1
  have hcellE : ({ cls := cell.cls, slots := cell.slots } : Cell) = arrV X.2.1 N (fun j => .int (aI f j)) := by
    have es : cell.slots = (arrV X.2.1 N (fun j => .int (aI f j))).slots := by
      apply Array.ext
      · rw [arrV_size]; exact k2
      · intro j j1 j2
        have hj : j < N := by rw [← k2]; exact j1
        have a1 := g6 j hj
        have a2 := arrV_read X.2.1 (fun j => .int (aI f j)) hj
        rw [Array.getElem?_eq_getElem j1] at a1
        rw [Array.getElem?_eq_getElem j2] at a2
        exact Option.some.inj (a1.trans a2.symm)
    rw [ecls, es]
    rfl
  obtain ⟨c0, t0', f1, f2, f3⟩ := Cond.castable_spec (va_Nw.use (A := args) rfl hcl)
  cases k3.symm.trans f1
  intro T hT XX
  have hcellT : T.heap[t]? = some cell := by rw [hT]; exact hHt
  obtain ⟨hobj, kA, hkA, comp, hkind⟩ := State.isArrayOf_alike XX.warmed.alike g2
  obtain ⟨-, kS, hkS, compS, hkindS⟩ := g2
  obtain ⟨vm', X', st⟩ := XX.cloneArray hx hown hlink hsame hnat hinst hsel (a := t) (cell := cell) hcellT hobj g3 k3 f2 f3
    (fun i v hv => by
      have hi : i < N := by
        rw [← k2]
        exact (Array.getElem?_eq_some_iff.mp hv).1
      have hv2 := (g6 i hi).symm.trans hv
      cases hv2
      simp [State.fitsSlot, State.slotType?, hkA, hkind, fits])
    (g := F0 m pc ls (.ref t :: rest)) rfl (by rw [hml]) rfl (by rw [hb]; exact hdg) hframes (by show 2 * 0 + _ + 14 ≤ _; omega) hcells (by rw [k2]; exact hslots) (hloader := Vm.clonesLoader_of_array hkS hkindS)
  rw [hcellE, k2] at X'
  generalize hH1 : H.push (arrV X.2.1 N (fun j => .int (aI f j))) = H1
  have z1 : H1.size = H.size + 1 := by rw [← hH1, Array.size_push]
  have e1 : H1[H.size]? = some (arrV X.2.1 N (fun j => .int (aI f j))) := by rw [← hH1, Array.getElem?_push_size]
  have o1 : ∀ q : Nat, q < H.size → H1[q]? = H[q]? := fun q hq => by rw [← hH1, Array.getElem?_push, if_neg (Nat.ne_of_lt hq)]
  have hk : ∀ (k : Nat) (y : Nat × va_E), ws[k]? = some y → H1[y.1]? = H[y.1]? := fun k y hy => o1 y.1 ((hP k y hy).lt)
  obtain ⟨t, b1, b2⟩ := kk H.size H1 ((hP.kept hk).app (fun k y hy => by
      have hz : k < 1 := (List.getElem?_eq_some_iff.mp hy).1
      rw [show k = 0 by omega] at hy
      cases hy
      exact e1)) (hD.push hP rfl (hA _ hS.1)) ⟨Nat.le_trans hS.1 (by omega), fun y h1 h2 => (o1 y (Nat.lt_of_lt_of_le h1 hS.1)).trans (hS.2.1 y h1 h2), hS.2.2⟩
    ((T.setVm vm').pushCell (arrV X.2.1 N (fun j => .int (aI f j)))) (by rw [← hH1, ← hT]; rfl) X'
  refine ⟨t, st t ?_, b2⟩
  rw [hcellE, hT]
  exact b1
end Nw
