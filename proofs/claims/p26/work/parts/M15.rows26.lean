/-! Rows of this law: bits, the comparison of doubles, calls beside the object as one world. -/
section Bits26
variable {p : Program} {l : Launch} {e : Env} {R : Room} {s : State} {m : MethodId} {args : Array Value} {below : List Frame} {meth : Method} {c : Code} {H : Heap} {locs : List Loc} {cells slots : Nat} {Q : State → Prop}
variable {cc : ByteArray} {pc : Nat} {ls : Array Slot} {rest : List Value}
theorem i_and (hx : p.tables.exec = Jvm.exec) (hb : c.code = cc) {x y : Int} (hdg : decode cc pc = .ok (.iand, 1)) (k : ∀ q : Int, inR q → W p l e R s m args below meth c H locs cells slots Q (F0 m (pc + 1) ls (.int (iI q) :: rest))) : W p l e R s m args below meth c H locs cells slots Q (F0 m pc ls (.int (iI y) :: .int (iI x) :: rest)) := by
  obtain ⟨q, h1, h2⟩ := iI_ex (iI x &&& iI y)
  exact lv_iand hx hb hdg (by rw [h2]; exact k q h1)
theorem i_xor (hx : p.tables.exec = Jvm.exec) (hb : c.code = cc) {x y : Int} (hdg : decode cc pc = .ok (.ixor, 1)) (k : ∀ q : Int, inR q → W p l e R s m args below meth c H locs cells slots Q (F0 m (pc + 1) ls (.int (iI q) :: rest))) : W p l e R s m args below meth c H locs cells slots Q (F0 m pc ls (.int (iI y) :: .int (iI x) :: rest)) := by
  obtain ⟨q, h1, h2⟩ := iI_ex (iI x ^^^ iI y)
  exact lv_ixor hx hb hdg (by rw [h2]; exact k q h1)
theorem i_shr (hx : p.tables.exec = Jvm.exec) (hb : c.code = cc) {x y : Int} (hdg : decode cc pc = .ok (.ishr, 1)) (k : ∀ q : Int, inR q → W p l e R s m args below meth c H locs cells slots Q (F0 m (pc + 1) ls (.int (iI q) :: rest))) : W p l e R s m args below meth c H locs cells slots Q (F0 m pc ls (.int (iI y) :: .int (iI x) :: rest)) := by
  obtain ⟨q, h1, h2⟩ := iI_ex (iI x >>> (iI y &&& 31))
  exact lv_ishr hx hb hdg (by rw [h2]; exact k q h1)
theorem iI_andp (x : Int32) : 0 ≤ (x &&& iI 2147483647).toInt ∧ (x &&& iI 2147483647).toInt ≤ 2147483647 := by
  have h1 := inR_toInt (x &&& iI 2147483647)
  refine ⟨?_, h1.2⟩
  show 0 ≤ (x &&& iI 2147483647).toBitVec.toInt
  rw [Int32.toBitVec_and, BitVec.toInt_eq_msb_cond, BitVec.msb_and, show (iI 2147483647).toBitVec.msb = false from by decide +kernel, Bool.and_false, if_neg (by decide)]
  exact Int.natCast_nonneg _
theorem i_andp (hx : p.tables.exec = Jvm.exec) (hb : c.code = cc) {x : Int} (_h : (1 : Nat) ≤ 2) (hdg : decode cc pc = .ok (.iand, 1)) (k : ∀ q : Int, 0 ≤ q ∧ q ≤ 2147483647 → W p l e R s m args below meth c H locs cells slots Q (F0 m (pc + 1) ls (.int (iI q) :: rest))) : W p l e R s m args below meth c H locs cells slots Q (F0 m pc ls (.int (iI 2147483647) :: .int (iI x) :: rest)) := by
  have h1 := k (iI x &&& iI 2147483647).toInt (iI_andp _)
  rw [iI_of] at h1
  exact lv_iand hx hb hdg h1
theorem i_dcmp (hx : p.tables.exec = Jvm.exec) (hb : c.code = cc) {x y : UInt64} {op : CmpOp} (hdg : decode cc pc = .ok (.dcmp op, 1)) (k : W p l e R s m args below meth c H locs cells slots Q (F0 m (pc + 1) ls (.int (iI ((Op.cmpValue (FP.dcmp x y) op).toInt)) :: rest))) : W p l e R s m args below meth c H locs cells slots Q (F0 m pc ls (.double y :: .double x :: rest)) := by
  rw [iI_of] at k
  exact lv_dcmp hx hb hdg k
end Bits26
theorem va_P.subT {D : va_G} {cl : List vw_C} {X ws' pl : va_W} {H : Heap} (is : List Nat) (hs : is.map (fun i => X[i]?) = ws'.map some) (h : va_P D cl (X ++ pl) H) : va_P D cl (ws' ++ pl) H := h.part is hs
theorem va_D.subT {A : Nat → Prop} {X ws' pl : va_W} (is : List Nat) (hn : va_nd is = true) (hs : is.map (fun i => X[i]?) = ws'.map some) (h : va_D A (X ++ pl)) : va_D A (ws' ++ pl) := h.part is hn hs
theorem P_front {D : va_G} {cl : List vw_C} {X pl : va_W} {H : Heap} (h : va_P D cl (X ++ pl) H) : va_P D cl X H := fun k q hk => h k q (by
  have hlt := (List.getElem?_eq_some_iff.mp hk).1
  rw [List.getElem?_append_left hlt]
  exact hk)
theorem P_back {D : va_G} {cl : List vw_C} {X pl : va_W} {H : Heap} (h : va_P D cl (X ++ pl) H) : va_P D cl pl H := fun k q hk => h (X.length + k) q (by
  rw [List.getElem?_append_right (Nat.le_add_right _ _), Nat.add_sub_cancel_left]
  exact hk)
theorem D_front {A : Nat → Prop} {X pl : va_W} (h : va_D A (X ++ pl)) : va_D A X := by
  have ap : ∀ (k : Nat) (q : Nat × va_E), X[k]? = some q → (X ++ pl)[k]? = some q := fun k q hk => by
    have hlt := (List.getElem?_eq_some_iff.mp hk).1
    rw [List.getElem?_append_left hlt]
    exact hk
  exact ⟨fun i j a b hi hj e => h.1 i j a b (ap i a hi) (ap j b hj) e, fun k q hk => h.2 k q (ap k q hk)⟩
theorem D_back {A : Nat → Prop} {X pl : va_W} (h : va_D A (X ++ pl)) : va_D A pl := by
  have ap : ∀ (k : Nat) (q : Nat × va_E), pl[k]? = some q → (X ++ pl)[X.length + k]? = some q := fun k q hk => by
    rw [List.getElem?_append_right (Nat.le_add_right _ _), Nat.add_sub_cancel_left]
    exact hk
  exact ⟨fun i j a b hi hj e => by have := h.1 _ _ a b (ap i a hi) (ap j b hj) e; omega, fun k q hk => h.2 _ q (ap k q hk)⟩
section Cal26
variable {p : Program} {l : Launch} {e : Env} {R : Room} {s : State} {m : MethodId} {args : Array Value} {below : List Frame} {meth : Method} {c : Code} {H : Heap} {locs : List Loc} {cells slots : Nat} {Q : State → Prop}
variable {pc : Nat} {ls : Array Slot} {rest st0 : List Value} {a : Array Value} {A : Nat → Prop} {X : XD} {mc ms : Nat} {xs pl wc wr : va_W} {isC isR : List Nat}
theorem free_back (hD : va_D A (xs ++ pl)) (hS : va_S A s.heap H locs) (hA : ∀ q, s.heap.size ≤ q → A q) : ∀ q, va_A pl H.size q → A q := fun q h => by
  rcases h with ⟨k, e, h⟩ | h
  · exact (D_back hD).2 k (q, e) h
  · exact hA q (Nat.le_trans hS.1 h)
theorem free_mid (hD : va_D A (xs ++ pl)) (hS : va_S A s.heap H locs) (hA : ∀ q, s.heap.size ≤ q → A q) (hC : isC.map (fun i => xs[i]?) = wc.map some) : ∀ q, va_A wc H.size q → A q := fun q h => by
  rcases h with ⟨k, e, h⟩ | h
  · obtain ⟨i, h1, h2⟩ := va_in_of isC hC h
    exact (D_front hD).2 i (q, e) h2
  · exact hA q (Nat.le_trans hS.1 h)
theorem pre_cutP {av : List Value} (hE : St A s s.heap) (hK : va_K X.1 vwCl (tyL X) s) (hA : ∀ q, s.heap.size ≤ q → A q) (hP : va_P X.1 vwCl (xs ++ pl) H) (hD : va_D A (xs ++ pl)) (hS : va_S A s.heap H locs) : ∀ U : State, U.heap = H → s.WarmedH U.vm → va_Pc av (Pre0 X pl H.size) av.toArray U := by
  intro U hU hW
  refine ⟨rfl, by rw [hU], by rw [hU]; exact P_back hP, va_K.moved hW.alike hK, (D_back hD).weaken (fun _ _ _ _ => trivial), ?_⟩
  rw [hU]
  exact ((hE.kept (fun q h1 h2 => hS.2.1 q h1 h2)).narrow (free_back hD hS hA)).warm hW
theorem pre_cutQ {av : List Value} (hE : St A s s.heap) (hK : va_K X.1 vwCl (tyL X) s) (hA : ∀ q, s.heap.size ≤ q → A q) (hP : va_P X.1 vwCl (xs ++ pl) H) (hD : va_D A (xs ++ pl)) (hS : va_S A s.heap H locs) (hC : isC.map (fun i => xs[i]?) = wc.map some) (hn : va_nd isC = true) : ∀ U : State, U.heap = H → s.WarmedH U.vm → va_Pc av (Pre0 X wc H.size) av.toArray U := by
  intro U hU hW
  refine ⟨rfl, by rw [hU], by rw [hU]; exact P_front (hP.part isC hC), va_K.moved hW.alike hK, (D_front (hD.part isC hn hC)).weaken (fun _ _ _ _ => trivial), ?_⟩
  rw [hU]
  exact ((hE.kept (fun q h1 h2 => hS.2.1 q h1 h2)).narrow (free_mid hD hS hA hC)).warm hW
theorem joinT {H1 : Heap} {pl1 : va_W} (hP : va_P X.1 vwCl (xs ++ pl) H) (hD : va_D A (xs ++ pl)) (hS : va_S A s.heap H locs) (hA : ∀ q, s.heap.size ≤ q → A q) (hR : isR.map (fun i => xs[i]?) = xs.map some) (hn : va_nd isR = true)
    (hk : ∀ q : Nat, q < H.size → ¬ va_A pl H.size q → H1[q]? = H[q]?) (hP1 : va_P X.1 vwCl pl1 H1) (hD1 : va_D (va_A pl H.size) pl1) : va_P X.1 vwCl (xs ++ pl1) H1 ∧ va_D A (xs ++ pl1) := by
  have h := va_joinP (cx := []) (rx := []) hP hD [] isR rfl hR hn (fun _ _ h => nomatch h) hk (free_back hD hS hA) hP1 hD1
  rw [List.append_nil] at h
  exact h
theorem t_i {S : Type} {w1 : S → va_W} {post : Int → S → Prop} (hr : va_Run p l e R s m args below meth c H locs cells slots mc ms (F0 m pc ls st0) rest (va_Qi (fun r u => ∃ z : Int, r = iI z ∧ post z u) (fun u t => Post0 X (va_A pl H.size) (w1 u) t) (va_A pl H.size) a) (va_A pl H.size))
    (hA : ∀ q, s.heap.size ≤ q → A q) (hP : va_P X.1 vwCl (xs ++ pl) H) (hD : va_D A (xs ++ pl)) (hS : va_S A s.heap H locs) (hR : isR.map (fun i => xs[i]?) = xs.map some) (hn : va_nd isR = true)
    (kk : ∀ (z : Int) (u : S) (H1 : Heap) (locs1 : List Loc), post z u → va_P X.1 vwCl (xs ++ w1 u) H1 → va_D A (xs ++ w1 u) → va_S A s.heap H1 locs1 → W p l e R s m args below meth c H1 locs1 (cells + mc) (slots + ms) Q (F0 m (pc + 3) ls (.int (iI z) :: rest))) : W p l e R s m args below meth c H locs cells slots Q (F0 m pc ls st0) := by
  have hF := free_back hD hS hA
  refine va_calli hr hS (fun q _ h => hF q h) hF (fun r u t H1 locs1 ht hvm hw hB hz1 hk1 hS1 => ?_)
  obtain ⟨z, rfl, hz⟩ := hw
  obtain ⟨hP1, hK1, hD1⟩ := hB
  rw [ht] at hP1
  obtain ⟨hP2, hD2⟩ := joinT hP hD hS hA hR hn hk1 hP1 hD1
  exact kk z u H1 locs1 hz hP2 hD2 hS1
theorem t_d {S : Type} {w1 : S → va_W} {post : UInt64 → S → Prop} (hr : va_Run p l e R s m args below meth c H locs cells slots mc ms (F0 m pc ls st0) rest (va_Qd post (fun u t => Post0 X (va_A pl H.size) (w1 u) t) (va_A pl H.size) a) (va_A pl H.size))
    (hA : ∀ q, s.heap.size ≤ q → A q) (hP : va_P X.1 vwCl (xs ++ pl) H) (hD : va_D A (xs ++ pl)) (hS : va_S A s.heap H locs) (hR : isR.map (fun i => xs[i]?) = xs.map some) (hn : va_nd isR = true)
    (kk : ∀ (z : UInt64) (u : S) (H1 : Heap) (locs1 : List Loc), post z u → va_P X.1 vwCl (xs ++ w1 u) H1 → va_D A (xs ++ w1 u) → va_S A s.heap H1 locs1 → W p l e R s m args below meth c H1 locs1 (cells + mc) (slots + ms) Q (F0 m (pc + 3) ls (.double z :: rest))) : W p l e R s m args below meth c H locs cells slots Q (F0 m pc ls st0) := by
  have hF := free_back hD hS hA
  refine va_calld hr hS (fun q _ h => hF q h) hF (fun r u t H1 locs1 ht hvm hw hB hz1 hk1 hS1 => ?_)
  obtain ⟨hP1, hK1, hD1⟩ := hB
  rw [ht] at hP1
  obtain ⟨hP2, hD2⟩ := joinT hP hD hS hA hR hn hk1 hP1 hD1
  exact kk r u H1 locs1 hw hP2 hD2 hS1
theorem u_i {S : Type} {w1 : S → va_W} {post : Int → S → Prop} (hr : va_Run p l e R s m args below meth c H locs cells slots mc ms (F0 m pc ls st0) rest (va_Qi (fun r u => ∃ z : Int, r = iI z ∧ post z u) (fun u t => Post0 X (va_A wc H.size) (w1 u) t) (va_A wc H.size) a) (va_A wc H.size))
    (hA : ∀ q, s.heap.size ≤ q → A q) (hP : va_P X.1 vwCl (xs ++ pl) H) (hD : va_D A (xs ++ pl)) (hS : va_S A s.heap H locs) (hC : isC.map (fun i => xs[i]?) = wc.map some) (hR : isR.map (fun i => xs[i]?) = wr.map some) (hn : va_nd isR = true) (hdis : ∀ i ∈ isR, i ∉ isC)
    (kk : ∀ (z : Int) (u : S) (H1 : Heap) (locs1 : List Loc), post z u → va_P X.1 vwCl ((wr ++ w1 u) ++ pl) H1 → va_D A ((wr ++ w1 u) ++ pl) → va_S A s.heap H1 locs1 → W p l e R s m args below meth c H1 locs1 (cells + mc) (slots + ms) Q (F0 m (pc + 3) ls (.int (iI z) :: rest))) : W p l e R s m args below meth c H locs cells slots Q (F0 m pc ls st0) := by
  have hF := free_mid (wc := wc) (isC := isC) hD hS hA hC
  refine va_calli hr hS (fun q _ h => hF q h) hF (fun r u t H1 locs1 ht hvm hw hB hz1 hk1 hS1 => ?_)
  obtain ⟨z, rfl, hz⟩ := hw
  obtain ⟨hP1, hK1, hD1⟩ := hB
  rw [ht] at hP1
  obtain ⟨hP2, hD2⟩ := va_joinQ hP hD isC isR hC hR hn hdis hk1 hF hP1 hD1
  exact kk z u H1 locs1 hz hP2 hD2 hS1
theorem u_v {S : Type} {w1 : S → va_W} {post : S → Prop} (hr : va_Run p l e R s m args below meth c H locs cells slots mc ms (F0 m pc ls st0) rest (va_Qv post (fun u t => Post0 X (va_A wc H.size) (w1 u) t) (va_A wc H.size) a) (va_A wc H.size))
    (hA : ∀ q, s.heap.size ≤ q → A q) (hP : va_P X.1 vwCl (xs ++ pl) H) (hD : va_D A (xs ++ pl)) (hS : va_S A s.heap H locs) (hC : isC.map (fun i => xs[i]?) = wc.map some) (hR : isR.map (fun i => xs[i]?) = wr.map some) (hn : va_nd isR = true) (hdis : ∀ i ∈ isR, i ∉ isC)
    (kk : ∀ (u : S) (H1 : Heap) (locs1 : List Loc), post u → va_P X.1 vwCl ((wr ++ w1 u) ++ pl) H1 → va_D A ((wr ++ w1 u) ++ pl) → va_S A s.heap H1 locs1 → W p l e R s m args below meth c H1 locs1 (cells + mc) (slots + ms) Q (F0 m (pc + 3) ls rest)) : W p l e R s m args below meth c H locs cells slots Q (F0 m pc ls st0) := by
  have hF := free_mid (wc := wc) (isC := isC) hD hS hA hC
  refine va_callv hr hS (fun q _ h => hF q h) hF (fun u t H1 locs1 ht hvm hw hB hz1 hk1 hS1 => ?_)
  obtain ⟨hP1, hK1, hD1⟩ := hB
  rw [ht] at hP1
  obtain ⟨hP2, hD2⟩ := va_joinQ hP hD isC isR hC hR hn hdis hk1 hF hP1 hD1
  exact kk u H1 locs1 hw hP2 hD2 hS1
end Cal26
