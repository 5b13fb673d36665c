abbrev vwCl : List vw_C := [(RX0, TX0, 2), (RX1, TX1, 7), (RX2, TX2, 8), (RX3, TX3, 9), (RX4, TX4, 3), (RX5, TX5, 6)]
/-! Contracts in one form: the world's cells before, the cells behind, static things that stay. -/
abbrev XD : Type := va_G × ClassId × ClassId × ClassId
abbrev tyL (X : XD) : List (ClassId × FieldType) := [(X.2.1, .int), (X.2.2.1, .boolean), (X.2.2.2, .object "LentMargins$Script")]
abbrev eI (X : XD) (n : Nat) (f : Nat → Int) : va_E := .inl (X.2.1, n, .inl (aI f))
abbrev eZ (X : XD) (n : Nat) (f : Nat → Int) : va_E := .inl (X.2.2.1, n, .inl (aI f))
abbrev eO (X : XD) (n : Nat) (f : Nat → Option Nat) : va_E := .inl (X.2.2.2, n, .inr (.inr (.inr (.inr f))))
def st_arrs : List (String × Nat × (Nat → Int)) := [("LEAST_SETTING", 6, tb_LEAST_SETTING), ("GREATEST_SETTING", 6, tb_GREATEST_SETTING), ("FIRST_SETTING", 6, tb_FIRST_SETTING), ("FIRST_SHARE", 8, tb_FIRST_SHARE), ("SIGN_WIDTH", 8, tb_SIGN_WIDTH), ("LETTER_WIDTH", 26, tb_LETTER_WIDTH)]
def st_strs : List (Nat × String) := [(205, "there is none of this number"), (208, "an argument is out of range"), (216, "such a sign cannot stand there"), (60, "there is no room for another word")]
def st_nm : List (String × Nat × MethodName) := [("LentMargins", 18, yX1_init), ("LentMargins", 28, yX4_init), ("LentMargins", 38, yX0_init), ("LentMargins", 9, yX3_init), ("LentMargins$History", 11, yX3_init), ("LentMargins$Layout", 26, yX2_init), ("LentMargins$Script", 79, yX5_signWidth)]
def st_nf : List (String × Nat × String) := [("LentMargins$Script", 31, "FIRST_SETTING"), ("LentMargins$Script", 42, "FIRST_SHARE"), ("LentMargins$Script", 76, "LETTER_WIDTH")]
def st_ex : List String := ["java/lang/IndexOutOfBoundsException", "java/lang/IllegalArgumentException", "java/lang/IllegalStateException"]
def st_sx : List String := ["java/lang/RuntimeException", "java/lang/Exception", "java/lang/Throwable"]
def Sx (U : State) : Prop := (∀ E ∈ st_ex, va_Nw (.castable E E) U) ∧ (∀ E ∈ st_sx, va_Nw (.declares (Bundle.initS E)) U) ∧ (∀ E ∈ st_ex, ∀ F ∈ st_ex, E ≠ F → va_Nc E F U)
theorem Sx.warm {s U : State} (hW : s.WarmedH U.vm) (h : Sx s) : Sx U := ⟨fun E hm => va_Nw.warmC hW (h.1 E hm), fun E hm => va_Nw.warmD hW (h.2.1 E hm), fun E h1 F h2 n => va_Nc.moved hW.alike (h.2.2 E h1 F h2 n)⟩
theorem Sx.same {u U : State} (hv : U.vm = u.vm) (h : Sx u) : Sx U := ⟨fun E hm => va_Nw.same rfl hv.symm (h.1 E hm), fun E hm => va_Nw.same rfl hv.symm (h.2.1 E hm), fun E h1 F h2 n => va_Nc.moved (by rw [hv]; exact Vm.Alike.refl _) (h.2.2 E h1 F h2 n)⟩
def Sn (U : State) : Prop := (∀ q ∈ st_nm, va_Nw (.methodLinkNest q.1 q.2.1 q.2.2 "LentMargins") U) ∧ (∀ q ∈ st_nf, va_Nw (.fieldLinkNest q.1 q.2.1 "LentMargins" q.2.2 "[I" "LentMargins") U) ∧ va_Nw (.castable "[I" "java/lang/Cloneable") U ∧ va_AO "LentMargins$Script" U ∧ Sx U
theorem Sn.warm {s U : State} (hW : s.WarmedH U.vm) (h : Sn s) : Sn U := ⟨fun q hm => va_Nw.warmM hW (h.1 q hm), fun q hm => va_Nw.warmF hW (h.2.1 q hm), va_Nw.warmC hW h.2.2.1, va_AO.moved hW.alike h.2.2.2.1, Sx.warm hW h.2.2.2.2⟩
theorem Sn.same {u U : State} (hv : U.vm = u.vm) (h : Sn u) : Sn U := ⟨fun q hm => va_Nw.same rfl hv.symm (h.1 q hm), fun q hm => va_Nw.same rfl hv.symm (h.2.1 q hm), va_Nw.same rfl hv.symm h.2.2.1, va_AO.moved (by rw [hv]; exact Vm.Alike.refl _) h.2.2.2.1, Sx.same hv h.2.2.2.2⟩
def St (A : Nat → Prop) (U : State) (H : Heap) : Prop := Sn U ∧
  (∀ q ∈ st_arrs, ∃ t : Nat, va_Z "LentMargins" q.1 "[I" (.ref t) A U H ∧ va_T .int t q.2.1 (fun j => .int (iI (q.2.2 j))) A U H ∧ (∃ cell : Cell, H[t]? = some cell ∧ cell.slots.size = q.2.1 ∧ ((q.1 = "FIRST_SETTING" ∨ q.1 = "FIRST_SHARE") → U.vm.findClass "[I" = some cell.cls))) ∧
  (∀ q ∈ st_strs, ∃ a : Nat, vk_R "LentMargins" q.1 q.2 a U) ∧ vx_Zq Bundle.tN "UNASSIGNED_STACK" Bundle.steD A U H ∧ vx_Zq Bundle.tN "SUPPRESSED_SENTINEL" Bundle.listD A U H
theorem St.kept {A : Nat → Prop} {U : State} {H H1 : Heap} (h : St A U H) (hq : ∀ a : Nat, a < H.size → ¬ A a → H1[a]? = H[a]?) : St A U H1 := by
  obtain ⟨h0, h1, h2, h3, h4⟩ := h
  refine ⟨h0, fun q hm => ?_, h2, h3.kept hq, h4.kept hq⟩
  obtain ⟨t, a1, a2, cell, a3, a4⟩ := h1 q hm
  exact ⟨t, a1.kept hq, a2.kept hq, cell, by rw [hq t (Array.getElem?_eq_some_iff.mp a3).1 a2.out]; exact a3, a4⟩
theorem St.narrow {A B : Nat → Prop} {U : State} {H : Heap} (h : St A U H) (hAB : ∀ q, B q → A q) : St B U H := by
  obtain ⟨h0, h1, h2, h3, h4⟩ := h
  refine ⟨h0, fun q hm => ?_, h2, h3.narrow hAB, h4.narrow hAB⟩
  obtain ⟨t, a1, a2, a3⟩ := h1 q hm
  exact ⟨t, a1.narrow hAB, a2.narrow hAB, a3⟩
theorem St.warm {A : Nat → Prop} {s U : State} {H : Heap} (hW : s.WarmedH U.vm) (h : St A s H) : St A U H := by
  obtain ⟨h0, h1, h2, h3, h4⟩ := h
  refine ⟨h0.warm hW, fun q hm => ?_, fun q hm => ?_, h3.moved hW.alike, h4.moved hW.alike⟩
  · obtain ⟨t, a1, a2, cell, a3, a4, a5⟩ := h1 q hm
    exact ⟨t, a1.moved hW.alike, a2.moved hW.alike, cell, a3, a4, fun z => by rw [hW.alike.findClass]; exact a5 z⟩
  · obtain ⟨a, h⟩ := h2 q hm
    exact ⟨a, h.warm hW⟩
theorem St.same {A : Nat → Prop} {u U : State} {H : Heap} (hv : U.vm = u.vm) (h : St A u H) : St A U H := by
  have hk : u.vm.Alike U.vm := by rw [hv]; exact Vm.Alike.refl _
  obtain ⟨h0, h1, h2, h3, h4⟩ := h
  refine ⟨h0.same hv, fun q hm => ?_, fun q hm => ?_, h3.moved hk, h4.moved hk⟩
  · obtain ⟨t, a1, a2, cell, a3, a4, a5⟩ := h1 q hm
    exact ⟨t, a1.moved hk, a2.moved hk, cell, a3, a4, fun z => by rw [hk.findClass]; exact a5 z⟩
  · obtain ⟨a, h⟩ := h2 q hm
    exact ⟨a, h.same hv⟩
def Pre0 (X : XD) (w0 : va_W) (sz : Nat) (U : State) : Prop := U.heap.size = sz ∧ va_P X.1 vwCl w0 U.heap ∧ va_K X.1 vwCl (tyL X) U ∧ va_D (fun _ => True) w0 ∧ St (va_A w0 sz) U U.heap
def Post0 (X : XD) (A : Nat → Prop) (w1 : va_W) (t : State) : Prop := va_P X.1 vwCl w1 t.heap ∧ va_K X.1 vwCl (tyL X) t ∧ va_D A w1
theorem pre_blind {X : XD} {av : List Value} {w0 : va_W} {sz : Nat} : FrameBlind (va_Pc av (Pre0 X w0 sz)) := fun a U g mk q => by
  obtain ⟨q0, q1, qP, qK, qD, qS⟩ := q
  exact ⟨q0, q1, qP, va_K.moved (u := U) (U := U.calling g mk a) (Vm.Alike.refl U.vm) qK, qD, St.same (u := U) (U := U.calling g mk a) rfl qS⟩
def MCi (l : Launch) (y : MethodName) (ws : List Cond) (rm : Room) (X : XD) (av : List Value) (w0 : va_W) {S : Type} (w1 : S → va_W) (post : Int → S → Prop) (mc ms : Nat) : Prop :=
  ∀ sz, Met l y ws rm (va_Pc av (Pre0 X w0 sz)) (va_Qi (fun r u => ∃ z : Int, r = iI z ∧ post z u) (fun u t => Post0 X (va_A w0 sz) (w1 u) t) (va_A w0 sz)) mc ms (va_A w0 sz)
def MCl (l : Launch) (y : MethodName) (ws : List Cond) (rm : Room) (X : XD) (av : List Value) (w0 : va_W) {S : Type} (w1 : S → va_W) (post : Int64 → S → Prop) (mc ms : Nat) : Prop :=
  ∀ sz, Met l y ws rm (va_Pc av (Pre0 X w0 sz)) (va_Ql post (fun u t => Post0 X (va_A w0 sz) (w1 u) t) (va_A w0 sz)) mc ms (va_A w0 sz)
def MCd (l : Launch) (y : MethodName) (ws : List Cond) (rm : Room) (X : XD) (av : List Value) (w0 : va_W) {S : Type} (w1 : S → va_W) (post : UInt64 → S → Prop) (mc ms : Nat) : Prop :=
  ∀ sz, Met l y ws rm (va_Pc av (Pre0 X w0 sz)) (va_Qd post (fun u t => Post0 X (va_A w0 sz) (w1 u) t) (va_A w0 sz)) mc ms (va_A w0 sz)
def MCv (l : Launch) (y : MethodName) (ws : List Cond) (rm : Room) (X : XD) (av : List Value) (w0 : va_W) {S : Type} (w1 : S → va_W) (post : S → Prop) (mc ms : Nat) : Prop :=
  ∀ sz, Met l y ws rm (va_Pc av (Pre0 X w0 sz)) (va_Qv post (fun u t => Post0 X (va_A w0 sz) (w1 u) t) (va_A w0 sz)) mc ms (va_A w0 sz)
def MCq (l : Launch) (y : MethodName) (ws : List Cond) (rm : Room) (X : XD) (av : List Value) (w0 : va_W) {S : Type} (w1 : S → va_W) (post : Option Nat → S → Prop) (mc ms : Nat) : Prop :=
  ∀ sz, Met l y ws rm (va_Pc av (Pre0 X w0 sz)) (va_Qq post (fun u t => Post0 X (va_A w0 sz) (w1 u) t) (va_A w0 sz)) mc ms (va_A w0 sz)
def xT (X : XD) (w0 : va_W) (xp : String → Prop) (A : Nat → Prop) : String → State → State → Prop := vx_X (fun _ : Unit => True) (fun E _ t => xp E ∧ Post0 X A w0 t) A
def MXi (l : Launch) (y : MethodName) (ws : List Cond) (rm : Room) (X : XD) (av : List Value) (w0 : va_W) {S : Type} (w1 : S → va_W) (post : Int → S → Prop) (xp : String → Prop) (mc ms : Nat) : Prop :=
  ∀ sz, vx_Met l y ws rm (va_Pc av (Pre0 X w0 sz)) (va_Qi (fun r u => ∃ z : Int, r = iI z ∧ post z u) (fun u t => Post0 X (va_A w0 sz) (w1 u) t) (va_A w0 sz)) (xT X w0 xp (va_A w0 sz)) mc ms (va_A w0 sz)
def MXv (l : Launch) (y : MethodName) (ws : List Cond) (rm : Room) (X : XD) (av : List Value) (w0 : va_W) {S : Type} (w1 : S → va_W) (post : S → Prop) (xp : String → Prop) (mc ms : Nat) : Prop :=
  ∀ sz, vx_Met l y ws rm (va_Pc av (Pre0 X w0 sz)) (va_Qv post (fun u t => Post0 X (va_A w0 sz) (w1 u) t) (va_A w0 sz)) (xT X w0 xp (va_A w0 sz)) mc ms (va_A w0 sz)
/-- what a body has at its entry -/
def Ent (p : Program) (X : XD) (y : MethodName) (ws : List Cond) (cc : ByteArray) (maxL : Nat) (ret : Option FieldType) (s : State) (m : MethodId) (args : Array Value) (meth : Method) (c : Code) (A : Nat → Prop) : Prop :=
  p.tables.exec = Jvm.exec ∧ c.code = cc ∧ meth.sig.returnType = ret ∧ c.maxLocals = maxL ∧ meth.locks = false ∧ s.vm.findClass y.cls = some m.cls ∧ (∀ w ∈ ws, w.before args s = true) ∧ va_K X.1 vwCl (tyL X) s ∧ St A s s.heap ∧ (∀ q, s.heap.size ≤ q → A q) ∧ meth.name = y.name
/-- a body's goal: any end that the contract's end lemma gives -/
def Bdy (l : Launch) (y : MethodName) (ws : List Cond) (rm : Room) (X : XD) (av : List Value) (w0 : va_W) (cc : ByteArray) (maxL : Nat) (ret : Option FieldType) (En : Program → Env → State → MethodId → Array Value → List Frame → Method → Code → (Nat → Prop) → (State → Prop) → Prop) : Prop :=
  ∀ (p : Program) (e : Env) (s : State) (m : MethodId) (args : Array Value) (below : List Frame) (meth : Method) (c : Code) (A : Nat → Prop) (ls : Array Slot) (Q : State → Prop), Ent p X y ws cc maxL ret s m args meth c A → va_P X.1 vwCl w0 s.heap → va_D A w0 → va_S A s.heap s.heap [] → lv_has ls maxL (lv_args 0 av) → En p e s m args below meth c A Q →
    W p l e rm s m args below meth c s.heap [] 0 0 Q (F0 m 0 ls [])
def Ei (l : Launch) (rm : Room) (X : XD) (cc : ByteArray) (mc ms : Nat) {S : Type} (w1 : S → va_W) (post : Int → S → Prop) : Program → Env → State → MethodId → Array Value → List Frame → Method → Code → (Nat → Prop) → (State → Prop) → Prop := fun p e s m args below meth c A Q =>
  ∀ (H : Heap) (locs : List Loc) (cells slots : Nat) (ls : Array Slot) (pc : Nat) (z : Int) (u : S), va_P X.1 vwCl (w1 u) H → va_D A (w1 u) → va_S A s.heap H locs → post z u → cells ≤ mc → slots ≤ ms → decode cc pc = .ok (.ireturn, 1) → W p l e rm s m args below meth c H locs cells slots Q (F0 m pc ls [.int (iI z)])
def Ez (l : Launch) (rm : Room) (X : XD) (cc : ByteArray) (mc ms : Nat) {S : Type} (w1 : S → va_W) (post : Int → S → Prop) : Program → Env → State → MethodId → Array Value → List Frame → Method → Code → (Nat → Prop) → (State → Prop) → Prop := fun p e s m args below meth c A Q =>
  ∀ (H : Heap) (locs : List Loc) (cells slots : Nat) (ls : Array Slot) (pc : Nat) (z : Int) (u : S), va_P X.1 vwCl (w1 u) H → va_D A (w1 u) → va_S A s.heap H locs → (z = 0 ∨ z = 1) → post z u → cells ≤ mc → slots ≤ ms → decode cc pc = .ok (.ireturn, 1) → W p l e rm s m args below meth c H locs cells slots Q (F0 m pc ls [.int (iI z)])
def El (l : Launch) (rm : Room) (X : XD) (cc : ByteArray) (mc ms : Nat) {S : Type} (w1 : S → va_W) (post : Int64 → S → Prop) : Program → Env → State → MethodId → Array Value → List Frame → Method → Code → (Nat → Prop) → (State → Prop) → Prop := fun p e s m args below meth c A Q =>
  ∀ (H : Heap) (locs : List Loc) (cells slots : Nat) (ls : Array Slot) (pc : Nat) (z : Int64) (u : S), va_P X.1 vwCl (w1 u) H → va_D A (w1 u) → va_S A s.heap H locs → post z u → cells ≤ mc → slots ≤ ms → decode cc pc = .ok (.lreturn, 1) → W p l e rm s m args below meth c H locs cells slots Q (F0 m pc ls [.long z])
def Ed (l : Launch) (rm : Room) (X : XD) (cc : ByteArray) (mc ms : Nat) {S : Type} (w1 : S → va_W) (post : UInt64 → S → Prop) : Program → Env → State → MethodId → Array Value → List Frame → Method → Code → (Nat → Prop) → (State → Prop) → Prop := fun p e s m args below meth c A Q =>
  ∀ (H : Heap) (locs : List Loc) (cells slots : Nat) (ls : Array Slot) (pc : Nat) (z : UInt64) (u : S), va_P X.1 vwCl (w1 u) H → va_D A (w1 u) → va_S A s.heap H locs → post z u → cells ≤ mc → slots ≤ ms → decode cc pc = .ok (.dreturn, 1) → W p l e rm s m args below meth c H locs cells slots Q (F0 m pc ls [.double z])
def Eq (l : Launch) (rm : Room) (X : XD) (cc : ByteArray) (mc ms : Nat) {S : Type} (w1 : S → va_W) (post : Option Nat → S → Prop) : Program → Env → State → MethodId → Array Value → List Frame → Method → Code → (Nat → Prop) → (State → Prop) → Prop := fun p e s m args below meth c A Q =>
  ∀ (H : Heap) (locs : List Loc) (cells slots : Nat) (ls : Array Slot) (pc : Nat) (z : Option Nat) (u : S), va_P X.1 vwCl (w1 u) H → va_D A (w1 u) → va_S A s.heap H locs → post z u → cells ≤ mc → slots ≤ ms → decode cc pc = .ok (.areturn, 1) → W p l e rm s m args below meth c H locs cells slots Q (F0 m pc ls [va_rf z])
def Ev (l : Launch) (rm : Room) (X : XD) (cc : ByteArray) (mc ms : Nat) {S : Type} (w1 : S → va_W) (post : S → Prop) : Program → Env → State → MethodId → Array Value → List Frame → Method → Code → (Nat → Prop) → (State → Prop) → Prop := fun p e s m args below meth c A Q =>
  ∀ (H : Heap) (locs : List Loc) (cells slots : Nat) (ls : Array Slot) (pc : Nat) (u : S), va_P X.1 vwCl (w1 u) H → va_D A (w1 u) → va_S A s.heap H locs → post u → cells ≤ mc → slots ≤ ms → decode cc pc = .ok (.return_, 1) → W p l e rm s m args below meth c H locs cells slots Q (F0 m pc ls [])
def k_pick (ws : va_W) (is : List Nat) : va_W := is.filterMap (fun i => ws[i]?)
theorem k_pick_ok {ws : va_W} {is : List Nat} (h : is.all (fun i => decide (i < ws.length)) = true) : is.map (fun i => ws[i]?) = (k_pick ws is).map some := by
  induction is with
  | nil => rfl
  | cons a is ih =>
    rw [List.all_cons, Bool.and_eq_true, decide_eq_true_eq] at h
    obtain ⟨v, hv⟩ : ∃ v, ws[a]? = some v := ⟨_, List.getElem?_eq_getElem h.1⟩
    rw [List.map_cons, ih h.2, hv]
    simp [k_pick, hv]
section Cal
variable {p : Program} {l : Launch} {e : Env} {R : Room} {s : State} {m : MethodId} {args : Array Value} {below : List Frame} {meth : Method} {c : Code} {H : Heap} {locs : List Loc} {cells slots : Nat} {Q : State → Prop}
variable {pc : Nat} {ls : Array Slot} {rest st0 : List Value} {a : Array Value} {A : Nat → Prop} {X : XD} {mc ms : Nat} {ws wc wr : va_W} {isC isR : List Nat}
/-- the callee's start, out of the caller's world -/
theorem pre_cut {av : List Value} (hE : St A s s.heap) (hK : va_K X.1 vwCl (tyL X) s) (hA : ∀ q, s.heap.size ≤ q → A q) (hP : va_P X.1 vwCl ws H) (hD : va_D A ws) (hS : va_S A s.heap H locs) (hC : isC.map (fun i => ws[i]?) = wc.map some) (hn : va_nd isC = true) : ∀ U : State, U.heap = H → s.WarmedH U.vm → va_Pc av (Pre0 X wc H.size) av.toArray U := by
  intro U hU hW
  have hPc : va_P X.1 vwCl wc H := hP.sub isC (by
    have h1 : isC.filterMap (fun i => ws[i]?) = (isC.map (fun i => ws[i]?)).filterMap id := by rw [List.filterMap_map]; rfl
    rw [h1, hC, List.filterMap_map]
    exact List.filterMap_some)
  refine ⟨rfl, by rw [hU], by rw [hU]; exact hPc, va_K.moved hW.alike hK, (hD.sub isC hn hC).weaken (fun _ _ _ _ => trivial), ?_⟩
  rw [hU]
  exact ((hE.kept (fun q h1 h2 => hS.2.1 q h1 h2)).narrow (va_free hD hS hA isC hC)).warm hW
theorem k_i {S : Type} {w1 : S → va_W} {post : Int → S → Prop} (hr : va_Run p l e R s m args below meth c H locs cells slots mc ms (F0 m pc ls st0) rest (va_Qi (fun r u => ∃ z : Int, r = iI z ∧ post z u) (fun u t => Post0 X (va_A wc H.size) (w1 u) t) (va_A wc H.size) a) (va_A wc H.size))
    (hA : ∀ q, s.heap.size ≤ q → A q) (hP : va_P X.1 vwCl ws H) (hD : va_D A ws) (hS : va_S A s.heap H locs) (hC : isC.map (fun i => ws[i]?) = wc.map some) (hR : isR.all (fun i => decide (i < ws.length)) = true) (hn : va_nd isR = true) (hdis : ∀ i ∈ isR, i ∉ isC)
    (kk : ∀ (z : Int) (u : S) (H1 : Heap) (locs1 : List Loc), post z u → va_P X.1 vwCl (k_pick ws isR ++ w1 u) H1 → va_D A (k_pick ws isR ++ w1 u) → va_S A s.heap H1 locs1 → W p l e R s m args below meth c H1 locs1 (cells + mc) (slots + ms) Q (F0 m (pc + 3) ls (.int (iI z) :: rest))) : W p l e R s m args below meth c H locs cells slots Q (F0 m pc ls st0) := by
  have hF := va_free hD hS hA isC hC
  refine va_calli hr hS (fun q _ h => hF q h) hF (fun r u t H1 locs1 ht hvm hw hB hz1 hk1 hS1 => ?_)
  obtain ⟨z, rfl, hz⟩ := hw
  obtain ⟨hP1, hK1, hD1⟩ := hB
  rw [ht] at hP1
  obtain ⟨hP2, hD2⟩ := va_join hP hD isC isR hC (k_pick_ok hR) hn hdis hk1 hF hP1 hD1
  exact kk z u H1 locs1 hz hP2 hD2 hS1
theorem k_l {S : Type} {w1 : S → va_W} {post : Int64 → S → Prop} (hr : va_Run p l e R s m args below meth c H locs cells slots mc ms (F0 m pc ls st0) rest (va_Ql post (fun u t => Post0 X (va_A wc H.size) (w1 u) t) (va_A wc H.size) a) (va_A wc H.size))
    (hA : ∀ q, s.heap.size ≤ q → A q) (hP : va_P X.1 vwCl ws H) (hD : va_D A ws) (hS : va_S A s.heap H locs) (hC : isC.map (fun i => ws[i]?) = wc.map some) (hR : isR.all (fun i => decide (i < ws.length)) = true) (hn : va_nd isR = true) (hdis : ∀ i ∈ isR, i ∉ isC)
    (kk : ∀ (z : Int64) (u : S) (H1 : Heap) (locs1 : List Loc), post z u → va_P X.1 vwCl (k_pick ws isR ++ w1 u) H1 → va_D A (k_pick ws isR ++ w1 u) → va_S A s.heap H1 locs1 → W p l e R s m args below meth c H1 locs1 (cells + mc) (slots + ms) Q (F0 m (pc + 3) ls (.long z :: rest))) : W p l e R s m args below meth c H locs cells slots Q (F0 m pc ls st0) := by
  have hF := va_free hD hS hA isC hC
  refine va_calll hr hS (fun q _ h => hF q h) hF (fun r u t H1 locs1 ht hvm hw hB hz1 hk1 hS1 => ?_)
  obtain ⟨hP1, hK1, hD1⟩ := hB
  rw [ht] at hP1
  obtain ⟨hP2, hD2⟩ := va_join hP hD isC isR hC (k_pick_ok hR) hn hdis hk1 hF hP1 hD1
  exact kk r u H1 locs1 hw hP2 hD2 hS1
theorem k_d {S : Type} {w1 : S → va_W} {post : UInt64 → S → Prop} (hr : va_Run p l e R s m args below meth c H locs cells slots mc ms (F0 m pc ls st0) rest (va_Qd post (fun u t => Post0 X (va_A wc H.size) (w1 u) t) (va_A wc H.size) a) (va_A wc H.size))
    (hA : ∀ q, s.heap.size ≤ q → A q) (hP : va_P X.1 vwCl ws H) (hD : va_D A ws) (hS : va_S A s.heap H locs) (hC : isC.map (fun i => ws[i]?) = wc.map some) (hR : isR.all (fun i => decide (i < ws.length)) = true) (hn : va_nd isR = true) (hdis : ∀ i ∈ isR, i ∉ isC)
    (kk : ∀ (z : UInt64) (u : S) (H1 : Heap) (locs1 : List Loc), post z u → va_P X.1 vwCl (k_pick ws isR ++ w1 u) H1 → va_D A (k_pick ws isR ++ w1 u) → va_S A s.heap H1 locs1 → W p l e R s m args below meth c H1 locs1 (cells + mc) (slots + ms) Q (F0 m (pc + 3) ls (.double z :: rest))) : W p l e R s m args below meth c H locs cells slots Q (F0 m pc ls st0) := by
  have hF := va_free hD hS hA isC hC
  refine va_calld hr hS (fun q _ h => hF q h) hF (fun r u t H1 locs1 ht hvm hw hB hz1 hk1 hS1 => ?_)
  obtain ⟨hP1, hK1, hD1⟩ := hB
  rw [ht] at hP1
  obtain ⟨hP2, hD2⟩ := va_join hP hD isC isR hC (k_pick_ok hR) hn hdis hk1 hF hP1 hD1
  exact kk r u H1 locs1 hw hP2 hD2 hS1
theorem k_q {S : Type} {w1 : S → va_W} {post : Option Nat → S → Prop} (hr : va_Run p l e R s m args below meth c H locs cells slots mc ms (F0 m pc ls st0) rest (va_Qq post (fun u t => Post0 X (va_A wc H.size) (w1 u) t) (va_A wc H.size) a) (va_A wc H.size))
    (hA : ∀ q, s.heap.size ≤ q → A q) (hP : va_P X.1 vwCl ws H) (hD : va_D A ws) (hS : va_S A s.heap H locs) (hC : isC.map (fun i => ws[i]?) = wc.map some) (hR : isR.all (fun i => decide (i < ws.length)) = true) (hn : va_nd isR = true) (hdis : ∀ i ∈ isR, i ∉ isC)
    (kk : ∀ (z : Option Nat) (u : S) (H1 : Heap) (locs1 : List Loc), post z u → va_P X.1 vwCl (k_pick ws isR ++ w1 u) H1 → va_D A (k_pick ws isR ++ w1 u) → va_S A s.heap H1 locs1 → W p l e R s m args below meth c H1 locs1 (cells + mc) (slots + ms) Q (F0 m (pc + 3) ls (va_rf z :: rest))) : W p l e R s m args below meth c H locs cells slots Q (F0 m pc ls st0) := by
  have hF := va_free hD hS hA isC hC
  refine va_callq hr hS (fun q _ h => hF q h) hF (fun r u t H1 locs1 ht hvm hw hB hz1 hk1 hS1 => ?_)
  obtain ⟨hP1, hK1, hD1⟩ := hB
  rw [ht] at hP1
  obtain ⟨hP2, hD2⟩ := va_join hP hD isC isR hC (k_pick_ok hR) hn hdis hk1 hF hP1 hD1
  exact kk r u H1 locs1 hw hP2 hD2 hS1
theorem k_v {S : Type} {w1 : S → va_W} {post : S → Prop} (hr : va_Run p l e R s m args below meth c H locs cells slots mc ms (F0 m pc ls st0) rest (va_Qv post (fun u t => Post0 X (va_A wc H.size) (w1 u) t) (va_A wc H.size) a) (va_A wc H.size))
    (hA : ∀ q, s.heap.size ≤ q → A q) (hP : va_P X.1 vwCl ws H) (hD : va_D A ws) (hS : va_S A s.heap H locs) (hC : isC.map (fun i => ws[i]?) = wc.map some) (hR : isR.all (fun i => decide (i < ws.length)) = true) (hn : va_nd isR = true) (hdis : ∀ i ∈ isR, i ∉ isC)
    (kk : ∀ (u : S) (H1 : Heap) (locs1 : List Loc), post u → va_P X.1 vwCl (k_pick ws isR ++ w1 u) H1 → va_D A (k_pick ws isR ++ w1 u) → va_S A s.heap H1 locs1 → W p l e R s m args below meth c H1 locs1 (cells + mc) (slots + ms) Q (F0 m (pc + 3) ls rest)) : W p l e R s m args below meth c H locs cells slots Q (F0 m pc ls st0) := by
  have hF := va_free hD hS hA isC hC
  refine va_callv hr hS (fun q _ h => hF q h) hF (fun u t H1 locs1 ht hvm hw hB hz1 hk1 hS1 => ?_)
  obtain ⟨hP1, hK1, hD1⟩ := hB
  rw [ht] at hP1
  obtain ⟨hP2, hD2⟩ := va_join hP hD isC isR hC (k_pick_ok hR) hn hdis hk1 hF hP1 hD1
  exact kk u H1 locs1 hw hP2 hD2 hS1
/-- a call that may throw: behind the throw the world is as it was -/
theorem k_xi {S : Type} {w1 : S → va_W} {post : Int → S → Prop} {xp : String → Prop} (hr : vx_Run p l e R s m args below meth c H locs cells slots mc ms (F0 m pc ls st0) rest (va_Qi (fun r u => ∃ z : Int, r = iI z ∧ post z u) (fun u t => Post0 X (va_A wc H.size) (w1 u) t) (va_A wc H.size) a) (xT X wc xp (va_A wc H.size)) (va_A wc H.size))
    (hA : ∀ q, s.heap.size ≤ q → A q) (hP : va_P X.1 vwCl ws H) (hD : va_D A ws) (hS : va_S A s.heap H locs) (hC : isC.map (fun i => ws[i]?) = wc.map some) (hR : isR.all (fun i => decide (i < ws.length)) = true) (hn : va_nd isR = true) (hdis : ∀ i ∈ isR, i ∉ isC)
    (kx : ∀ (E : String) (ce : Cell) (q9 : Addr) (H1 : Heap) (locs1 : List Loc), xp E → va_P X.1 vwCl (k_pick ws isR ++ wc) H1 → va_D A (k_pick ws isR ++ wc) → va_S A s.heap H1 locs1 → H1[q9]? = some ce → ce.vm = .none → s.vm.findClass E = some ce.cls → vx_W p l e R s m args below meth c H1 locs1 (cells + mc) (slots + ms) Q (F0 m pc ls rest) q9)
    (kk : ∀ (z : Int) (u : S) (H1 : Heap) (locs1 : List Loc), post z u → va_P X.1 vwCl (k_pick ws isR ++ w1 u) H1 → va_D A (k_pick ws isR ++ w1 u) → va_S A s.heap H1 locs1 → W p l e R s m args below meth c H1 locs1 (cells + mc) (slots + ms) Q (F0 m (pc + 3) ls (.int (iI z) :: rest))) : W p l e R s m args below meth c H locs cells slots Q (F0 m pc ls st0) := by
  have hF := va_free hD hS hA isC hC
  refine vx_calli hr hS (fun q _ h => hF q h) hF (fun q _ h => hF q h) (fun E ce q9 u t H1 locs1 ht hvm hw hB hz1 hk1 hS1 g1 g2 g3 => ?_) (fun r u t H1 locs1 ht hvm hw hB hz1 hk1 hS1 => ?_)
  · obtain ⟨hz, hP1, hK1, hD1⟩ := hB
    rw [ht] at hP1
    obtain ⟨hP2, hD2⟩ := va_join hP hD isC isR hC (k_pick_ok hR) hn hdis hk1 hF hP1 hD1
    exact kx E ce q9 H1 locs1 hz hP2 hD2 hS1 g1 g2 g3
  · obtain ⟨z, rfl, hz⟩ := hw
    obtain ⟨hP1, hK1, hD1⟩ := hB
    rw [ht] at hP1
    obtain ⟨hP2, hD2⟩ := va_join hP hD isC isR hC (k_pick_ok hR) hn hdis hk1 hF hP1 hD1
    exact kk z u H1 locs1 hz hP2 hD2 hS1
theorem k_xv {S : Type} {w1 : S → va_W} {post : S → Prop} {xp : String → Prop} (hr : vx_Run p l e R s m args below meth c H locs cells slots mc ms (F0 m pc ls st0) rest (va_Qv post (fun u t => Post0 X (va_A wc H.size) (w1 u) t) (va_A wc H.size) a) (xT X wc xp (va_A wc H.size)) (va_A wc H.size))
    (hA : ∀ q, s.heap.size ≤ q → A q) (hP : va_P X.1 vwCl ws H) (hD : va_D A ws) (hS : va_S A s.heap H locs) (hC : isC.map (fun i => ws[i]?) = wc.map some) (hR : isR.all (fun i => decide (i < ws.length)) = true) (hn : va_nd isR = true) (hdis : ∀ i ∈ isR, i ∉ isC)
    (kx : ∀ (E : String) (ce : Cell) (q9 : Addr) (H1 : Heap) (locs1 : List Loc), xp E → va_P X.1 vwCl (k_pick ws isR ++ wc) H1 → va_D A (k_pick ws isR ++ wc) → va_S A s.heap H1 locs1 → H1[q9]? = some ce → ce.vm = .none → s.vm.findClass E = some ce.cls → vx_W p l e R s m args below meth c H1 locs1 (cells + mc) (slots + ms) Q (F0 m pc ls rest) q9)
    (kk : ∀ (u : S) (H1 : Heap) (locs1 : List Loc), post u → va_P X.1 vwCl (k_pick ws isR ++ w1 u) H1 → va_D A (k_pick ws isR ++ w1 u) → va_S A s.heap H1 locs1 → W p l e R s m args below meth c H1 locs1 (cells + mc) (slots + ms) Q (F0 m (pc + 3) ls rest)) : W p l e R s m args below meth c H locs cells slots Q (F0 m pc ls st0) := by
  have hF := va_free hD hS hA isC hC
  refine vx_callv hr hS (fun q _ h => hF q h) hF (fun q _ h => hF q h) (fun E ce q9 u t H1 locs1 ht hvm hw hB hz1 hk1 hS1 g1 g2 g3 => ?_) (fun u t H1 locs1 ht hvm hw hB hz1 hk1 hS1 => ?_)
  · obtain ⟨hz, hP1, hK1, hD1⟩ := hB
    rw [ht] at hP1
    obtain ⟨hP2, hD2⟩ := va_join hP hD isC isR hC (k_pick_ok hR) hn hdis hk1 hF hP1 hD1
    exact kx E ce q9 H1 locs1 hz hP2 hD2 hS1 g1 g2 g3
  · obtain ⟨hP1, hK1, hD1⟩ := hB
    rw [ht] at hP1
    obtain ⟨hP2, hD2⟩ := va_join hP hD isC isR hC (k_pick_ok hR) hn hdis hk1 hF hP1 hD1
    exact kk u H1 locs1 hw hP2 hD2 hS1
/-- ends -/
theorem r_i {cc : ByteArray} {S : Type} {w1 : S → va_W} {post : Int → S → Prop} {z : Int} (u : S) (hx : p.tables.exec = Jvm.exec) (hb : c.code = cc) (hr : meth.sig.returnType = some .int) (hlocks : meth.locks = false) (hK : va_K X.1 vwCl (tyL X) s) (hP : va_P X.1 vwCl (w1 u) H) (hD : va_D A (w1 u)) (hS : va_S A s.heap H locs) (h : post z u) (h1 : cells ≤ mc) (h2 : slots ≤ ms) (hdg : decode cc pc = .ok (.ireturn, 1)) :
    W p l e R s m args below meth c H locs cells slots (MQ below (va_Qi (fun r u => ∃ z : Int, r = iI z ∧ post z u) (fun u t => Post0 X A (w1 u) t) A) args s mc ms A) (F0 m pc ls [.int (iI z)]) :=
  W.widen h1 h2 (W.iret hx hb hr (fun t ht hW => ⟨⟨iI z, u, rfl, ⟨z, rfl, h⟩, by rw [ht]; exact hP, va_K.moved hW.alike hK, hD⟩, hS.F ht⟩) hS.2.2 hdg hlocks)
theorem r_z {cc : ByteArray} {S : Type} {w1 : S → va_W} {post : Int → S → Prop} {z : Int} (u : S) (hx : p.tables.exec = Jvm.exec) (hb : c.code = cc) (hr : meth.sig.returnType = some .boolean) (hlocks : meth.locks = false) (hK : va_K X.1 vwCl (tyL X) s) (hP : va_P X.1 vwCl (w1 u) H) (hD : va_D A (w1 u)) (hS : va_S A s.heap H locs) (hz : z = 0 ∨ z = 1) (h : post z u) (h1 : cells ≤ mc) (h2 : slots ≤ ms) (hdg : decode cc pc = .ok (.ireturn, 1)) :
    W p l e R s m args below meth c H locs cells slots (MQ below (va_Qi (fun r u => ∃ z : Int, r = iI z ∧ post z u) (fun u t => Post0 X A (w1 u) t) A) args s mc ms A) (F0 m pc ls [.int (iI z)]) :=
  W.widen h1 h2 (W.zret hx hb hr (by rcases hz with rfl | rfl <;> decide +kernel) (fun t ht hW => ⟨⟨iI z, u, rfl, ⟨z, rfl, h⟩, by rw [ht]; exact hP, va_K.moved hW.alike hK, hD⟩, hS.F ht⟩) hS.2.2 hdg hlocks)
theorem r_l {cc : ByteArray} {S : Type} {w1 : S → va_W} {post : Int64 → S → Prop} {z : Int64} (u : S) (hx : p.tables.exec = Jvm.exec) (hb : c.code = cc) (hr : meth.sig.returnType = some .long) (hlocks : meth.locks = false) (hK : va_K X.1 vwCl (tyL X) s) (hP : va_P X.1 vwCl (w1 u) H) (hD : va_D A (w1 u)) (hS : va_S A s.heap H locs) (h : post z u) (h1 : cells ≤ mc) (h2 : slots ≤ ms) (hdg : decode cc pc = .ok (.lreturn, 1)) :
    W p l e R s m args below meth c H locs cells slots (MQ below (va_Ql post (fun u t => Post0 X A (w1 u) t) A) args s mc ms A) (F0 m pc ls [.long z]) :=
  W.widen h1 h2 (W.lret hx hb hr (fun t ht hW => ⟨⟨z, u, rfl, h, by rw [ht]; exact hP, va_K.moved hW.alike hK, hD⟩, hS.F ht⟩) hS.2.2 hdg hlocks)
theorem r_d {cc : ByteArray} {S : Type} {w1 : S → va_W} {post : UInt64 → S → Prop} {z : UInt64} (u : S) (hx : p.tables.exec = Jvm.exec) (hb : c.code = cc) (hr : meth.sig.returnType = some .double) (hlocks : meth.locks = false) (hK : va_K X.1 vwCl (tyL X) s) (hP : va_P X.1 vwCl (w1 u) H) (hD : va_D A (w1 u)) (hS : va_S A s.heap H locs) (h : post z u) (h1 : cells ≤ mc) (h2 : slots ≤ ms) (hdg : decode cc pc = .ok (.dreturn, 1)) :
    W p l e R s m args below meth c H locs cells slots (MQ below (va_Qd post (fun u t => Post0 X A (w1 u) t) A) args s mc ms A) (F0 m pc ls [.double z]) :=
  W.widen h1 h2 (W.dret hx hb hr (fun t ht hW => ⟨⟨z, u, rfl, h, by rw [ht]; exact hP, va_K.moved hW.alike hK, hD⟩, hS.F ht⟩) hS.2.2 hdg hlocks)
theorem r_v {cc : ByteArray} {S : Type} {w1 : S → va_W} {post : S → Prop} (u : S) (hx : p.tables.exec = Jvm.exec) (hb : c.code = cc) (hr : meth.sig.returnType = none) (hlocks : meth.locks = false) (hK : va_K X.1 vwCl (tyL X) s) (hP : va_P X.1 vwCl (w1 u) H) (hD : va_D A (w1 u)) (hS : va_S A s.heap H locs) (h : post u) (h1 : cells ≤ mc) (h2 : slots ≤ ms) (hdg : decode cc pc = .ok (.return_, 1)) :
    W p l e R s m args below meth c H locs cells slots (MQ below (va_Qv post (fun u t => Post0 X A (w1 u) t) A) args s mc ms A) (F0 m pc ls []) :=
  W.widen h1 h2 (W.vret hx hb hr (fun t ht hW => ⟨⟨u, rfl, h, by rw [ht]; exact hP, va_K.moved hW.alike hK, hD⟩, hS.F ht⟩) hS.2.2 hdg hlocks)
theorem r_q {cc : ByteArray} {S : Type} {w1 : S → va_W} {post : Option Nat → S → Prop} {z : Option Nat} {rt : FieldType} (u : S) (hx : p.tables.exec = Jvm.exec) (hb : c.code = cc) (hr : meth.sig.returnType = some rt) (hrt : (∃ n, rt = .object n) ∨ ∃ t, rt = .array t) (hlocks : meth.locks = false) (hK : va_K X.1 vwCl (tyL X) s) (hP : va_P X.1 vwCl (w1 u) H) (hD : va_D A (w1 u)) (hS : va_S A s.heap H locs) (h : post z u) (h1 : cells ≤ mc) (h2 : slots ≤ ms) (hdg : decode cc pc = .ok (.areturn, 1)) :
    W p l e R s m args below meth c H locs cells slots (MQ below (va_Qq post (fun u t => Post0 X A (w1 u) t) A) args s mc ms A) (F0 m pc ls [va_rf z]) :=
  W.widen h1 h2 (W.aret hx hb hr hrt (by cases z with | none => exact Or.inl rfl | some a => exact Or.inr ⟨a, rfl⟩) (fun t ht hW => ⟨⟨z, u, rfl, h, by rw [ht]; exact hP, va_K.moved hW.alike hK, hD⟩, hS.F ht⟩) hS.2.2 hdg hlocks)
/-- a throw that the callee made goes on to the caller, nothing of the world having changed -/
theorem x_out {xp : String → Prop} {Qc : Array Value → State → Outcome → State → Prop} {w0 : va_W} {E : String} {ce : Cell} {q : Addr} (hn : ∀ x ∈ c.exceptionTable.toList, False) (hlocks : meth.locks = false) (hK : va_K X.1 vwCl (tyL X) s) (hx : xp E) (hP : va_P X.1 vwCl w0 H) (hD : va_D A w0) (hS : va_S A s.heap H locs) (g1 : H[q]? = some ce) (g2 : ce.vm = .none) (g3 : s.vm.findClass E = some ce.cls) (h1 : cells ≤ mc) (h2 : slots ≤ ms) :
    vx_W p l e R s m args below meth c H locs cells slots (vx_MQ below Qc (xT X w0 xp A) args s mc ms A) (F0 m pc ls rest) q :=
  vx_out (fun x h => (hn x h).elim) hlocks g1 g2 g3 (fun t ht hvm => ⟨(), trivial, ⟨hx, by rw [ht]; exact hP, va_K.moved hvm hK, hD⟩, hS.F ht⟩) hS.2.2 h1 h2
end Cal
section Ofs
variable {l : Launch} {y : MethodName} {ws ws' : List Cond} {rm : Room} {X : XD} {av : List Value} {w0 : va_W} {S : Type} {w1 : S → va_W} {mc ms : Nat} {cc : ByteArray} {maxL : Nat} {ret : Option FieldType}
theorem ent_of {p : Program} {e : Env} {s : State} {m : MethodId} {args : Array Value} {below : List Frame} {meth : Method} {c : Code} {s₁ : State} {sz : Nat} (hav : decide ((lg_sl av).length ≤ maxL) = true) (B : BodyLoose p l y (headSpec ws rm) cc maxL ret e s m args below meth c s₁) (hml : c.maxLocals = maxL) (hv : va_Pc av (Pre0 X w0 sz) args s) :
    ∃ ls : Array Slot, sz = s.heap.size ∧ Ent p X y ws cc maxL ret s m args meth c (va_A w0 sz) ∧ va_P X.1 vwCl w0 s.heap ∧ va_D (va_A w0 sz) w0 ∧ va_S (va_A w0 sz) s.heap s.heap [] ∧ lv_has ls maxL (lv_args 0 av) ∧ entryFrame m args maxL = F0 m 0 ls [] := by
  obtain ⟨rfl, hsz, hP, hK, hD0, hE⟩ := hv
  subst hsz
  exact ⟨_, rfl, ⟨B.exec, B.bytes, B.returns, hml, B.notSynchronized, findClass_of_methodNamed B.named, atoms_spec (ws := ws) B.pre, hK, hE, fun q z => Or.inr z, (name_of_methodNamed B.named B.method).1⟩, hP, hD0.self, va_S.rf, lv_entry av (of_decide_eq_true hav), lg_entry_eq _ _ _⟩
theorem MCi.of {post : Int → S → Prop} (hy : plainName y.cls = true) (hw : ws = .code y cc maxL (some .int) :: ws') (hav : decide ((lg_sl av).length ≤ maxL) = true)
    (h : Bdy l y ws rm X av w0 cc maxL (some .int) (Ei l rm X cc mc ms w1 post)) : MCi l y ws rm X av w0 w1 post mc ms := fun sz =>
  Met.ofW hy hw (fun p e s m args below meth c s₁ B hml hv => by
    obtain ⟨ls, rfl, hE, hP, hD, hS, hl, he⟩ := ent_of (X := X) (av := av) (w0 := w0) (maxL := maxL) hav B hml hv
    rw [he]
    exact h p e s m args below meth c _ ls _ hE hP hD hS hl (fun H locs cells slots ls pc z u a1 a2 a3 a4 a5 a6 a7 => r_i u hE.1 hE.2.1 hE.2.2.1 hE.2.2.2.2.1 hE.2.2.2.2.2.2.2.1 a1 a2 a3 a4 a5 a6 a7))
theorem MCz.of {post : Int → S → Prop} (hy : plainName y.cls = true) (hw : ws = .code y cc maxL (some .boolean) :: ws') (hav : decide ((lg_sl av).length ≤ maxL) = true)
    (h : Bdy l y ws rm X av w0 cc maxL (some .boolean) (Ez l rm X cc mc ms w1 post)) : MCi l y ws rm X av w0 w1 post mc ms := fun sz =>
  Met.ofW hy hw (fun p e s m args below meth c s₁ B hml hv => by
    obtain ⟨ls, rfl, hE, hP, hD, hS, hl, he⟩ := ent_of (X := X) (av := av) (w0 := w0) (maxL := maxL) hav B hml hv
    rw [he]
    exact h p e s m args below meth c _ ls _ hE hP hD hS hl (fun H locs cells slots ls pc z u a1 a2 a3 hz a4 a5 a6 a7 => r_z u hE.1 hE.2.1 hE.2.2.1 hE.2.2.2.2.1 hE.2.2.2.2.2.2.2.1 a1 a2 a3 hz a4 a5 a6 a7))
theorem MCl.of {post : Int64 → S → Prop} (hy : plainName y.cls = true) (hw : ws = .code y cc maxL (some .long) :: ws') (hav : decide ((lg_sl av).length ≤ maxL) = true)
    (h : Bdy l y ws rm X av w0 cc maxL (some .long) (El l rm X cc mc ms w1 post)) : MCl l y ws rm X av w0 w1 post mc ms := fun sz =>
  Met.ofW hy hw (fun p e s m args below meth c s₁ B hml hv => by
    obtain ⟨ls, rfl, hE, hP, hD, hS, hl, he⟩ := ent_of (X := X) (av := av) (w0 := w0) (maxL := maxL) hav B hml hv
    rw [he]
    exact h p e s m args below meth c _ ls _ hE hP hD hS hl (fun H locs cells slots ls pc z u a1 a2 a3 a4 a5 a6 a7 => r_l u hE.1 hE.2.1 hE.2.2.1 hE.2.2.2.2.1 hE.2.2.2.2.2.2.2.1 a1 a2 a3 a4 a5 a6 a7))
theorem MCd.of {post : UInt64 → S → Prop} (hy : plainName y.cls = true) (hw : ws = .code y cc maxL (some .double) :: ws') (hav : decide ((lg_sl av).length ≤ maxL) = true)
    (h : Bdy l y ws rm X av w0 cc maxL (some .double) (Ed l rm X cc mc ms w1 post)) : MCd l y ws rm X av w0 w1 post mc ms := fun sz =>
  Met.ofW hy hw (fun p e s m args below meth c s₁ B hml hv => by
    obtain ⟨ls, rfl, hE, hP, hD, hS, hl, he⟩ := ent_of (X := X) (av := av) (w0 := w0) (maxL := maxL) hav B hml hv
    rw [he]
    exact h p e s m args below meth c _ ls _ hE hP hD hS hl (fun H locs cells slots ls pc z u a1 a2 a3 a4 a5 a6 a7 => r_d u hE.1 hE.2.1 hE.2.2.1 hE.2.2.2.2.1 hE.2.2.2.2.2.2.2.1 a1 a2 a3 a4 a5 a6 a7))
theorem MCv.of {post : S → Prop} (hy : plainName y.cls = true) (hw : ws = .code y cc maxL (none) :: ws') (hav : decide ((lg_sl av).length ≤ maxL) = true)
    (h : Bdy l y ws rm X av w0 cc maxL (none) (Ev l rm X cc mc ms w1 post)) : MCv l y ws rm X av w0 w1 post mc ms := fun sz =>
  Met.ofW hy hw (fun p e s m args below meth c s₁ B hml hv => by
    obtain ⟨ls, rfl, hE, hP, hD, hS, hl, he⟩ := ent_of (X := X) (av := av) (w0 := w0) (maxL := maxL) hav B hml hv
    rw [he]
    exact h p e s m args below meth c _ ls _ hE hP hD hS hl (fun H locs cells slots ls pc u a1 a2 a3 a4 a5 a6 a7 => r_v u hE.1 hE.2.1 hE.2.2.1 hE.2.2.2.2.1 hE.2.2.2.2.2.2.2.1 a1 a2 a3 a4 a5 a6 a7))
theorem MCq.of {post : Option Nat → S → Prop} (hy : plainName y.cls = true) (hw : ws = .code y cc maxL (some (.object "LentMargins$Script")) :: ws') (hav : decide ((lg_sl av).length ≤ maxL) = true)
    (h : Bdy l y ws rm X av w0 cc maxL (some (.object "LentMargins$Script")) (Eq l rm X cc mc ms w1 post)) : MCq l y ws rm X av w0 w1 post mc ms := fun sz =>
  Met.ofW hy hw (fun p e s m args below meth c s₁ B hml hv => by
    obtain ⟨ls, rfl, hE, hP, hD, hS, hl, he⟩ := ent_of (X := X) (av := av) (w0 := w0) (maxL := maxL) hav B hml hv
    rw [he]
    exact h p e s m args below meth c _ ls _ hE hP hD hS hl (fun H locs cells slots ls pc z u a1 a2 a3 a4 a5 a6 a7 => r_q u hE.1 hE.2.1 hE.2.2.1 (Or.inl ⟨_, rfl⟩) hE.2.2.2.2.1 hE.2.2.2.2.2.2.2.1 a1 a2 a3 a4 a5 a6 a7))
/-- an end by a throw: the world as at the start -/
def Ex (l : Launch) (rm : Room) (X : XD) (w0 : va_W) (xp : String → Prop) (mc ms : Nat) : Program → Env → State → MethodId → Array Value → List Frame → Method → Code → (Nat → Prop) → (State → Prop) → Prop := fun p e s m args below meth c A Q =>
  (∀ (H : Heap) (locs : List Loc) (cells slots : Nat) (g : JFrame) (E : String) (ce : Cell) (q : Addr), (∃ pc ls rest, g = F0 m pc ls rest) → xp E → va_P X.1 vwCl w0 H → va_D A w0 → va_S A s.heap H locs → H[q]? = some ce → ce.vm = .none → s.vm.findClass E = some ce.cls → cells ≤ mc → slots ≤ ms → vx_W p l e rm s m args below meth c H locs cells slots Q g q) ∧
  (∀ (H : Heap) (locs : List Loc) (cells slots : Nat) (ls : Array Slot) (pc : Nat) (rest : List Value) (own cls text : String) (names : List String) (ik is ic sa : Nat), s.vm.findClass own = some m.cls → Bundle.fit cls = true → (∀ n ∈ names, Bundle.fit n = true) → (Cond.classLink own ik cls).before args s = true → (Cond.initialized cls).before args s = true → vk_R own is text sa s → (∀ w ∈ vx_atS own ic cls names, w.before args s = true) → (∀ w ∈ Cond.classLink own ik cls :: Cond.initialized cls :: vx_atS own ic cls names, vx_ot w = true) →
    va_P X.1 vwCl w0 H → va_D A w0 → va_S A s.heap H locs → ls.size = c.maxLocals → xp cls → decode c.code pc = .ok (.new ik, 3) → decode c.code (pc + 3) = .ok (.dup, 1) → decode c.code (pc + 4) = .ok (.ldc is, 2) → decode c.code (pc + 6) = .ok (.invokespecial ic, 3) → decode c.code (pc + 9) = .ok (.athrow, 1) → names.length + 3 < rm.frames → (rest.map fun v => v.category).sum + (13 * (names.length + 1) + 43) ≤ rm.locals → cells + 1 ≤ rm.cells → slots + 6 ≤ rm.slots → cells + 1 ≤ mc → slots + 6 ≤ ms →
    W p l e rm s m args below meth c H locs cells slots Q (F0 m pc ls rest))
theorem ex_of {xp : String → Prop} {Qc : Array Value → State → Outcome → State → Prop} {p : Program} {e : Env} {s : State} {m : MethodId} {args : Array Value} {below : List Frame} {meth : Method} {c : Code} {A : Nat → Prop} (hst : l.stackTraces = false) (hn : ∀ x ∈ c.exceptionTable.toList, False) (hE : Ent p X y ws cc maxL ret s m args meth c A) : Ex l rm X w0 xp mc ms p e s m args below meth c A (vx_MQ below Qc (xT X w0 xp A) args s mc ms A) := by
  obtain ⟨hx, hb, hr, hml, hlocks, hown, hts, hK, hS0, hA, hnm⟩ := hE
  refine ⟨fun H locs cells slots g E ce q hg h1 hP hD hS g1 g2 g3 h2 h3 => ?_, fun H locs cells slots ls pc rest own cls text names ik is ic sa b1 b2 b3 b4 b5 b6 b7 b8 hP hD hS hsz hxp d0 d3 d4 d6 d9 r1 r2 r3 r4 r5 r6 => ?_⟩
  · obtain ⟨pc, ls, rest, rfl⟩ := hg
    exact x_out hn hlocks hK h1 hP hD hS g1 g2 g3 h2 h3
  · refine vx_throwS hx rfl hst b1 b2 b3 b4 b5 b6 b7 b8 hS0.2.2.2.1 hS0.2.2.2.2 hS hsz d0 d3 d4 d6 d9 (fun x h => (hn x h).elim) r1 r2 r3 r4 hlocks (fun t hvm hz hk => ⟨(), trivial, ⟨hxp, hP.kept (fun k q hq => hk q.1 ((hP k q hq).lt)), va_K.moved hvm hK, hD⟩, ⟨Nat.le_trans hS.1 hz, fun q hq hnA => (hk q (Nat.lt_of_lt_of_le hq hS.1)).trans (hS.2.1 q hq hnA)⟩⟩) hS.2.2 r5 r6
theorem MXi.of {post : Int → S → Prop} {xp : String → Prop} (hst : l.stackTraces = false) (hy : plainName y.cls = true) (hw : ws = .code y cc maxL (some .int) :: ws') (hav : decide ((lg_sl av).length ≤ maxL) = true)
    (h : Bdy l y ws rm X av w0 cc maxL (some .int) (fun p e s m args below meth c A Q => Ex l rm X w0 xp mc ms p e s m args below meth c A Q ∧ Ei l rm X cc mc ms w1 post p e s m args below meth c A Q)) : MXi l y ws rm X av w0 w1 post xp mc ms := fun sz =>
  vx_ofW hy hw (fun p e s m args below meth c s₁ B hml hn hv => by
    obtain ⟨ls, rfl, hE, hP, hD, hS, hl, he⟩ := ent_of (X := X) (av := av) (w0 := w0) (maxL := maxL) hav B hml hv
    rw [he]
    exact h p e s m args below meth c _ ls _ hE hP hD hS hl ⟨ex_of hst hn hE, fun H locs cells slots ls pc z u a1 a2 a3 a4 a5 a6 a7 => vx_ret (r_i u hE.1 hE.2.1 hE.2.2.1 hE.2.2.2.2.1 hE.2.2.2.2.2.2.2.1 a1 a2 a3 a4 a5 a6 a7)⟩)
theorem MXv.of {post : S → Prop} {xp : String → Prop} (hst : l.stackTraces = false) (hy : plainName y.cls = true) (hw : ws = .code y cc maxL (none) :: ws') (hav : decide ((lg_sl av).length ≤ maxL) = true)
    (h : Bdy l y ws rm X av w0 cc maxL (none) (fun p e s m args below meth c A Q => Ex l rm X w0 xp mc ms p e s m args below meth c A Q ∧ Ev l rm X cc mc ms w1 post p e s m args below meth c A Q)) : MXv l y ws rm X av w0 w1 post xp mc ms := fun sz =>
  vx_ofW hy hw (fun p e s m args below meth c s₁ B hml hn hv => by
    obtain ⟨ls, rfl, hE, hP, hD, hS, hl, he⟩ := ent_of (X := X) (av := av) (w0 := w0) (maxL := maxL) hav B hml hv
    rw [he]
    exact h p e s m args below meth c _ ls _ hE hP hD hS hl ⟨ex_of hst hn hE, fun H locs cells slots ls pc u a1 a2 a3 a4 a5 a6 a7 => vx_ret (r_v u hE.1 hE.2.1 hE.2.2.1 hE.2.2.2.2.1 hE.2.2.2.2.2.2.2.1 a1 a2 a3 a4 a5 a6 a7)⟩)
end Ofs
