/-! Bodies that catch: contracts of methods with an exception table. -/
theorem Met.ofWH {l : Launch} {y : MethodName} {ws ws' : List Cond} {rm : Room} {Pc : Array Value → State → Prop} {Qc : Array Value → State → Outcome → State → Prop} {mc ms : Nat} {free : Addr → Prop} {cc : ByteArray} {maxL : Nat} {ret : Option FieldType} {hh : List (Nat × Nat × Nat × Nat)}
    (hy : plainName y.cls = true) (hw : ws = Cond.codeWith y cc maxL ret hh :: ws')
    (body : ∀ p e s m args below meth c s₁, BodyLoose p l y (headSpec ws rm) cc maxL ret e s m args below meth c s₁ → c.maxLocals = maxL → c.exceptionTable.toList = tableOf hh → Pc args s →
      W p l e (headSpec ws rm).room s m args below meth c s.heap [] 0 0 (MQ below Qc args s mc ms free) (entryFrame m args maxL)) : Met l y ws rm Pc Qc mc ms free := by
  refine MetFree.of_bodyS (code := cc) (maxLocals := maxL) (ret := ret) hy ?_ ?_
  · intro args s m h hn
    obtain ⟨m9, meth, c, hn9, h1, h2, h3, h4, -, h5, h6, -⟩ := Cond.codeWith_spec (atoms_spec (ws := ws) h _ (by rw [hw]; exact List.mem_cons_self))
    cases hn.symm.trans hn9
    exact ⟨meth, c, h1, h2, h3, h4, h5, h6⟩
  · intro p e s m args below meth c s₁ B hml hP _
    have hh0 : s₁.heap = s.heap := by rw [B.state]; rfl
    have htab : c.exceptionTable.toList = tableOf hh := vx_table (x := y) B (atoms_spec (ws := ws) B.pre _ (by rw [hw]; exact List.mem_cons_self))
    obtain ⟨t, a1, o, b1, b2, b3⟩ := body p e s m args below meth c s₁ B hml htab hP s₁ hh0 (Stand.of_body B)
    exact ⟨t, o, a1, b1, b2, b3⟩
theorem MHi.of {l : Launch} {y : MethodName} {ws ws' : List Cond} {rm : Room} {X : XD} {av : List Value} {w0 : va_W} {S : Type} {w1 : S → va_W} {mc ms : Nat} {cc : ByteArray} {maxL : Nat} {hh : List (Nat × Nat × Nat × Nat)} {post : Int → S → Prop} (hy : plainName y.cls = true) (hw : ws = .codeWith y cc maxL (some .int) hh :: ws') (hav : decide ((lg_sl av).length ≤ maxL) = true)
    (h : ∀ (p : Program) (e : Env) (s : State) (m : MethodId) (args : Array Value) (below : List Frame) (meth : Method) (c : Code) (A : Nat → Prop) (ls : Array Slot) (Q : State → Prop), Ent p X y ws cc maxL (some .int) s m args meth c A → c.exceptionTable.toList = tableOf hh → va_P X.1 vwCl w0 s.heap → va_D A w0 → va_S A s.heap s.heap [] → lv_has ls maxL (lv_args 0 av) → Ei l rm X cc mc ms w1 post p e s m args below meth c A Q →
      W p l e rm s m args below meth c s.heap [] 0 0 Q (F0 m 0 ls [])) : MCi l y ws rm X av w0 w1 post mc ms := fun sz =>
  Met.ofWH hy hw (fun p e s m args below meth c s₁ B hml htab hv => by
    obtain ⟨ls, rfl, hE, hP, hD, hS, hl, he⟩ := ent_of (X := X) (av := av) (w0 := w0) (maxL := maxL) hav B hml hv
    rw [he]
    exact h p e s m args below meth c _ ls _ hE htab hP hD hS hl (fun H locs cells slots ls pc z u a1 a2 a3 a4 a5 a6 a7 => r_i u hE.1 hE.2.1 hE.2.2.1 hE.2.2.2.2.1 hE.2.2.2.2.2.2.2.1 a1 a2 a3 a4 a5 a6 a7))
