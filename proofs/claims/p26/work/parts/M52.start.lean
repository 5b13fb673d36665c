/-! What the statement gives of the start: the class's static arrays, its strings, its classes. -/
theorem len_exact {args : Array Value} {s : State} {tm : Term} {N : Nat} (hN : N < 2 ^ 31) (h : (Term.length tm).eval args s none [] s = some (.int (Int32.ofNat N))) {t : Nat} (ht : tm.eval args s none [] s = some (.ref t)) {cell : Cell} (hc : s.heap[t]? = some cell) : cell.slots.size = N := by
  obtain ⟨t2, cell2, ht2, hat, hv⟩ := Term.length_spec h
  cases ht.symm.trans ht2
  obtain ⟨hcell, -, -, -⟩ := State.arrayAt?_spec hat
  cases hc.symm.trans hcell
  have hlt : cell.slots.size < 2 ^ 31 := by
    refine Classical.byContradiction (fun hn => ?_)
    simp only [Term.eval, ht] at h
    have h9 : ((s.arrayAt? t).bind fun c9 => if c9.slots.size < 2147483648 then some (Value.int c9.slots.size.toInt32) else none) = some (Value.int (Int32.ofNat N)) := h
    rw [hat] at h9
    have h8 : (if cell.slots.size < 2147483648 then some (Value.int cell.slots.size.toInt32) else none) = some (Value.int (Int32.ofNat N)) := h9
    rw [if_neg (by omega)] at h8
    cases h8
  have e1 : cell.slots.size.toInt32.toInt = (Int32.ofNat N).toInt := by
    have e0 : Int32.ofNat N = cell.slots.size.toInt32 := Value.int.inj hv
    rw [e0]
  have e2 : cell.slots.size.toInt32 = Int32.ofNat cell.slots.size := rfl
  rw [e2, Int32.toInt_ofNat_of_lt hlt, Int32.toInt_ofNat_of_lt hN] at e1
  omega
theorem st_arr {args : Array Value} {s : State} {nm : String} {N : Nat} {f : Nat → Int} {A : Nat → Prop} (hA0 : ∀ a : Nat, a < s.heap.size → ¬ A a) (hN : N < 2 ^ 31) (h1 : (Cond.arrayOf (.static "LentMargins" nm "[I") .int).before args s = true) (h2 : (Term.length (.static "LentMargins" nm "[I")).eval args s none [] s = some (.int (Int32.ofNat N))) (h3 : (Cond.exactly (.static "LentMargins" nm "[I") "[I").before args s = true) (h4 : (Cond.laysStatic "LentMargins" nm "[I").before args s = true) (h5 : (Cond.initialized "LentMargins").before args s = true)
    (hel : ∀ j : Nat, j < N → (Term.elem (.static "LentMargins" nm "[I") (.int (Int32.ofNat j))).eval args s none [] s = some (.int (iI (f j)))) :
    ∃ t : Nat, va_Z "LentMargins" nm "[I" (.ref t) A s s.heap ∧ va_T .int t N (fun j => .int (iI (f j))) A s s.heap ∧ (∃ cell : Cell, s.heap[t]? = some cell ∧ cell.slots.size = N ∧ ((nm = "FIRST_SETTING" ∨ nm = "FIRST_SHARE") → s.vm.findClass "[I" = some cell.cls)) := by
  obtain ⟨t, ht, hT⟩ := va_Tof (A := A) (f := fun j => .int (iI (f j))) hN h1 h2 hel hA0
  obtain ⟨a, c, cell, k, x1, x2, x3, x4, x5, x6, x7⟩ := Cond.exactly_spec h3
  cases ht.symm.trans x1
  exact ⟨t, va_Zof h4 h5 ht hA0, hT, cell, x3, len_exact hN h2 ht x3, fun _ => by rw [x6]; exact x2⟩
theorem st_str {args : Array Value} {s : State} {k : Nat} {tx : String} (h1 : (Cond.stringRef "LentMargins" k tx).before args s = true) (h2 : (Cond.exactly (.string "LentMargins" k) "java/lang/String").before args s = true) : ∃ a : Nat, vk_R "LentMargins" k tx a s := by
  obtain ⟨a, c, cell, k2, x1, x2, x3, x4, x5, x6, x7⟩ := Cond.exactly_spec h2
  exact ⟨a, vk_R.of h1 x1⟩
theorem all1 {α : Type} {P : α → Prop} {a : α} {l : List α} (h : P a) (t : ∀ x ∈ l, P x) : ∀ x ∈ a :: l, P x := List.forall_mem_cons.mpr ⟨h, t⟩
theorem all0 {α : Type} {P : α → Prop} : ∀ x ∈ ([] : List α), P x := fun _ h => absurd h List.not_mem_nil

set_option maxRecDepth 100000 in
theorem el_LEAST_SETTING {b : Nat} {s : State} (hn : ∀ w ∈ flatC (Jvm.Cond.and given_1 narrow_1), w.before #[Value.ref b] s = true) : ∀ j : Nat, j < 6 → (Term.elem (.static "LentMargins" "LEAST_SETTING" "[I") (.int (Int32.ofNat j))).eval #[Value.ref b] s none [] s = some (.int (iI (tb_LEAST_SETTING j))) := by
  intro j hj
  have hc : j = 0 ∨ j = 1 ∨ j = 2 ∨ j = 3 ∨ j = 4 ∨ j = 5 := by omega
  rcases hc with rfl | rfl | rfl | rfl | rfl | rfl
  · exact (va_eqt (t := .elem (.static "LentMargins" "LEAST_SETTING" "[I") (.int 0)) (z := 20) (hn _ (by decide +kernel))).trans (by rw [show (20 : Int32) = iI (tb_LEAST_SETTING 0) from by decide +kernel])
  · exact (va_eqt (t := .elem (.static "LentMargins" "LEAST_SETTING" "[I") (.int 1)) (z := 2) (hn _ (by decide +kernel))).trans (by rw [show (2 : Int32) = iI (tb_LEAST_SETTING 1) from by decide +kernel])
  · exact (va_eqt (t := .elem (.static "LentMargins" "LEAST_SETTING" "[I") (.int 2)) (z := 0) (hn _ (by decide +kernel))).trans (by rw [show (0 : Int32) = iI (tb_LEAST_SETTING 2) from by decide +kernel])
  · exact (va_eqt (t := .elem (.static "LentMargins" "LEAST_SETTING" "[I") (.int 3)) (z := 0) (hn _ (by decide +kernel))).trans (by rw [show (0 : Int32) = iI (tb_LEAST_SETTING 3) from by decide +kernel])
  · exact (va_eqt (t := .elem (.static "LentMargins" "LEAST_SETTING" "[I") (.int 4)) (z := 0) (hn _ (by decide +kernel))).trans (by rw [show (0 : Int32) = iI (tb_LEAST_SETTING 4) from by decide +kernel])
  · exact (va_eqt (t := .elem (.static "LentMargins" "LEAST_SETTING" "[I") (.int 5)) (z := 0) (hn _ (by decide +kernel))).trans (by rw [show (0 : Int32) = iI (tb_LEAST_SETTING 5) from by decide +kernel])

set_option maxRecDepth 100000 in
theorem el_GREATEST_SETTING {b : Nat} {s : State} (hn : ∀ w ∈ flatC (Jvm.Cond.and given_1 narrow_1), w.before #[Value.ref b] s = true) : ∀ j : Nat, j < 6 → (Term.elem (.static "LentMargins" "GREATEST_SETTING" "[I") (.int (Int32.ofNat j))).eval #[Value.ref b] s none [] s = some (.int (iI (tb_GREATEST_SETTING j))) := by
  intro j hj
  have hc : j = 0 ∨ j = 1 ∨ j = 2 ∨ j = 3 ∨ j = 4 ∨ j = 5 := by omega
  rcases hc with rfl | rfl | rfl | rfl | rfl | rfl
  · exact (va_eqt (t := .elem (.static "LentMargins" "GREATEST_SETTING" "[I") (.int 0)) (z := 200) (hn _ (by decide +kernel))).trans (by rw [show (200 : Int32) = iI (tb_GREATEST_SETTING 0) from by decide +kernel])
  · exact (va_eqt (t := .elem (.static "LentMargins" "GREATEST_SETTING" "[I") (.int 1)) (z := 20) (hn _ (by decide +kernel))).trans (by rw [show (20 : Int32) = iI (tb_GREATEST_SETTING 1) from by decide +kernel])
  · exact (va_eqt (t := .elem (.static "LentMargins" "GREATEST_SETTING" "[I") (.int 2)) (z := 10) (hn _ (by decide +kernel))).trans (by rw [show (10 : Int32) = iI (tb_GREATEST_SETTING 2) from by decide +kernel])
  · exact (va_eqt (t := .elem (.static "LentMargins" "GREATEST_SETTING" "[I") (.int 3)) (z := 10) (hn _ (by decide +kernel))).trans (by rw [show (10 : Int32) = iI (tb_GREATEST_SETTING 3) from by decide +kernel])
  · exact (va_eqt (t := .elem (.static "LentMargins" "GREATEST_SETTING" "[I") (.int 4)) (z := 10) (hn _ (by decide +kernel))).trans (by rw [show (10 : Int32) = iI (tb_GREATEST_SETTING 4) from by decide +kernel])
  · exact (va_eqt (t := .elem (.static "LentMargins" "GREATEST_SETTING" "[I") (.int 5)) (z := 1) (hn _ (by decide +kernel))).trans (by rw [show (1 : Int32) = iI (tb_GREATEST_SETTING 5) from by decide +kernel])

set_option maxRecDepth 100000 in
theorem el_FIRST_SETTING {b : Nat} {s : State} (hn : ∀ w ∈ flatC (Jvm.Cond.and given_1 narrow_1), w.before #[Value.ref b] s = true) : ∀ j : Nat, j < 6 → (Term.elem (.static "LentMargins" "FIRST_SETTING" "[I") (.int (Int32.ofNat j))).eval #[Value.ref b] s none [] s = some (.int (iI (tb_FIRST_SETTING j))) := by
  intro j hj
  have hc : j = 0 ∨ j = 1 ∨ j = 2 ∨ j = 3 ∨ j = 4 ∨ j = 5 := by omega
  rcases hc with rfl | rfl | rfl | rfl | rfl | rfl
  · exact (va_eqt (t := .elem (.static "LentMargins" "FIRST_SETTING" "[I") (.int 0)) (z := 60) (hn _ (by decide +kernel))).trans (by rw [show (60 : Int32) = iI (tb_FIRST_SETTING 0) from by decide +kernel])
  · exact (va_eqt (t := .elem (.static "LentMargins" "FIRST_SETTING" "[I") (.int 1)) (z := 6) (hn _ (by decide +kernel))).trans (by rw [show (6 : Int32) = iI (tb_FIRST_SETTING 1) from by decide +kernel])
  · exact (va_eqt (t := .elem (.static "LentMargins" "FIRST_SETTING" "[I") (.int 2)) (z := 3) (hn _ (by decide +kernel))).trans (by rw [show (3 : Int32) = iI (tb_FIRST_SETTING 2) from by decide +kernel])
  · exact (va_eqt (t := .elem (.static "LentMargins" "FIRST_SETTING" "[I") (.int 3)) (z := 3) (hn _ (by decide +kernel))).trans (by rw [show (3 : Int32) = iI (tb_FIRST_SETTING 3) from by decide +kernel])
  · exact (va_eqt (t := .elem (.static "LentMargins" "FIRST_SETTING" "[I") (.int 4)) (z := 2) (hn _ (by decide +kernel))).trans (by rw [show (2 : Int32) = iI (tb_FIRST_SETTING 4) from by decide +kernel])
  · exact (va_eqt (t := .elem (.static "LentMargins" "FIRST_SETTING" "[I") (.int 5)) (z := 1) (hn _ (by decide +kernel))).trans (by rw [show (1 : Int32) = iI (tb_FIRST_SETTING 5) from by decide +kernel])

set_option maxRecDepth 100000 in
theorem el_FIRST_SHARE {b : Nat} {s : State} (hn : ∀ w ∈ flatC (Jvm.Cond.and given_1 narrow_1), w.before #[Value.ref b] s = true) : ∀ j : Nat, j < 8 → (Term.elem (.static "LentMargins" "FIRST_SHARE" "[I") (.int (Int32.ofNat j))).eval #[Value.ref b] s none [] s = some (.int (iI (tb_FIRST_SHARE j))) := by
  intro j hj
  have hc : j = 0 ∨ j = 1 ∨ j = 2 ∨ j = 3 ∨ j = 4 ∨ j = 5 ∨ j = 6 ∨ j = 7 := by omega
  rcases hc with rfl | rfl | rfl | rfl | rfl | rfl | rfl | rfl
  · exact (va_eqt (t := .elem (.static "LentMargins" "FIRST_SHARE" "[I") (.int 0)) (z := 50) (hn _ (by decide +kernel))).trans (by rw [show (50 : Int32) = iI (tb_FIRST_SHARE 0) from by decide +kernel])
  · exact (va_eqt (t := .elem (.static "LentMargins" "FIRST_SHARE" "[I") (.int 1)) (z := 50) (hn _ (by decide +kernel))).trans (by rw [show (50 : Int32) = iI (tb_FIRST_SHARE 1) from by decide +kernel])
  · exact (va_eqt (t := .elem (.static "LentMargins" "FIRST_SHARE" "[I") (.int 2)) (z := 50) (hn _ (by decide +kernel))).trans (by rw [show (50 : Int32) = iI (tb_FIRST_SHARE 2) from by decide +kernel])
  · exact (va_eqt (t := .elem (.static "LentMargins" "FIRST_SHARE" "[I") (.int 3)) (z := 100) (hn _ (by decide +kernel))).trans (by rw [show (100 : Int32) = iI (tb_FIRST_SHARE 3) from by decide +kernel])
  · exact (va_eqt (t := .elem (.static "LentMargins" "FIRST_SHARE" "[I") (.int 4)) (z := 100) (hn _ (by decide +kernel))).trans (by rw [show (100 : Int32) = iI (tb_FIRST_SHARE 4) from by decide +kernel])
  · exact (va_eqt (t := .elem (.static "LentMargins" "FIRST_SHARE" "[I") (.int 5)) (z := 100) (hn _ (by decide +kernel))).trans (by rw [show (100 : Int32) = iI (tb_FIRST_SHARE 5) from by decide +kernel])
  · exact (va_eqt (t := .elem (.static "LentMargins" "FIRST_SHARE" "[I") (.int 6)) (z := 50) (hn _ (by decide +kernel))).trans (by rw [show (50 : Int32) = iI (tb_FIRST_SHARE 6) from by decide +kernel])
  · exact (va_eqt (t := .elem (.static "LentMargins" "FIRST_SHARE" "[I") (.int 7)) (z := 50) (hn _ (by decide +kernel))).trans (by rw [show (50 : Int32) = iI (tb_FIRST_SHARE 7) from by decide +kernel])

set_option maxRecDepth 100000 in
theorem el_SIGN_WIDTH {b : Nat} {s : State} (hn : ∀ w ∈ flatC (Jvm.Cond.and given_1 narrow_1), w.before #[Value.ref b] s = true) : ∀ j : Nat, j < 8 → (Term.elem (.static "LentMargins" "SIGN_WIDTH" "[I") (.int (Int32.ofNat j))).eval #[Value.ref b] s none [] s = some (.int (iI (tb_SIGN_WIDTH j))) := by
  intro j hj
  have hc : j = 0 ∨ j = 1 ∨ j = 2 ∨ j = 3 ∨ j = 4 ∨ j = 5 ∨ j = 6 ∨ j = 7 := by omega
  rcases hc with rfl | rfl | rfl | rfl | rfl | rfl | rfl | rfl
  · exact (va_eqt (t := .elem (.static "LentMargins" "SIGN_WIDTH" "[I") (.int 0)) (z := 3) (hn _ (by decide +kernel))).trans (by rw [show (3 : Int32) = iI (tb_SIGN_WIDTH 0) from by decide +kernel])
  · exact (va_eqt (t := .elem (.static "LentMargins" "SIGN_WIDTH" "[I") (.int 1)) (z := 2) (hn _ (by decide +kernel))).trans (by rw [show (2 : Int32) = iI (tb_SIGN_WIDTH 1) from by decide +kernel])
  · exact (va_eqt (t := .elem (.static "LentMargins" "SIGN_WIDTH" "[I") (.int 2)) (z := 2) (hn _ (by decide +kernel))).trans (by rw [show (2 : Int32) = iI (tb_SIGN_WIDTH 2) from by decide +kernel])
  · exact (va_eqt (t := .elem (.static "LentMargins" "SIGN_WIDTH" "[I") (.int 3)) (z := 2) (hn _ (by decide +kernel))).trans (by rw [show (2 : Int32) = iI (tb_SIGN_WIDTH 3) from by decide +kernel])
  · exact (va_eqt (t := .elem (.static "LentMargins" "SIGN_WIDTH" "[I") (.int 4)) (z := 2) (hn _ (by decide +kernel))).trans (by rw [show (2 : Int32) = iI (tb_SIGN_WIDTH 4) from by decide +kernel])
  · exact (va_eqt (t := .elem (.static "LentMargins" "SIGN_WIDTH" "[I") (.int 5)) (z := 3) (hn _ (by decide +kernel))).trans (by rw [show (3 : Int32) = iI (tb_SIGN_WIDTH 5) from by decide +kernel])
  · exact (va_eqt (t := .elem (.static "LentMargins" "SIGN_WIDTH" "[I") (.int 6)) (z := 2) (hn _ (by decide +kernel))).trans (by rw [show (2 : Int32) = iI (tb_SIGN_WIDTH 6) from by decide +kernel])
  · exact (va_eqt (t := .elem (.static "LentMargins" "SIGN_WIDTH" "[I") (.int 7)) (z := 2) (hn _ (by decide +kernel))).trans (by rw [show (2 : Int32) = iI (tb_SIGN_WIDTH 7) from by decide +kernel])

set_option maxRecDepth 100000 in
theorem el_LETTER_WIDTH {b : Nat} {s : State} (hn : ∀ w ∈ flatC (Jvm.Cond.and given_1 narrow_1), w.before #[Value.ref b] s = true) : ∀ j : Nat, j < 26 → (Term.elem (.static "LentMargins" "LETTER_WIDTH" "[I") (.int (Int32.ofNat j))).eval #[Value.ref b] s none [] s = some (.int (iI (tb_LETTER_WIDTH j))) := by
  intro j hj
  have hc : j = 0 ∨ j = 1 ∨ j = 2 ∨ j = 3 ∨ j = 4 ∨ j = 5 ∨ j = 6 ∨ j = 7 ∨ j = 8 ∨ j = 9 ∨ j = 10 ∨ j = 11 ∨ j = 12 ∨ j = 13 ∨ j = 14 ∨ j = 15 ∨ j = 16 ∨ j = 17 ∨ j = 18 ∨ j = 19 ∨ j = 20 ∨ j = 21 ∨ j = 22 ∨ j = 23 ∨ j = 24 ∨ j = 25 := by omega
  rcases hc with rfl | rfl | rfl | rfl | rfl | rfl | rfl | rfl | rfl | rfl | rfl | rfl | rfl | rfl | rfl | rfl | rfl | rfl | rfl | rfl | rfl | rfl | rfl | rfl | rfl | rfl
  · exact (va_eqt (t := .elem (.static "LentMargins" "LETTER_WIDTH" "[I") (.int 0)) (z := 4) (hn _ (by decide +kernel))).trans (by rw [show (4 : Int32) = iI (tb_LETTER_WIDTH 0) from by decide +kernel])
  · exact (va_eqt (t := .elem (.static "LentMargins" "LETTER_WIDTH" "[I") (.int 1)) (z := 4) (hn _ (by decide +kernel))).trans (by rw [show (4 : Int32) = iI (tb_LETTER_WIDTH 1) from by decide +kernel])
  · exact (va_eqt (t := .elem (.static "LentMargins" "LETTER_WIDTH" "[I") (.int 2)) (z := 4) (hn _ (by decide +kernel))).trans (by rw [show (4 : Int32) = iI (tb_LETTER_WIDTH 2) from by decide +kernel])
  · exact (va_eqt (t := .elem (.static "LentMargins" "LETTER_WIDTH" "[I") (.int 3)) (z := 4) (hn _ (by decide +kernel))).trans (by rw [show (4 : Int32) = iI (tb_LETTER_WIDTH 3) from by decide +kernel])
  · exact (va_eqt (t := .elem (.static "LentMargins" "LETTER_WIDTH" "[I") (.int 4)) (z := 4) (hn _ (by decide +kernel))).trans (by rw [show (4 : Int32) = iI (tb_LETTER_WIDTH 4) from by decide +kernel])
  · exact (va_eqt (t := .elem (.static "LentMargins" "LETTER_WIDTH" "[I") (.int 5)) (z := 2) (hn _ (by decide +kernel))).trans (by rw [show (2 : Int32) = iI (tb_LETTER_WIDTH 5) from by decide +kernel])
  · exact (va_eqt (t := .elem (.static "LentMargins" "LETTER_WIDTH" "[I") (.int 6)) (z := 4) (hn _ (by decide +kernel))).trans (by rw [show (4 : Int32) = iI (tb_LETTER_WIDTH 6) from by decide +kernel])
  · exact (va_eqt (t := .elem (.static "LentMargins" "LETTER_WIDTH" "[I") (.int 7)) (z := 4) (hn _ (by decide +kernel))).trans (by rw [show (4 : Int32) = iI (tb_LETTER_WIDTH 7) from by decide +kernel])
  · exact (va_eqt (t := .elem (.static "LentMargins" "LETTER_WIDTH" "[I") (.int 8)) (z := 2) (hn _ (by decide +kernel))).trans (by rw [show (2 : Int32) = iI (tb_LETTER_WIDTH 8) from by decide +kernel])
  · exact (va_eqt (t := .elem (.static "LentMargins" "LETTER_WIDTH" "[I") (.int 9)) (z := 2) (hn _ (by decide +kernel))).trans (by rw [show (2 : Int32) = iI (tb_LETTER_WIDTH 9) from by decide +kernel])
  · exact (va_eqt (t := .elem (.static "LentMargins" "LETTER_WIDTH" "[I") (.int 10)) (z := 4) (hn _ (by decide +kernel))).trans (by rw [show (4 : Int32) = iI (tb_LETTER_WIDTH 10) from by decide +kernel])
  · exact (va_eqt (t := .elem (.static "LentMargins" "LETTER_WIDTH" "[I") (.int 11)) (z := 2) (hn _ (by decide +kernel))).trans (by rw [show (2 : Int32) = iI (tb_LETTER_WIDTH 11) from by decide +kernel])
  · exact (va_eqt (t := .elem (.static "LentMargins" "LETTER_WIDTH" "[I") (.int 12)) (z := 6) (hn _ (by decide +kernel))).trans (by rw [show (6 : Int32) = iI (tb_LETTER_WIDTH 12) from by decide +kernel])
  · exact (va_eqt (t := .elem (.static "LentMargins" "LETTER_WIDTH" "[I") (.int 13)) (z := 4) (hn _ (by decide +kernel))).trans (by rw [show (4 : Int32) = iI (tb_LETTER_WIDTH 13) from by decide +kernel])
  · exact (va_eqt (t := .elem (.static "LentMargins" "LETTER_WIDTH" "[I") (.int 14)) (z := 4) (hn _ (by decide +kernel))).trans (by rw [show (4 : Int32) = iI (tb_LETTER_WIDTH 14) from by decide +kernel])
  · exact (va_eqt (t := .elem (.static "LentMargins" "LETTER_WIDTH" "[I") (.int 15)) (z := 4) (hn _ (by decide +kernel))).trans (by rw [show (4 : Int32) = iI (tb_LETTER_WIDTH 15) from by decide +kernel])
  · exact (va_eqt (t := .elem (.static "LentMargins" "LETTER_WIDTH" "[I") (.int 16)) (z := 4) (hn _ (by decide +kernel))).trans (by rw [show (4 : Int32) = iI (tb_LETTER_WIDTH 16) from by decide +kernel])
  · exact (va_eqt (t := .elem (.static "LentMargins" "LETTER_WIDTH" "[I") (.int 17)) (z := 4) (hn _ (by decide +kernel))).trans (by rw [show (4 : Int32) = iI (tb_LETTER_WIDTH 17) from by decide +kernel])
  · exact (va_eqt (t := .elem (.static "LentMargins" "LETTER_WIDTH" "[I") (.int 18)) (z := 4) (hn _ (by decide +kernel))).trans (by rw [show (4 : Int32) = iI (tb_LETTER_WIDTH 18) from by decide +kernel])
  · exact (va_eqt (t := .elem (.static "LentMargins" "LETTER_WIDTH" "[I") (.int 19)) (z := 2) (hn _ (by decide +kernel))).trans (by rw [show (2 : Int32) = iI (tb_LETTER_WIDTH 19) from by decide +kernel])
  · exact (va_eqt (t := .elem (.static "LentMargins" "LETTER_WIDTH" "[I") (.int 20)) (z := 4) (hn _ (by decide +kernel))).trans (by rw [show (4 : Int32) = iI (tb_LETTER_WIDTH 20) from by decide +kernel])
  · exact (va_eqt (t := .elem (.static "LentMargins" "LETTER_WIDTH" "[I") (.int 21)) (z := 4) (hn _ (by decide +kernel))).trans (by rw [show (4 : Int32) = iI (tb_LETTER_WIDTH 21) from by decide +kernel])
  · exact (va_eqt (t := .elem (.static "LentMargins" "LETTER_WIDTH" "[I") (.int 22)) (z := 6) (hn _ (by decide +kernel))).trans (by rw [show (6 : Int32) = iI (tb_LETTER_WIDTH 22) from by decide +kernel])
  · exact (va_eqt (t := .elem (.static "LentMargins" "LETTER_WIDTH" "[I") (.int 23)) (z := 4) (hn _ (by decide +kernel))).trans (by rw [show (4 : Int32) = iI (tb_LETTER_WIDTH 23) from by decide +kernel])
  · exact (va_eqt (t := .elem (.static "LentMargins" "LETTER_WIDTH" "[I") (.int 24)) (z := 4) (hn _ (by decide +kernel))).trans (by rw [show (4 : Int32) = iI (tb_LETTER_WIDTH 24) from by decide +kernel])
  · exact (va_eqt (t := .elem (.static "LentMargins" "LETTER_WIDTH" "[I") (.int 25)) (z := 4) (hn _ (by decide +kernel))).trans (by rw [show (4 : Int32) = iI (tb_LETTER_WIDTH 25) from by decide +kernel])

set_option maxRecDepth 100000 in
set_option maxHeartbeats 4000000 in
theorem st_Sn {b : Nat} {s : State} (hts : ∀ w ∈ lw_tbl, w.before #[Value.ref b] s = true) (hn : ∀ w ∈ flatC (Jvm.Cond.and given_1 narrow_1), w.before #[Value.ref b] s = true) : Sn s := by
  refine ⟨?_, ?_, va_Nw.of rfl (hts (.castable "[I" "java/lang/Cloneable") (by decide +kernel)), va_AO.of (hts (.arrayOver (.object "LentMargins$Script")) (by decide +kernel)), ?_, ?_, ?_⟩
  · exact (all1 (va_Nw.of rfl (hts (.methodLinkNest "LentMargins" 18 yX1_init "LentMargins") (by decide +kernel))) (all1 (va_Nw.of rfl (hts (.methodLinkNest "LentMargins" 28 yX4_init "LentMargins") (by decide +kernel))) (all1 (va_Nw.of rfl (hts (.methodLinkNest "LentMargins" 38 yX0_init "LentMargins") (by decide +kernel))) (all1 (va_Nw.of rfl (hts (.methodLinkNest "LentMargins" 9 yX3_init "LentMargins") (by decide +kernel))) (all1 (va_Nw.of rfl (hts (.methodLinkNest "LentMargins$History" 11 yX3_init "LentMargins") (by decide +kernel))) (all1 (va_Nw.of rfl (hts (.methodLinkNest "LentMargins$Layout" 26 yX2_init "LentMargins") (by decide +kernel))) (all1 (va_Nw.of rfl (hts (.methodLinkNest "LentMargins$Script" 79 yX5_signWidth "LentMargins") (by decide +kernel))) all0)))))))
  · exact (all1 (va_Nw.of rfl (hts (.fieldLinkNest "LentMargins$Script" 31 "LentMargins" "FIRST_SETTING" "[I" "LentMargins") (by decide +kernel))) (all1 (va_Nw.of rfl (hts (.fieldLinkNest "LentMargins$Script" 42 "LentMargins" "FIRST_SHARE" "[I" "LentMargins") (by decide +kernel))) (all1 (va_Nw.of rfl (hts (.fieldLinkNest "LentMargins$Script" 76 "LentMargins" "LETTER_WIDTH" "[I" "LentMargins") (by decide +kernel))) all0)))
  · exact (all1 (va_Nw.of rfl (hts (.castable "java/lang/IndexOutOfBoundsException" "java/lang/IndexOutOfBoundsException") (by decide +kernel))) (all1 (va_Nw.of rfl (hts (.castable "java/lang/IllegalArgumentException" "java/lang/IllegalArgumentException") (by decide +kernel))) (all1 (va_Nw.of rfl (hts (.castable "java/lang/IllegalStateException" "java/lang/IllegalStateException") (by decide +kernel))) all0)))
  · exact (all1 (va_Nw.of rfl (hts (.declares (Bundle.initS "java/lang/RuntimeException")) (by decide +kernel))) (all1 (va_Nw.of rfl (hts (.declares (Bundle.initS "java/lang/Exception")) (by decide +kernel))) (all1 (va_Nw.of rfl (hts (.declares (Bundle.initS "java/lang/Throwable")) (by decide +kernel))) all0)))
  · exact (all1 (all1 (fun n => absurd rfl n) (all1 (fun _ => va_Nc.of (hn (.not (.castable "java/lang/IndexOutOfBoundsException" "java/lang/IllegalArgumentException")) (by decide +kernel))) (all1 (fun _ => va_Nc.of (hn (.not (.castable "java/lang/IndexOutOfBoundsException" "java/lang/IllegalStateException")) (by decide +kernel))) all0))) (all1 (all1 (fun _ => va_Nc.of (hn (.not (.castable "java/lang/IllegalArgumentException" "java/lang/IndexOutOfBoundsException")) (by decide +kernel))) (all1 (fun n => absurd rfl n) (all1 (fun _ => va_Nc.of (hn (.not (.castable "java/lang/IllegalArgumentException" "java/lang/IllegalStateException")) (by decide +kernel))) all0))) (all1 (all1 (fun _ => va_Nc.of (hn (.not (.castable "java/lang/IllegalStateException" "java/lang/IndexOutOfBoundsException")) (by decide +kernel))) (all1 (fun _ => va_Nc.of (hn (.not (.castable "java/lang/IllegalStateException" "java/lang/IllegalArgumentException")) (by decide +kernel))) (all1 (fun n => absurd rfl n) all0))) all0)))

set_option maxRecDepth 100000 in
set_option maxHeartbeats 4000000 in
theorem st_ok {b : Nat} {s : State} {A : Nat → Prop} (hA0 : ∀ a : Nat, a < s.heap.size → ¬ A a) (hts : ∀ w ∈ lw_tbl, w.before #[Value.ref b] s = true) (hn : ∀ w ∈ flatC (Jvm.Cond.and given_1 narrow_1), w.before #[Value.ref b] s = true) : St A s s.heap := by
  refine ⟨st_Sn hts hn, ?_, ?_, ?_, ?_⟩
  · exact (all1 (st_arr (f := tb_LEAST_SETTING) hA0 (by decide) (hn _ (by decide +kernel)) (va_eqt (z := 6) (hn _ (by decide +kernel))) (hn _ (by decide +kernel)) (hts _ (by decide +kernel)) (hts _ (by decide +kernel)) (el_LEAST_SETTING hn)) (all1 (st_arr (f := tb_GREATEST_SETTING) hA0 (by decide) (hn _ (by decide +kernel)) (va_eqt (z := 6) (hn _ (by decide +kernel))) (hn _ (by decide +kernel)) (hts _ (by decide +kernel)) (hts _ (by decide +kernel)) (el_GREATEST_SETTING hn)) (all1 (st_arr (f := tb_FIRST_SETTING) hA0 (by decide) (hn _ (by decide +kernel)) (va_eqt (z := 6) (hn _ (by decide +kernel))) (hn _ (by decide +kernel)) (hts _ (by decide +kernel)) (hts _ (by decide +kernel)) (el_FIRST_SETTING hn)) (all1 (st_arr (f := tb_FIRST_SHARE) hA0 (by decide) (hn _ (by decide +kernel)) (va_eqt (z := 8) (hn _ (by decide +kernel))) (hn _ (by decide +kernel)) (hts _ (by decide +kernel)) (hts _ (by decide +kernel)) (el_FIRST_SHARE hn)) (all1 (st_arr (f := tb_SIGN_WIDTH) hA0 (by decide) (hn _ (by decide +kernel)) (va_eqt (z := 8) (hn _ (by decide +kernel))) (hn _ (by decide +kernel)) (hts _ (by decide +kernel)) (hts _ (by decide +kernel)) (el_SIGN_WIDTH hn)) (all1 (st_arr (f := tb_LETTER_WIDTH) hA0 (by decide) (hn _ (by decide +kernel)) (va_eqt (z := 26) (hn _ (by decide +kernel))) (hn _ (by decide +kernel)) (hts _ (by decide +kernel)) (hts _ (by decide +kernel)) (el_LETTER_WIDTH hn)) all0))))))
  · exact (all1 (st_str (hts (.stringRef "LentMargins" 205 "there is none of this number") (by decide +kernel)) (hn (.exactly (.string "LentMargins" 205) "java/lang/String") (by decide +kernel))) (all1 (st_str (hts (.stringRef "LentMargins" 208 "an argument is out of range") (by decide +kernel)) (hn (.exactly (.string "LentMargins" 208) "java/lang/String") (by decide +kernel))) (all1 (st_str (hts (.stringRef "LentMargins" 216 "such a sign cannot stand there") (by decide +kernel)) (hn (.exactly (.string "LentMargins" 216) "java/lang/String") (by decide +kernel))) (all1 (st_str (hts (.stringRef "LentMargins" 60 "there is no room for another word") (by decide +kernel)) (hn (.exactly (.string "LentMargins" 60) "java/lang/String") (by decide +kernel))) all0))))
  · exact vx_Zqof (hts (.laysStatic Bundle.tN "UNASSIGNED_STACK" Bundle.steD) (by decide +kernel)) (hts (.initialized Bundle.tN) (by decide +kernel)) (hn (.isRef (.static Bundle.tN "UNASSIGNED_STACK" Bundle.steD)) (by decide +kernel)) hA0
  · exact vx_Zqof (hts (.laysStatic Bundle.tN "SUPPRESSED_SENTINEL" Bundle.listD) (by decide +kernel)) (hts (.initialized Bundle.tN) (by decide +kernel)) (hn (.isRef (.static Bundle.tN "SUPPRESSED_SENTINEL" Bundle.listD)) (by decide +kernel)) hA0
