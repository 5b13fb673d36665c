/-! Pure words: ints, rows of ints. -/
def iI (z : Int) : Int32 := Int32.ofInt z
def inR (z : Int) : Prop := -2147483648 ≤ z ∧ z ≤ 2147483647
def updI (f : Nat → Int) (k : Nat) (v : Int) : Nat → Int := fun j => if j = k then v else f j
def cpyI (f g : Nat → Int) (sp dp n : Nat) : Nat → Int := fun k => if dp ≤ k ∧ k < dp + n then f (sp + (k - dp)) else g k
theorem inR_of {z : Int} (h : -2147483648 ≤ z ∧ z ≤ 2147483647) : inR z := h
theorem inR_lit {z : Int} (h : (decide (-2147483648 ≤ z) && decide (z ≤ 2147483647)) = true) : inR z := by
  rw [Bool.and_eq_true, decide_eq_true_eq, decide_eq_true_eq] at h
  exact h
def tb (l : List Int) : Nat → Int := fun j => l.getD j 0
def tb_LEAST_SETTING : Nat → Int := tb [20, 2, 0, 0, 0, 0]
def tb_GREATEST_SETTING : Nat → Int := tb [200, 20, 10, 10, 10, 1]
def tb_FIRST_SETTING : Nat → Int := tb [60, 6, 3, 3, 2, 1]
def tb_FIRST_SHARE : Nat → Int := tb [50, 50, 50, 100, 100, 100, 50, 50]
def tb_SIGN_WIDTH : Nat → Int := tb [3, 2, 2, 2, 2, 3, 2, 2]
def tb_SIGN_BYTE : Nat → Int := tb [34, 40, 41, 46, 44, 45, 59, 33]
def tb_LETTER_WIDTH : Nat → Int := tb [4, 4, 4, 4, 4, 2, 4, 4, 2, 2, 4, 2, 6, 4, 4, 4, 4, 4, 4, 2, 4, 4, 6, 4, 4, 4]
abbrev SS : Type := Int × (Nat → Int) × (Nat → Int) × (Nat → Int) × (Nat → Int) × (Nat → Int) × (Nat → Int) × (Nat → Int) × (Nat → Int)
def rotH (ha : Nat → Nat) : Nat → Nat := fun i => ha ((i + 9) % 36)
