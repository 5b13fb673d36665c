/-! The quotient of two small whole numbers is no NaN. -/
theorem nan_enc {s : Bool} {e t : Nat} (he : e < 2048) (ht : t < 4503599627370496) (h : e = 2047 → t = 0) : vf_n64 (.ofNat (FP.Core.assemble FP.Core.b64 s e t)) := by
  unfold vf_n64
  rw [UInt64.le_iff_toNat_le, UInt64.toNat_and]
  have hs : s.toNat ≤ 1 := by cases s <;> decide
  have e0 : FP.Core.assemble FP.Core.b64 s e t = (s.toNat * 2048 + e) * 4503599627370496 + t := rfl
  have e1 : (UInt64.ofNat (FP.Core.assemble FP.Core.b64 s e t)).toNat = (s.toNat * 2048 + e) * 4503599627370496 + t := by
    rw [e0]
    exact UInt64.toNat_ofNat_of_lt' (by show _ < 2 ^ 64; omega)
  have e2 : (0x7fffffffffffffff : UInt64).toNat = 2 ^ 63 - 1 := rfl
  have e3 : (0x7ff0000000000000 : UInt64).toNat = 2047 * 4503599627370496 := rfl
  rw [e1, e2, e3, Nat.and_two_pow_sub_one_eq_mod]
  have e4 : ((s.toNat * 2048 + e) * 4503599627370496 + t) % 2 ^ 63 = e * 4503599627370496 + t := by omega
  rw [e4]
  by_cases c : e = 2047
  · rw [h c, c]; omega
  · omega
theorem nan_bound {s : Bool} {c : Nat} {q : Int} (hc : c < 2 ^ 53) (hq : -1074 ≤ q) : vf_n64 (.ofNat (FP.Core.encode FP.Core.b64 (FP.Core.bound FP.Core.b64 s c q))) := by
  have e1 : FP.Core.b64.qmax = 971 := rfl
  have e2 : FP.Core.b64.tails = 4503599627370496 := rfl
  have e3 : FP.Core.b64.qmin = -1074 := rfl
  have e4 : FP.Core.b64.exps = 2048 := rfl
  unfold FP.Core.bound
  rw [e1]
  by_cases cq : q ≤ 971
  · rw [if_pos cq]
    have en : FP.Core.encode FP.Core.b64 (.fin s c q) = if c < 4503599627370496 then FP.Core.assemble FP.Core.b64 s 0 c else FP.Core.assemble FP.Core.b64 s ((q - -1074).toNat + 1) (c - 4503599627370496) := rfl
    rw [en]
    by_cases cc : c < 4503599627370496
    · rw [if_pos cc]
      exact nan_enc (by omega) cc (fun z => absurd z (by omega))
    · rw [if_neg cc]
      exact nan_enc (by omega) (by omega) (fun z => absurd z (by omega))
  · rw [if_neg cq]
    have en : FP.Core.encode FP.Core.b64 (.inf s) = FP.Core.assemble FP.Core.b64 s 2047 0 := rfl
    rw [en]
    exact nan_enc (by omega) (by omega) (fun _ => rfl)
theorem nan_ratio {s : Bool} {num den : Nat} {e : Int} : vf_n64 (.ofNat (FP.Core.encode FP.Core.b64 (FP.Core.roundRatio FP.Core.b64 s num den e))) := by
  unfold FP.Core.roundRatio
  by_cases c : num = 0
  · rw [if_pos c]
    exact nan_enc (t := 0) (by omega) (by omega) (fun _ => rfl)
  · rw [if_neg c]
    unfold FP.Core.roundAt FP.Core.settle
    have hq : -1074 ≤ FP.Core.quantum FP.Core.b64 num den e := by
      unfold FP.Core.quantum
      exact Int.le_max_left _ _
    by_cases cc : FP.Core.nearest (FP.Core.unitsNum num e (FP.Core.quantum FP.Core.b64 num den e)) (FP.Core.unitsDen den e (FP.Core.quantum FP.Core.b64 num den e)) < 2 ^ FP.Core.b64.p
    · rw [if_pos cc]
      exact nan_bound cc hq
    · rw [if_neg cc]
      exact nan_bound (by decide) (by omega)
def isFin (d : FP.Core.Datum) : Bool := match d with
  | .fin _ _ _ => true
  | _ => false
def isFin0 (d : FP.Core.Datum) : Bool := match d with
  | .fin _ c _ => c != 0
  | _ => false
def chk (f : Nat → Bool) : Nat → Nat → Bool
  | 0, a => f a
  | k + 1, a => chk f k a && chk f k (a + 2 ^ k)
theorem chk_all {f : Nat → Bool} : ∀ (k a : Nat), chk f k a = true → ∀ i : Nat, a ≤ i → i < a + 2 ^ k → f i = true := by
  intro k
  induction k with
  | zero =>
    intro a h i h1 h2
    have e : i = a := by omega
    rw [e]; exact h
  | succ k ih =>
    intro a h i h1 h2
    rw [chk, Bool.and_eq_true] at h
    rw [Nat.pow_succ] at h2
    by_cases c : i < a + 2 ^ k
    · exact ih a h.1 i h1 c
    · exact ih (a + 2 ^ k) h.2 i (by omega) (by omega)
theorem nan_nums0 : chk (fun i => isFin (FP.Core.decode FP.Core.b64 (FP.Core.fromInt FP.Core.b64 (i : Int))) && decide (FP.Core.fromInt FP.Core.b64 (i : Int) < 2 ^ 64)) 14 0 = true := by decide +kernel
theorem nan_dens0 : chk (fun i => isFin0 (FP.Core.decode FP.Core.b64 (FP.Core.fromInt FP.Core.b64 (i : Int)))) 6 1 = true := by decide +kernel
theorem nan_nums (i : Nat) (h : i < 12001) : isFin (FP.Core.decode FP.Core.b64 (FP.Core.fromInt FP.Core.b64 (i : Int))) = true := by
  have h0 := chk_all 14 0 nan_nums0 i (by omega) (by omega)
  rw [Bool.and_eq_true] at h0
  exact h0.1
theorem nan_small (i : Nat) (h : i < 12001) : FP.Core.fromInt FP.Core.b64 (i : Int) < 2 ^ 64 := by
  have h0 := chk_all 14 0 nan_nums0 i (by omega) (by omega)
  rw [Bool.and_eq_true, decide_eq_true_eq] at h0
  exact h0.2
theorem nan_dens (i : Nat) (h : i < 61) (h2 : 0 < i) : isFin0 (FP.Core.decode FP.Core.b64 (FP.Core.fromInt FP.Core.b64 (i : Int))) = true := chk_all 6 1 nan_dens0 i (by omega) (by omega)
theorem noNaN (a b : Int) (ha : 0 ≤ a) (ha2 : a ≤ 12000) (hb : 1 ≤ b) (hb2 : b ≤ 60) : vf_n64 (FP.ddiv (FP.i2d (iI a)) (FP.i2d (iI b))) := by
  obtain ⟨x, rfl⟩ := Int.eq_ofNat_of_zero_le ha
  obtain ⟨y, rfl⟩ := Int.eq_ofNat_of_zero_le (show 0 ≤ b by omega)
  have t : ∀ z : Nat, z < 12001 → (FP.i2d (iI (z : Int))).toNat = FP.Core.fromInt FP.Core.b64 (z : Int) := fun z hz => by
    unfold FP.i2d FP.Core.i2d
    rw [show (iI (z : Int)).toInt = (z : Int) from Int32.toInt_ofInt_of_le (by omega) (by omega)]
    exact UInt64.toNat_ofNat_of_lt' (nan_small z hz)
  unfold FP.ddiv FP.Core.ddiv FP.Core.div
  rw [t x (by omega), t y (by omega)]
  have h1 := nan_nums x (by omega)
  have h2 := nan_dens y (by omega) (by omega)
  revert h1 h2
  generalize FP.Core.decode FP.Core.b64 (FP.Core.fromInt FP.Core.b64 (x : Int)) = dx
  generalize FP.Core.decode FP.Core.b64 (FP.Core.fromInt FP.Core.b64 (y : Int)) = dy
  intro h1 h2
  cases dx with
  | nan => exact absurd h1 (by intro z; cases z)
  | inf s => exact absurd h1 (by intro z; cases z)
  | fin s c q =>
    cases dy with
    | nan => exact absurd h2 (by intro z; cases z)
    | inf s => exact absurd h2 (by intro z; cases z)
    | fin t d r =>
      unfold FP.Core.quotient
      have hd : d ≠ 0 := fun z => by rw [z] at h2; exact absurd h2 (by intro z; cases z)
      show vf_n64 (.ofNat (FP.Core.encode FP.Core.b64 (if d = 0 then (if c = 0 then .nan else .inf (s != t)) else FP.Core.roundRatio FP.Core.b64 (s != t) c d (q - r))))
      rw [if_neg hd]
      exact nan_ratio
