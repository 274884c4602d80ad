/-! Longs as whole numbers. -/
abbrev lI (z : Int) : Int64 := Int64.ofInt z
theorem rs_lN (k : Nat) : lN k = lI k := Int64.ofInt_eq_ofNat.symm
theorem rs_add (x y : Int) : lI x + lI y = lI (x + y) := (Int64.ofInt_add x y).symm
theorem rs_sub' (x y : Int) : lI x - lI y = lI (x - y) := (Int64.ofInt_sub x y).symm
theorem rs_mul (x y : Int) : lI x * lI y = lI (x * y) := (Int64.ofInt_mul x y).symm
theorem rs_neg (x : Int) : -lI x = lI (-x) := (Int64.ofInt_neg x).symm
theorem rs_toInt {x : Int} (h1 : -2 ^ 63 ≤ x) (h2 : x < 2 ^ 63) : (lI x).toInt = x := Int64.toInt_ofInt_of_le h1 h2
theorem rs_li (x : Int32) : x.toInt64 = lI x.toInt := (Int64.ofInt_int32ToInt x).symm
theorem rs_isub64 {a b : Nat} (ha : a < 2 ^ 30) (hb : b < 2 ^ 30) : (nI a - nI b).toInt64 = lI ((a : Int) - b) := by
  rw [rs_li, pk_sub_toInt ha hb]
theorem rs_0 : (0 : Int64) = lI 0 := rfl
theorem rs_eq0 {x : Int} (h1 : -2 ^ 63 ≤ x) (h2 : x < 2 ^ 63) : lI x = 0 ↔ x = 0 := by
  constructor
  · intro h
    have h3 := congrArg Int64.toInt h
    rw [rs_toInt h1 h2] at h3
    exact h3
  · intro h; rw [h]; rfl
theorem rs_eq {x y : Int} (h1 : -2 ^ 63 ≤ x) (h2 : x < 2 ^ 63) (h3 : -2 ^ 63 ≤ y) (h4 : y < 2 ^ 63) : lI x = lI y ↔ x = y := by
  constructor
  · intro h
    have h5 := congrArg Int64.toInt h
    rw [rs_toInt h1 h2, rs_toInt h3 h4] at h5
    exact h5
  · intro h; rw [h]
theorem rs_le {x y : Int} (h1 : -2 ^ 63 ≤ x) (h2 : x < 2 ^ 63) (h3 : -2 ^ 63 ≤ y) (h4 : y < 2 ^ 63) : lI x ≤ lI y ↔ x ≤ y := by
  rw [Int64.le_iff_toInt_le, rs_toInt h1 h2, rs_toInt h3 h4]
theorem rs_lt {x y : Int} (h1 : -2 ^ 63 ≤ x) (h2 : x < 2 ^ 63) (h3 : -2 ^ 63 ≤ y) (h4 : y < 2 ^ 63) : lI x < lI y ↔ x < y := by
  rw [Int64.lt_iff_toInt_lt, rs_toInt h1 h2, rs_toInt h3 h4]
theorem rs_div {x y : Int} (h1 : -2 ^ 63 < x) (h2 : x < 2 ^ 63) (h3 : -2 ^ 63 ≤ y) (h4 : y < 2 ^ 63) : lI x / lI y = lI (x.tdiv y) := by
  have hne : lI x ≠ Int64.minValue := by
    intro h
    have h5 := congrArg Int64.toInt h
    rw [rs_toInt (by omega) h2] at h5
    have : Int64.minValue.toInt = -2 ^ 63 := by decide
    omega
  have hr : (lI x / lI y).toInt = x.tdiv y := by
    rw [Int64.toInt_div_of_ne_left _ _ hne, rs_toInt (by omega) h2, rs_toInt h3 h4]
  rw [← Int64.ofInt_toInt (lI x / lI y), hr]
/-- a division that leaves nothing -/
theorem rs_quo_ex {x y : Int} (hy : y ≠ 0) (h1 : -2 ^ 63 < y * x) (h2 : y * x < 2 ^ 63) (h3 : -2 ^ 63 ≤ y) (h4 : y < 2 ^ 63) : rs_quo (lI (y * x)) (lI y) = lI x := by
  unfold rs_quo
  rw [if_neg (fun h => hy ((rs_eq0 h3 h4).1 h)), rs_div h1 h2 h3 h4, Int.mul_tdiv_cancel_left _ hy]
theorem rs_quo_0 {x : Int64} : rs_quo x (lI 0) = 0 := if_pos rfl
theorem rs_absmul {a b A B : Int} (h1 : -A ≤ a) (h2 : a ≤ A) (h3 : -B ≤ b) (h4 : b ≤ B) : -(A * B) ≤ a * b ∧ a * b ≤ A * B := by
  have hA : a.natAbs ≤ A.natAbs := by omega
  have hB : b.natAbs ≤ B.natAbs := by omega
  have hm := Nat.mul_le_mul hA hB
  rw [← Int.natAbs_mul, ← Int.natAbs_mul] at hm
  have hA0 : 0 ≤ A := by omega
  have hB0 : 0 ≤ B := by omega
  have hAB : 0 ≤ A * B := Int.mul_nonneg hA0 hB0
  omega
