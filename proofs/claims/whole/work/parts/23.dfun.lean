/-! What the Draft computes. -/
abbrev rs_isc (x : Int32) : Prop := ¬ x < (-1000) ∧ ¬ nI 1000 < x
/-- a point is taken -/
abbrev rs_okp (dd dc : Nat) (x y w : Int32) : Prop := 0 < dd ∧ dc < 19 ∧ rs_isc x ∧ rs_isc y ∧ ¬ w < nI 1 ∧ w ≤ nI 16
/-- a knot is taken -/
abbrev rs_okk (dd di : Nat) (inn : Nat → Nat) (k : Nat) : Prop := 0 < dd ∧ di < 15 ∧ (di = 0 ∨ inn (di - 1) ≤ k) ∧ (di < dd ∨ ¬ inn (di - dd) = k)
def rs_fault (dd dc di : Nat) : Int32 := if dd = 0 then nI 1 else if dc < dd + 1 then nI 2 else if di = dc - dd - 1 then nI 0 else nI 3
def rs_cF (xs ys wt : Nat → Int32) (b j : Nat) : Int64 := if b = 0 then (xs j).toInt64 * (216000 * (wt j).toInt64) else if b = 1 then (ys j).toInt64 * (216000 * (wt j).toInt64) else 216000 * (wt j).toInt64
theorem rs_innT {k : Nat} (h1 : 1 ≤ k) (h5 : k ≤ 5) : decide (0 < nI k ∧ nI k < nI 6) = true := by
  refine decide_eq_true ⟨?_, (nI_ltI (by omega) (by omega)).2 (by omega)⟩
  rw [← nI_0]
  exact (nI_ltI (by omega) (by omega)).2 (by omega)
theorem rs_cp1 {f : Nat → Nat} {j dc : Nat} (h : j < dc) (hA : ∀ i, i < j → f i = 0) : ∀ i, i < j + 1 → rs_up (rs_up f j 0) (dc + j) 6 i = 0 := by
  intro i hi
  rw [rs_up_n (by omega)]
  by_cases e : i = j
  · subst e; exact rs_up_s _ _ _
  · rw [rs_up_n e]; exact hA i (by omega)
theorem rs_cp2 {f : Nat → Nat} {j dc : Nat} (h : j < dc) (hB : ∀ i, i < j → f (dc + i) = 6) : ∀ i, i < j + 1 → rs_up (rs_up f j 0) (dc + j) 6 (dc + i) = 6 := by
  intro i hi
  by_cases e : i = j
  · subst e; exact rs_up_s _ _ _
  · rw [rs_up_n (by omega), rs_up_n (by omega)]; exact hB i (by omega)
theorem rs_cp3 {f : Nat → Nat} {i dd v : Nat} (_ : i ≤ i) (hA : ∀ j, j < dd + 1 → f j = 0) : ∀ j, j < dd + 1 → rs_up f (dd + 1 + i) v j = 0 := by
  intro j hj
  rw [rs_up_n (by omega)]
  exact hA j hj
theorem rs_cp4 {f : Nat → Nat} {i dd dc v : Nat} (h : dd + 1 + i < dc) (hB : ∀ j, j < dd + 1 → f (dc + j) = 6) : ∀ j, j < dd + 1 → rs_up f (dd + 1 + i) v (dc + j) = 6 := by
  intro j hj
  rw [rs_up_n (by omega)]
  exact hB j hj
theorem rs_cp5 {f g : Nat → Nat} {i dd : Nat} (hC : ∀ x, x < i → f (dd + 1 + x) = g x) : ∀ x, x < i + 1 → rs_up f (dd + 1 + i) (g i) (dd + 1 + x) = g x := by
  intro x hx
  by_cases e : x = i
  · subst e; exact rs_up_s _ _ _
  · rw [rs_up_n (by omega)]; exact hC x (by omega)
theorem rs_cF_0 (xs ys wt : Nat → Int32) (j : Nat) : (xs j).toInt64 * (216000 * (wt j).toInt64) = rs_cF xs ys wt 0 j := by
  unfold rs_cF
  rw [if_pos rfl]
theorem rs_cF_1 (xs ys wt : Nat → Int32) (j : Nat) : (ys j).toInt64 * (216000 * (wt j).toInt64) = rs_cF xs ys wt 1 j := by
  unfold rs_cF
  rw [if_neg (by decide), if_pos rfl]
theorem rs_cF_2 (xs ys wt : Nat → Int32) (j : Nat) : 216000 * (wt j).toInt64 = rs_cF xs ys wt 2 j := by
  unfold rs_cF
  rw [if_neg (by decide), if_neg (by decide)]
