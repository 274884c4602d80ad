/-! Knots by where each number begins. -/
/-- how many knots are below k: g + 1 times 0, then tm 1 times 1, .. -/
def rs_cu (g : Nat) (tm : Nat → Nat) : Nat → Nat
  | 0 => 0
  | 1 => g + 1
  | k + 2 => rs_cu g tm (k + 1) + tm (k + 1)
theorem rs_cu_le (g : Nat) (tm : Nat → Nat) : ∀ k, rs_cu g tm k ≤ rs_cu g tm (k + 1)
  | 0 => Nat.zero_le _
  | k + 1 => Nat.le_add_right _ _
theorem rs_cu_mono (g : Nat) (tm : Nat → Nat) {a b : Nat} (h : a ≤ b) : rs_cu g tm a ≤ rs_cu g tm b := by
  induction b with
  | zero => rw [Nat.le_zero.mp h]; exact Nat.le_refl _
  | succ b ih =>
    by_cases e : a = b + 1
    · rw [e]; exact Nat.le_refl _
    · exact Nat.le_trans (ih (by omega)) (rs_cu_le g tm b)
/-- the rows of where each number begins ascend -/
def rs_asc (c : Nat → Nat) : Prop := c 1 ≤ c 2 ∧ c 2 ≤ c 3 ∧ c 3 ≤ c 4 ∧ c 4 ≤ c 5 ∧ c 5 ≤ c 6
theorem rs_cu_asc (g : Nat) (tm : Nat → Nat) : rs_asc (rs_cu g tm) := ⟨rs_cu_le _ _ 1, rs_cu_le _ _ 2, rs_cu_le _ _ 3, rs_cu_le _ _ 4, rs_cu_le _ _ 5⟩
def rs_v1 (a i : Nat) : Nat := if a ≤ i then 1 else 0
theorem rs_v1_c (a i : Nat) : (a ≤ i ∧ rs_v1 a i = 1) ∨ (i < a ∧ rs_v1 a i = 0) := by
  unfold rs_v1
  by_cases h : a ≤ i
  · exact Or.inl ⟨h, if_pos h⟩
  · exact Or.inr ⟨by omega, if_neg h⟩
/-- the knot at i -/
def rs_val (c : Nat → Nat) (i : Nat) : Nat := rs_v1 (c 1) i + rs_v1 (c 2) i + rs_v1 (c 3) i + rs_v1 (c 4) i + rs_v1 (c 5) i + rs_v1 (c 6) i
theorem rs_val_le (c : Nat → Nat) (i : Nat) : rs_val c i ≤ 6 := by
  have h1 := rs_v1_c (c 1) i
  have h2 := rs_v1_c (c 2) i
  have h3 := rs_v1_c (c 3) i
  have h4 := rs_v1_c (c 4) i
  have h5 := rs_v1_c (c 5) i
  have h6 := rs_v1_c (c 6) i
  unfold rs_val
  omega
/-- a knot is k or more just where k has begun -/
theorem rs_val_iff {c : Nat → Nat} (hc : rs_asc c) (i : Nat) : (1 ≤ rs_val c i ↔ c 1 ≤ i) ∧ (2 ≤ rs_val c i ↔ c 2 ≤ i) ∧ (3 ≤ rs_val c i ↔ c 3 ≤ i) ∧ (4 ≤ rs_val c i ↔ c 4 ≤ i) ∧ (5 ≤ rs_val c i ↔ c 5 ≤ i) ∧ (6 ≤ rs_val c i ↔ c 6 ≤ i) ∧ rs_val c i ≤ 6 := by
  obtain ⟨g1, g2, g3, g4, g5⟩ := hc
  have h1 := rs_v1_c (c 1) i
  have h2 := rs_v1_c (c 2) i
  have h3 := rs_v1_c (c 3) i
  have h4 := rs_v1_c (c 4) i
  have h5 := rs_v1_c (c 5) i
  have h6 := rs_v1_c (c 6) i
  unfold rs_val
  omega
theorem rs_val_eq {c : Nat → Nat} (hc : rs_asc c) {i x : Nat} (h1 : 1 ≤ x ↔ c 1 ≤ i) (h2 : 2 ≤ x ↔ c 2 ≤ i) (h3 : 3 ≤ x ↔ c 3 ≤ i) (h4 : 4 ≤ x ↔ c 4 ≤ i) (h5 : 5 ≤ x ↔ c 5 ≤ i) (h6 : 6 ≤ x ↔ c 6 ≤ i) (hx : x ≤ 6) : x = rs_val c i := by
  obtain ⟨k1, k2, k3, k4, k5, k6, k7⟩ := rs_val_iff hc i
  omega
theorem rs_val_k {c : Nat → Nat} (hc : rs_asc c) {k : Nat} (h1 : 1 ≤ k) (h6 : k ≤ 6) (i : Nat) : k ≤ rs_val c i ↔ c k ≤ i := by
  obtain ⟨k1, k2, k3, k4, k5, k6, k7⟩ := rs_val_iff hc i
  have : k = 1 ∨ k = 2 ∨ k = 3 ∨ k = 4 ∨ k = 5 ∨ k = 6 := by omega
  rcases this with rfl | rfl | rfl | rfl | rfl | rfl <;> assumption
theorem rs_val_at {c : Nat → Nat} (hc : rs_asc c) {k x : Nat} (h1 : 1 ≤ k) (h5 : k ≤ 5) (h : c k ≤ x) (h2 : x < c (k + 1)) : rs_val c x = k := by
  have a1 := (rs_val_k hc h1 (by omega) x).2 h
  have a2 : ¬ k + 1 ≤ rs_val c x := fun z => by
    have := (rs_val_k hc (by omega) (by omega) x).1 z
    omega
  omega
theorem rs_val_mono {c : Nat → Nat} (hc : rs_asc c) {i j : Nat} (h : i ≤ j) : rs_val c i ≤ rs_val c j := by
  obtain ⟨k1, k2, k3, k4, k5, k6, k7⟩ := rs_val_iff hc i
  obtain ⟨l1, l2, l3, l4, l5, l6, l7⟩ := rs_val_iff hc j
  omega
theorem rs_cu_s (g : Nat) (tm : Nat → Nat) {k : Nat} (h : 1 ≤ k) : rs_cu g tm (k + 1) = rs_cu g tm k + tm k := by
  obtain ⟨b, rfl⟩ : ∃ b, k = b + 1 := ⟨k - 1, by omega⟩
  rfl
