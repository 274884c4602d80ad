/-! The curve in whole numbers: what class and model both stand for. -/
def rs_pzI (pz : Nat → Int64) (a : Nat → Nat → Nat → Int) : Prop := ∀ ax j d, ax < 3 → j < 6 → d < 4 → pz (24 * ax + 4 * j + d) = lI (a ax j d)
/-- Bernstein's numbers of a piece, times 3 -/
def rs_be (a : Nat → Int) (m : Nat) : Int :=
  match m with
  | 0 => 3 * a 0
  | 1 => 3 * a 0 + a 1
  | 2 => 3 * a 0 + 2 * a 1 + a 2
  | _ => 3 * (a 0 + a 1 + a 2 + a 3)
def rs_bd (b : Nat → Nat → Int) : Prop := ∀ j, j < 6 → ∀ m, m < 4 → -10368000000 ≤ rs_be (b j) m ∧ rs_be (b j) m ≤ 10368000000
def rs_pos (b : Nat → Nat → Int) : Prop := ∀ j, j < 6 → ∀ m, m < 4 → 0 < rs_be (b j) m
/-- the curve's own invariant -/
def rs_PI (g : Nat) (tm : Nat → Nat) (a : Nat → Nat → Nat → Int) : Prop := (1 ≤ g ∧ g ≤ 3) ∧ (∀ k, tm k ≤ g) ∧ (tm 0 = 0 ∧ ∀ k, 6 ≤ k → tm k = 0) ∧ (∀ ax, ax < 3 → rs_sm 5 g tm (a ax) ∧ rs_dg g (a ax) ∧ (∀ j, rs_dv g (a ax j)) ∧ rs_bd (a ax)) ∧ rs_pos (a 2)
/-- a control number -/
def rs_cc (g : Nat) (tm : Nat → Nat) (b : Nat → Nat → Int) (i : Nat) : Int := rs_bu g (rs_al g (b (rs_t g tm i))) ((rs_t g tm (i + 1) : Int) - rs_t g tm i) ((rs_t g tm (i + 2) : Int) - rs_t g tm i) ((rs_t g tm (i + 3) : Int) - rs_t g tm i)
theorem rs_ct_cc {g : Nat} {tm : Nat → Nat} {b : Nat → Nat → Int} (hg : 1 ≤ g) (hg3 : g ≤ 3) (hv : ∀ j, rs_dv g (b j)) (i : Nat) : rs_ct g tm b i = g * rs_cc g tm b i := rs_nu_bu hg hg3 (hv _) _ _ _
/-- the class's curve -/
def rs_CI (g : Nat) (tm : Nat → Nat) (a : Nat → Nat → Nat → Int) (n : Nat) (kn : Nat → Nat) (rz : Nat → Nat → Int64) : Prop := n = rs_cu g tm 6 ∧ (∀ i, i < n + g + 1 → kn i = rs_t g tm i) ∧ (∀ i, kn i ≤ 6) ∧ ∀ ax i, ax < 3 → i < n → rz ax i = lI (rs_cc g tm (a ax) i)
theorem rs_can {g : Nat} (hg : 1 ≤ g) {x y : Int} (h : (g : Int) * x = g * y) : x = y := by
  have hg0 : (g : Int) ≠ 0 := by omega
  exact Int.eq_of_mul_eq_mul_left hg0 h
theorem rs_cc_any {g : Nat} {tm : Nat → Nat} {b : Nat → Nat → Int} (hg : 1 ≤ g) (hg3 : g ≤ 3) (htm : ∀ k, tm k ≤ g) (hs : rs_sm 5 g tm b) (hd : rs_dg g b) (hv : ∀ j, rs_dv g (b j)) {i j : Nat} (h1 : rs_t g tm i ≤ j) (h2 : j < rs_t g tm (i + g + 1)) (h5 : j ≤ 5) :
    rs_bu g (rs_al g (b j)) ((rs_t g tm (i + 1) : Int) - j) ((rs_t g tm (i + 2) : Int) - j) ((rs_t g tm (i + 3) : Int) - j) = rs_cc g tm b i := by
  have h := rs_ct_any hg hg3 htm (Nat.le_refl 5) hs hd h1 h2 h5
  rw [rs_nu_bu hg hg3 (hv j), rs_ct_cc hg hg3 hv] at h
  exact rs_can hg h
/-- the blossom's numbers are not large -/
theorem rs_al_b {g : Nat} {b : Nat → Int} (hg : 1 ≤ g) (hg3 : g ≤ 3) (h : ∀ m, m < 4 → -10368000000 ≤ rs_be b m ∧ rs_be b m ≤ 10368000000) :
    (-3456000000 ≤ rs_al g b 0 ∧ rs_al g b 0 ≤ 3456000000) ∧ (-20736000000 ≤ rs_al g b 1 ∧ rs_al g b 1 ≤ 20736000000) ∧ (-41472000000 ≤ rs_al g b 2 ∧ rs_al g b 2 ≤ 41472000000) ∧ (-27648000000 ≤ rs_al g b 3 ∧ rs_al g b 3 ≤ 27648000000) := by
  have h0 : -10368000000 ≤ 3 * b 0 ∧ 3 * b 0 ≤ 10368000000 := h 0 (by omega)
  have h1 : -10368000000 ≤ 3 * b 0 + b 1 ∧ 3 * b 0 + b 1 ≤ 10368000000 := h 1 (by omega)
  have h2 : -10368000000 ≤ 3 * b 0 + 2 * b 1 + b 2 ∧ 3 * b 0 + 2 * b 1 + b 2 ≤ 10368000000 := h 2 (by omega)
  have h3 : -10368000000 ≤ 3 * (b 0 + b 1 + b 2 + b 3) ∧ 3 * (b 0 + b 1 + b 2 + b 3) ≤ 10368000000 := h 3 (by omega)
  have hgc : g = 1 ∨ g = 2 ∨ g = 3 := by omega
  rcases hgc with rfl | rfl | rfl
  · show (-3456000000 ≤ b 0 ∧ b 0 ≤ _) ∧ (_ ≤ b 1 ∧ b 1 ≤ _) ∧ (_ ≤ b 2 ∧ b 2 ≤ _) ∧ (_ ≤ b 3 ∧ b 3 ≤ _)
    omega
  · show (-3456000000 ≤ b 0 ∧ b 0 ≤ _) ∧ (_ ≤ b 1 / 2 ∧ b 1 / 2 ≤ _) ∧ (_ ≤ b 2 ∧ b 2 ≤ _) ∧ (_ ≤ b 3 ∧ b 3 ≤ _)
    omega
  · show (-3456000000 ≤ b 0 ∧ b 0 ≤ _) ∧ (_ ≤ b 1 / 3 ∧ b 1 / 3 ≤ _) ∧ (_ ≤ b 2 / 3 ∧ b 2 / 3 ≤ _) ∧ (_ ≤ b 3 ∧ b 3 ≤ _)
    omega
theorem rs_ab2 {x y M : Int} (hx : -M ≤ x ∧ x ≤ M) (hy : -M ≤ y ∧ y ≤ M) : -(M * M) ≤ x * y ∧ x * y ≤ M * M := rs_absmul hx.1 hx.2 hy.1 hy.2
theorem rs_ab3 {x y z M : Int} (hx : -M ≤ x ∧ x ≤ M) (hy : -M ≤ y ∧ y ≤ M) (hz : -M ≤ z ∧ z ≤ M) : -(M * M * M) ≤ x * y * z ∧ x * y * z ≤ M * M * M := by
  have h := rs_ab2 hx hy
  exact rs_absmul h.1 h.2 hz.1 hz.2
/-- a blossom with scaled arguments is not large -/
theorem rs_bh_b {g : Nat} {b : Nat → Int} (hg : 1 ≤ g) (hg3 : g ≤ 3) (hb : (-3456000000 ≤ b 0 ∧ b 0 ≤ 3456000000) ∧ (-20736000000 ≤ b 1 ∧ b 1 ≤ 20736000000) ∧ (-41472000000 ≤ b 2 ∧ b 2 ≤ 41472000000) ∧ (-27648000000 ≤ b 3 ∧ b 3 ≤ 27648000000)) {M h1 x h2 y h3 z : Int} (hM : (g = 3 ∧ M = 60) ∨ (g ≤ 2 ∧ M = 360)) (k1 : -M ≤ h1 ∧ h1 ≤ M) (k2 : -M ≤ x ∧ x ≤ M) (k3 : -M ≤ h2 ∧ h2 ≤ M) (k4 : -M ≤ y ∧ y ≤ M) (k5 : -M ≤ h3 ∧ h3 ≤ M) (k6 : -M ≤ z ∧ z ≤ M) :
    -50000000000000000 ≤ rs_bh g b h1 x h2 y h3 z ∧ rs_bh g b h1 x h2 y h3 z ≤ 50000000000000000 := by
  obtain ⟨b0, b1, b2, b3⟩ := hb
  have hgc : g = 1 ∨ g = 2 ∨ g = 3 := by omega
  rcases hgc with rfl | rfl | rfl
  · have hM' : M = 360 := by omega
    subst hM'
    rw [rs_bh1]
    have p1 := rs_absmul b0.1 b0.2 k1.1 k1.2
    have p2 := rs_absmul b1.1 b1.2 k2.1 k2.2
    omega
  · have hM' : M = 360 := by omega
    subst hM'
    rw [rs_bh2]
    have q1 := rs_ab2 k1 k3
    have q2 := rs_ab2 k2 k3
    have q3 := rs_ab2 k1 k4
    have q4 := rs_ab2 k2 k4
    have p1 := rs_absmul b0.1 b0.2 q1.1 q1.2
    have p2 := rs_absmul (a := b 1) (b := x * h2 + h1 * y) (B := 259200) b1.1 b1.2 (by omega) (by omega)
    have p3 := rs_absmul b2.1 b2.2 q4.1 q4.2
    omega
  · have hM' : M = 60 := by omega
    subst hM'
    rw [rs_bh3]
    have q1 := rs_ab3 k1 k3 k5
    have q2 := rs_ab3 k2 k3 k5
    have q3 := rs_ab3 k1 k4 k5
    have q4 := rs_ab3 k1 k3 k6
    have q5 := rs_ab3 k2 k4 k5
    have q6 := rs_ab3 k2 k3 k6
    have q7 := rs_ab3 k1 k4 k6
    have q8 := rs_ab3 k2 k4 k6
    have p1 := rs_absmul b0.1 b0.2 q1.1 q1.2
    have p2 := rs_absmul (a := b 1) (b := x * h2 * h3 + h1 * y * h3 + h1 * h2 * z) (B := 648000) b1.1 b1.2 (by omega) (by omega)
    have p3 := rs_absmul (a := b 2) (b := x * y * h3 + x * h2 * z + h1 * y * z) (B := 648000) b2.1 b2.2 (by omega) (by omega)
    have p4 := rs_absmul b3.1 b3.2 q8.1 q8.2
    omega
theorem rs_t6 (g : Nat) (tm : Nat → Nat) (i : Nat) : rs_t g tm i ≤ 6 := rs_val_le _ _
theorem rs_cc_b {g : Nat} {tm : Nat → Nat} {b : Nat → Nat → Int} (hg : 1 ≤ g) (hg3 : g ≤ 3) (hb : rs_bd b) {i : Nat} (hi : rs_t g tm i ≤ 5) : -50000000000000000 ≤ rs_cc g tm b i ∧ rs_cc g tm b i ≤ 50000000000000000 := by
  have h := rs_al_b hg hg3 (hb (rs_t g tm i) (by omega))
  unfold rs_cc
  rw [← rs_bh_1 hg hg3]
  have e1 := rs_t6 g tm (i + 1)
  have e2 := rs_t6 g tm (i + 2)
  have e3 := rs_t6 g tm (i + 3)
  by_cases h3 : g = 3
  · exact rs_bh_b hg hg3 h (M := 60) (Or.inl ⟨h3, rfl⟩) (by omega) (by omega) (by omega) (by omega) (by omega) (by omega)
  · exact rs_bh_b hg hg3 h (M := 360) (Or.inr ⟨by omega, rfl⟩) (by omega) (by omega) (by omega) (by omega) (by omega) (by omega)
theorem rs_2 : (2 : Int64) = lI 2 := rfl
theorem rs_3 : (3 : Int64) = lI 3 := rfl
/-- the model's control number -/
theorem rs_co_cc2 {g : Nat} {tm : Nat → Nat} {a : Nat → Nat → Nat → Int} {pz : Nat → Int64} (hg : 1 ≤ g) (hg3 : g ≤ 3) {ax : Nat} (hv : ∀ j, rs_dv g (a ax j)) (hb : rs_bd (a ax)) (hz : rs_pzI pz a) {i : Nat} (hax : ax < 3) (hi : rs_t g tm i ≤ 5) : rs_co pz (rs_t g tm) g i ax = lI (rs_cc g tm (a ax) i) := by
  have hcc := rs_cc_b (tm := tm) hg hg3 hb hi
  have hnu := rs_nu_bu hg hg3 (hv (rs_t g tm i)) ((rs_t g tm (i + 1) : Int) - rs_t g tm i) ((rs_t g tm (i + 2) : Int) - rs_t g tm i) ((rs_t g tm (i + 3) : Int) - rs_t g tm i)
  change _ = (g : Int) * rs_cc g tm (a ax) i at hnu
  have e1 := rs_t6 g tm (i + 1)
  have e2 := rs_t6 g tm (i + 2)
  have e3 := rs_t6 g tm (i + 3)
  have z0 := hz ax (rs_t g tm i) 0 hax (by omega) (by omega)
  have z1 := hz ax (rs_t g tm i) 1 hax (by omega) (by omega)
  have z2 := hz ax (rs_t g tm i) 2 hax (by omega) (by omega)
  have z3 := hz ax (rs_t g tm i) 3 hax (by omega) (by omega)
  rw [Nat.add_zero] at z0
  have s0 : rs_ds (rs_t g tm) i 0 = lI ((rs_t g tm (i + 1) : Int) - rs_t g tm i) := rs_isub64 (by show rs_t g tm (i + 1) < _; omega) (by omega)
  have s1 : rs_ds (rs_t g tm) i 1 = lI ((rs_t g tm (i + 2) : Int) - rs_t g tm i) := rs_isub64 (by show rs_t g tm (i + 2) < _; omega) (by omega)
  have s2 : rs_ds (rs_t g tm) i 2 = lI ((rs_t g tm (i + 3) : Int) - rs_t g tm i) := rs_isub64 (by show rs_t g tm (i + 3) < _; omega) (by omega)
  generalize (rs_t g tm (i + 1) : Int) - rs_t g tm i = x at *
  generalize (rs_t g tm (i + 2) : Int) - rs_t g tm i = y at *
  generalize (rs_t g tm (i + 3) : Int) - rs_t g tm i = z at *
  generalize rs_cc g tm (a ax) i = C at *
  have hgc : g = 1 ∨ g = 2 ∨ g = 3 := by omega
  rcases hgc with rfl | rfl | rfl
  · rw [rs_nu1] at hnu
    have E1 : rs_e1 (rs_ds (rs_t 1 tm) i) 1 = lI x := by
      show 0 + rs_ds (rs_t 1 tm) i 0 = _
      rw [s0, rs_0, rs_add]
      exact congrArg lI (by omega)
    show (if (1 : Nat) = 1 then _ else _) = _
    rw [if_pos rfl, z0, z1, E1, rs_mul, rs_add]
    exact congrArg lI (by omega)
  · rw [rs_nu2] at hnu
    have E1 : rs_e1 (rs_ds (rs_t 2 tm) i) 2 = lI (x + y) := by
      show 0 + rs_ds (rs_t 2 tm) i 0 + rs_ds (rs_t 2 tm) i 1 = _
      rw [s0, s1, rs_0, rs_add, rs_add]
      exact congrArg lI (by omega)
    have E2 : rs_e2 (rs_ds (rs_t 2 tm) i) 2 = lI (x * y) := by
      show 0 + 0 * rs_ds (rs_t 2 tm) i 0 + (0 + rs_ds (rs_t 2 tm) i 0) * rs_ds (rs_t 2 tm) i 1 = _
      simp only [s0, s1, rs_0, rs_add, rs_mul]
      exact congrArg lI (by grind)
    show (if (2 : Nat) = 1 then _ else if (2 : Nat) = 2 then _ else _) = _
    rw [if_neg (by decide), if_pos rfl, z0, z1, z2, E1, E2, rs_2]
    simp only [rs_add, rs_mul]
    rw [rs_div (by grind) (by grind) (by decide) (by decide), show 2 * a ax (rs_t 2 tm i) 0 + a ax (rs_t 2 tm i) 1 * (x + y) + 2 * a ax (rs_t 2 tm i) 2 * (x * y) = 2 * C by grind, Int.mul_tdiv_cancel_left _ (by decide)]
  · rw [rs_nu3] at hnu
    have E1 : rs_e1 (rs_ds (rs_t 3 tm) i) 3 = lI (x + y + z) := by
      show 0 + rs_ds (rs_t 3 tm) i 0 + rs_ds (rs_t 3 tm) i 1 + rs_ds (rs_t 3 tm) i 2 = _
      rw [s0, s1, s2, rs_0, rs_add, rs_add, rs_add]
      exact congrArg lI (by omega)
    have E2 : rs_e2 (rs_ds (rs_t 3 tm) i) 3 = lI (x * y + x * z + y * z) := by
      show 0 + 0 * rs_ds (rs_t 3 tm) i 0 + (0 + rs_ds (rs_t 3 tm) i 0) * rs_ds (rs_t 3 tm) i 1 + (0 + rs_ds (rs_t 3 tm) i 0 + rs_ds (rs_t 3 tm) i 1) * rs_ds (rs_t 3 tm) i 2 = _
      simp only [s0, s1, s2, rs_0, rs_add, rs_mul]
      exact congrArg lI (by grind)
    have E3 : rs_e3 (rs_ds (rs_t 3 tm) i) 3 = lI (x * y * z) := by
      show 0 + 0 * rs_ds (rs_t 3 tm) i 0 + (0 + 0 * rs_ds (rs_t 3 tm) i 0) * rs_ds (rs_t 3 tm) i 1 + (0 + 0 * rs_ds (rs_t 3 tm) i 0 + (0 + rs_ds (rs_t 3 tm) i 0) * rs_ds (rs_t 3 tm) i 1) * rs_ds (rs_t 3 tm) i 2 = _
      simp only [s0, s1, s2, rs_0, rs_add, rs_mul]
      exact congrArg lI (by grind)
    show (if (3 : Nat) = 1 then _ else if (3 : Nat) = 2 then _ else _) = _
    rw [if_neg (by decide), if_neg (by decide), z0, z1, z2, z3, E1, E2, E3, rs_3]
    simp only [rs_add, rs_mul]
    rw [rs_div (by grind) (by grind) (by decide) (by decide), show 3 * a ax (rs_t 3 tm i) 0 + a ax (rs_t 3 tm i) 1 * (x + y + z) + a ax (rs_t 3 tm i) 2 * (x * y + x * z + y * z) + 3 * a ax (rs_t 3 tm i) 3 * (x * y * z) = 3 * C by grind, Int.mul_tdiv_cancel_left _ (by decide)]
theorem rs_co_cc {g : Nat} {tm : Nat → Nat} {a : Nat → Nat → Nat → Int} {pz : Nat → Int64} (hP : rs_PI g tm a) (hz : rs_pzI pz a) {i ax : Nat} (hax : ax < 3) (hi : rs_t g tm i ≤ 5) : rs_co pz (rs_t g tm) g i ax = lI (rs_cc g tm (a ax) i) := by
  obtain ⟨⟨hg, hg3⟩, htm, -, hA, -⟩ := hP
  obtain ⟨hs, hd, hv, hb⟩ := hA ax hax
  exact rs_co_cc2 hg hg3 hv hb hz hax hi
