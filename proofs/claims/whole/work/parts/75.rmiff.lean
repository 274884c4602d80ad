/-! The one equation that a removal hangs on. -/
theorem rs_zero {x y : Int} (hy : y ≠ 0) (h : x * y = 0) : x = 0 := (Int.mul_eq_zero.mp h).resolve_right hy
theorem rs_q1 {a b : Nat → Int} {x y z : Int} (h2 : a 2 = 0) (h3 : a 3 = 0) (e0 : rs_sh a 0 = b 0) (hx : 1 ≤ x) : rs_nu 1 b x y z = rs_nu 1 a (x + 1) y z ↔ rs_sh a 1 = b 1 := by
  rw [rs_sh0] at e0
  rw [rs_nu1, rs_nu1, rs_sh1]
  have key : a 0 + a 1 * (x + 1) - (b 0 + b 1 * x) = (a 1 + 2 * a 2 + 3 * a 3 - b 1) * x := by grind
  constructor
  · intro h
    have := rs_zero (x := a 1 + 2 * a 2 + 3 * a 3 - b 1) (y := x) (by omega) (by rw [← key, h, Int.sub_self])
    omega
  · intro h
    exact (Int.sub_eq_zero.mp (key.trans (by rw [show a 1 + 2 * a 2 + 3 * a 3 - b 1 = 0 by omega, Int.zero_mul]))).symm
theorem rs_q20 {a b : Nat → Int} {x y z : Int} (h3 : a 3 = 0) (e0 : rs_sh a 0 = b 0) (e1 : rs_sh a 1 = b 1) (hx : 1 ≤ x) (hy : 1 ≤ y) : rs_nu 2 b x y z = rs_nu 2 a (x + 1) (y + 1) z ↔ rs_sh a 2 = b 2 := by
  rw [rs_sh0] at e0
  rw [rs_sh1] at e1
  rw [rs_nu2, rs_nu2, rs_sh2]
  have key : 2 * a 0 + a 1 * (x + 1 + (y + 1)) + 2 * (a 2 * ((x + 1) * (y + 1))) - (2 * b 0 + b 1 * (x + y) + 2 * (b 2 * (x * y))) = (a 2 + 3 * a 3 - b 2) * (2 * (x * y)) := by grind
  have hp : 0 < x * y := Int.mul_pos (by omega) (by omega)
  constructor
  · intro h
    have := rs_zero (x := a 2 + 3 * a 3 - b 2) (y := 2 * (x * y)) (by omega) (by rw [← key, h, Int.sub_self])
    omega
  · intro h
    exact (Int.sub_eq_zero.mp (key.trans (by rw [show a 2 + 3 * a 3 - b 2 = 0 by omega, Int.zero_mul]))).symm
theorem rs_q21 {a b : Nat → Int} {y z : Int} (h3 : a 3 = 0) (e0 : rs_sh a 0 = b 0) (hy : 1 ≤ y) : rs_nu 2 b 0 y z = rs_nu 2 a (0 + 1) (y + 1) z ↔ rs_sh a 1 = b 1 := by
  rw [rs_sh0] at e0
  rw [rs_nu2, rs_nu2, rs_sh1]
  have key : 2 * a 0 + a 1 * (0 + 1 + (y + 1)) + 2 * (a 2 * ((0 + 1) * (y + 1))) - (2 * b 0 + b 1 * (0 + y) + 2 * (b 2 * (0 * y))) = (a 1 + 2 * a 2 + 3 * a 3 - b 1) * y := by grind
  constructor
  · intro h
    have := rs_zero (x := a 1 + 2 * a 2 + 3 * a 3 - b 1) (y := y) (by omega) (by rw [← key, h, Int.sub_self])
    omega
  · intro h
    exact (Int.sub_eq_zero.mp (key.trans (by rw [show a 1 + 2 * a 2 + 3 * a 3 - b 1 = 0 by omega, Int.zero_mul]))).symm
theorem rs_q30 {a b : Nat → Int} {x y z : Int} (e0 : rs_sh a 0 = b 0) (e1 : rs_sh a 1 = b 1) (e2 : rs_sh a 2 = b 2) (hx : 1 ≤ x) (hy : 1 ≤ y) (hz : 1 ≤ z) : rs_nu 3 b x y z = rs_nu 3 a (x + 1) (y + 1) (z + 1) ↔ rs_sh a 3 = b 3 := by
  rw [rs_sh0] at e0
  rw [rs_sh1] at e1
  rw [rs_sh2] at e2
  rw [rs_nu3, rs_nu3, rs_sh3]
  have key : 3 * a 0 + a 1 * (x + 1 + (y + 1) + (z + 1)) + a 2 * ((x + 1) * (y + 1) + (x + 1) * (z + 1) + (y + 1) * (z + 1)) + 3 * (a 3 * ((x + 1) * (y + 1) * (z + 1))) - (3 * b 0 + b 1 * (x + y + z) + b 2 * (x * y + x * z + y * z) + 3 * (b 3 * (x * y * z))) = (a 3 - b 3) * (3 * (x * y * z)) := by grind
  have hp : 0 < x * y * z := Int.mul_pos (Int.mul_pos (by omega) (by omega)) (by omega)
  constructor
  · intro h
    have := rs_zero (x := a 3 - b 3) (y := 3 * (x * y * z)) (by omega) (by rw [← key, h, Int.sub_self])
    omega
  · intro h
    exact (Int.sub_eq_zero.mp (key.trans (by rw [show a 3 - b 3 = 0 by omega, Int.zero_mul]))).symm
theorem rs_q31 {a b : Nat → Int} {y z : Int} (e0 : rs_sh a 0 = b 0) (e1 : rs_sh a 1 = b 1) (hy : 1 ≤ y) (hz : 1 ≤ z) : rs_nu 3 b 0 y z = rs_nu 3 a (0 + 1) (y + 1) (z + 1) ↔ rs_sh a 2 = b 2 := by
  rw [rs_sh0] at e0
  rw [rs_sh1] at e1
  rw [rs_nu3, rs_nu3, rs_sh2]
  have key : 3 * a 0 + a 1 * (0 + 1 + (y + 1) + (z + 1)) + a 2 * ((0 + 1) * (y + 1) + (0 + 1) * (z + 1) + (y + 1) * (z + 1)) + 3 * (a 3 * ((0 + 1) * (y + 1) * (z + 1))) - (3 * b 0 + b 1 * (0 + y + z) + b 2 * (0 * y + 0 * z + y * z) + 3 * (b 3 * (0 * y * z))) = (a 2 + 3 * a 3 - b 2) * (y * z) := by grind
  have hp : 0 < y * z := Int.mul_pos (by omega) (by omega)
  constructor
  · intro h
    have := rs_zero (x := a 2 + 3 * a 3 - b 2) (y := y * z) (by omega) (by rw [← key, h, Int.sub_self])
    omega
  · intro h
    exact (Int.sub_eq_zero.mp (key.trans (by rw [show a 2 + 3 * a 3 - b 2 = 0 by omega, Int.zero_mul]))).symm
theorem rs_q32 {a b : Nat → Int} {z : Int} (e0 : rs_sh a 0 = b 0) (hz : 1 ≤ z) : rs_nu 3 b 0 0 z = rs_nu 3 a (0 + 1) (0 + 1) (z + 1) ↔ rs_sh a 1 = b 1 := by
  rw [rs_sh0] at e0
  rw [rs_nu3, rs_nu3, rs_sh1]
  have key : 3 * a 0 + a 1 * (0 + 1 + (0 + 1) + (z + 1)) + a 2 * ((0 + 1) * (0 + 1) + (0 + 1) * (z + 1) + (0 + 1) * (z + 1)) + 3 * (a 3 * ((0 + 1) * (0 + 1) * (z + 1))) - (3 * b 0 + b 1 * (0 + 0 + z) + b 2 * (0 * 0 + 0 * z + 0 * z) + 3 * (b 3 * (0 * 0 * z))) = (a 1 + 2 * a 2 + 3 * a 3 - b 1) * z := by grind
  constructor
  · intro h
    have := rs_zero (x := a 1 + 2 * a 2 + 3 * a 3 - b 1) (y := z) (by omega) (by rw [← key, h, Int.sub_self])
    omega
  · intro h
    exact (Int.sub_eq_zero.mp (key.trans (by rw [show a 1 + 2 * a 2 + 3 * a 3 - b 1 = 0 by omega, Int.zero_mul]))).symm
/-- at the first k the finer number is the coarser one before it, just where the pieces fit once more -/
theorem rs_rm_iff {g : Nat} {tm : Nat → Nat} {a : Nat → Nat → Int} (hg : 1 ≤ g) (hg3 : g ≤ 3) (htm : ∀ k, tm k ≤ g) (hd : rs_dg g a) {k : Nat} (hk : 1 ≤ k) (h5 : k ≤ 5) (hkg : tm k < g) (hs : rs_sm (k - 1) g tm a) (hsk : ∀ d, d < g - tm k → rs_sh (a (k - 1)) d = a k d) :
    rs_ct g (rs_up tm k (tm k + 1)) a (rs_cu g tm k) = rs_ct g tm a (rs_cu g tm k - 1) ↔ rs_sh (a (k - 1)) (g - tm k) = a k (g - tm k) := by
  have hc := rs_cu_asc g tm
  have c1 : rs_cu g tm 1 = g + 1 := rfl
  have hcs := rs_cu_s g tm hk
  have hk1 : rs_cu g tm 1 ≤ rs_cu g tm k := rs_cu_mono g tm hk
  have mv : ∀ y, rs_cu g tm k ≤ y → rs_t g (rs_up tm k (tm k + 1)) (y + 1) = rs_t g tm y := fun y hy => by
    obtain ⟨m1, m2, m3⟩ := rs_t_in g tm hk h5 (y + 1)
    by_cases p1 : y + 1 < rs_cu g tm (k + 1)
    · rw [m1 p1]
      have h1 : rs_t g tm (y + 1) = k := rs_val_at hc hk h5 (by omega) p1
      have h2 : rs_t g tm y = k := rs_val_at hc hk h5 hy (by omega)
      rw [h1, h2]
    · by_cases p2 : y + 1 = rs_cu g tm (k + 1)
      · rw [m2 p2]
        have h2 : rs_t g tm y = k := rs_val_at hc hk h5 hy (by omega)
        rw [h2]
      · rw [m3 (by omega), Nat.add_sub_cancel]
  have hfirst : rs_t g (rs_up tm k (tm k + 1)) (rs_cu g tm k) = k := by
    obtain ⟨m1, m2, m3⟩ := rs_t_in g tm hk h5 (rs_cu g tm k)
    by_cases p2 : rs_cu g tm k = rs_cu g tm (k + 1)
    · exact m2 p2
    · rw [m1 (by omega)]; exact rs_val_at hc hk h5 (Nat.le_refl _) (by omega)
  generalize hC : rs_cu g tm k = C at *
  have hlow : rs_t g tm (C - 1) ≤ k - 1 := by
    have h1 := rs_val_k hc hk (by omega) (C - 1)
    have h1' : k ≤ rs_t g tm (C - 1) ↔ rs_cu g tm k ≤ C - 1 := h1
    omega
  have hbig : ∀ y, C + tm k ≤ y → k + 1 ≤ rs_t g tm y := fun y hy => (rs_val_k hc (k := k + 1) (by omega) (by omega) y).2 (by omega)
  have hmid : ∀ y, C ≤ y → y < C + tm k → rs_t g tm y = k := fun y h1 h2 => rs_val_at hc hk h5 (by omega) (by omega)
  have hA := rs_ct_any hg hg3 htm (J := k - 1) (by omega) hs hd (i := C - 1) (j := k - 1) hlow (by
    have := hbig (C - 1 + g + 1) (by omega)
    omega) (Nat.le_refl _)
  rw [show C - 1 + 1 = C by omega, show C - 1 + 2 = C + 1 by omega, show C - 1 + 3 = C + 2 by omega] at hA
  rw [← hA]
  unfold rs_ct
  rw [hfirst, mv C (by omega), mv (C + 1) (by omega), mv (C + 2) (by omega)]
  have r1 : ∀ x : Nat, (rs_t g tm x : Int) - ((k - 1 : Nat) : Int) = ((rs_t g tm x : Int) - (k : Int)) + 1 := fun x => by omega
  rw [r1, r1, r1]
  have b0 := hbig C
  have b1 := hbig (C + 1)
  have b2 := hbig (C + 2)
  have m0 := hmid C (Nat.le_refl _)
  have m1 := hmid (C + 1) (by omega)
  have hgc : g = 1 ∨ g = 2 ∨ g = 3 := by omega
  rcases hgc with rfl | rfl | rfl
  · have e : tm k = 0 := by omega
    rw [e] at hsk ⊢
    exact rs_q1 ((hd _).2 (by omega)) ((hd _).1 (by omega)) (hsk 0 (by omega)) (by have := b0 (by omega); omega)
  · have hmc : tm k = 0 ∨ tm k = 1 := by omega
    rcases hmc with e | e
    · rw [e] at hsk ⊢
      exact rs_q20 ((hd _).1 (by omega)) (hsk 0 (by omega)) (hsk 1 (by omega)) (by have := b0 (by omega); omega) (by have := b1 (by omega); omega)
    · rw [m0 (by omega), Int.sub_self]
      rw [e] at hsk ⊢
      exact rs_q21 ((hd _).1 (by omega)) (hsk 0 (by omega)) (by have := b1 (by omega); omega)
  · have hmc : tm k = 0 ∨ tm k = 1 ∨ tm k = 2 := by omega
    rcases hmc with e | e | e
    · rw [e] at hsk ⊢
      exact rs_q30 (hsk 0 (by omega)) (hsk 1 (by omega)) (hsk 2 (by omega)) (by have := b0 (by omega); omega) (by have := b1 (by omega); omega) (by have := b2 (by omega); omega)
    · rw [m0 (by omega), Int.sub_self]
      rw [e] at hsk ⊢
      exact rs_q31 (hsk 0 (by omega)) (hsk 1 (by omega)) (by have := b1 (by omega); omega) (by have := b2 (by omega); omega)
    · rw [m0 (by omega), m1 (by omega), Int.sub_self]
      rw [e] at hsk ⊢
      exact rs_q32 (hsk 0 (by omega)) (by have := b2 (by omega); omega)
