/-! One knot fewer: tm is the coarser curve's, the finer one has k once more. Nothing is asked of the pieces at k itself. -/
/-- the candidate of the class is the coarser curve's control number by its first knot's piece, at every place left of k -/
theorem rs_ct_out {g : Nat} {tm : Nat → Nat} {a : Nat → Nat → Int} (hg : 1 ≤ g) (hg3 : g ≤ 3) (htm : ∀ k, tm k ≤ g) (hd : rs_dg g a) {k : Nat} (hk : 1 ≤ k) (h5 : k ≤ 5) (hs : rs_sm (k - 1) g tm a) {i : Nat} (hi : i < rs_cu g tm k) :
    ((k - rs_t g tm i + (rs_t g tm (i + g) - k) : Nat) : Int) * rs_ct g (rs_up tm k (tm k + 1)) a i = ((k - rs_t g tm i : Nat) : Int) * rs_ct g tm a i + ((rs_t g tm (i + g) - k : Nat) : Int) * rs_ct g tm a (i - 1) ∧ 0 < k - rs_t g tm i ∧ (i = 0 → rs_t g tm (i + g) - k = 0) := by
  have hc := rs_cu_asc g tm
  have c1 : rs_cu g tm 1 = g + 1 := rfl
  have hcs := rs_cu_s g tm hk
  have hk1 : rs_cu g tm 1 ≤ rs_cu g tm k := rs_cu_mono g tm hk
  have vi := rs_val_k hc hk (by omega) i
  have vg := rs_val_k hc (k := k + 1) (by omega) (by omega) (i + g)
  have e1 : ¬ k ≤ rs_t g tm i := fun z => by
    have := vi.1 z
    omega
  refine ⟨?_, by omega, ?_⟩
  · by_cases q2 : i + g < rs_cu g tm (k + 1)
    · have e2 : ¬ k + 1 ≤ rs_t g tm (i + g) := fun z => by
        have := vg.1 z
        omega
      have mv : ∀ y, y ≤ i + g → rs_t g (rs_up tm k (tm k + 1)) y = rs_t g tm y := fun y hy => (rs_t_in g tm hk h5 y).1 (by omega)
      have key : rs_ct g (rs_up tm k (tm k + 1)) a i = rs_ct g tm a i := by
        unfold rs_ct
        rw [mv i (by omega)]
        have hgc : g = 1 ∨ g = 2 ∨ g = 3 := by omega
        rcases hgc with rfl | rfl | rfl
        · rw [rs_nu1, rs_nu1, mv (i + 1) (by omega)]
        · rw [rs_nu2, rs_nu2, mv (i + 1) (by omega), mv (i + 2) (by omega)]
        · rw [mv (i + 1) (by omega), mv (i + 2) (by omega), mv (i + 3) (by omega)]
      rw [key, show rs_t g tm (i + g) - k = 0 by omega]
      simp
    · have e2 : k + 1 ≤ rs_t g tm (i + g) := vg.2 (by omega)
      have hti : rs_t g (rs_up tm k (tm k + 1)) i = rs_t g tm i := (rs_t_in g tm hk h5 i).1 (by omega)
      have hi1 : 1 ≤ i := by
        rcases Nat.eq_zero_or_pos i with z | z
        · subst z
          have : rs_t g tm (0 + g) = 0 := by
            have h1 := rs_val_k hc (k := 1) (by omega) (by omega) (0 + g)
            have h1' : 1 ≤ rs_t g tm (0 + g) ↔ rs_cu g tm 1 ≤ 0 + g := h1
            omega
          omega
        · exact z
      have hmi : rs_t g tm (i - 1) ≤ rs_t g tm i := rs_val_mono hc (by omega)
      have hprev := rs_ct_any hg hg3 htm (J := k - 1) (by omega) hs hd (i := i - 1) (j := rs_t g tm i) hmi (by rw [show i - 1 + g + 1 = i + g by omega]; omega) (by omega)
      rw [show i - 1 + 1 = i by omega, show i - 1 + 2 = i + 1 by omega, show i - 1 + 3 = i + 2 by omega] at hprev
      rw [← hprev, show k - rs_t g tm i + (rs_t g tm (i + g) - k) = rs_t g tm (i + g) - rs_t g tm i by omega, Int.ofNat_sub (by omega), Int.ofNat_sub (by omega), Int.ofNat_sub (by omega)]
      unfold rs_ct
      rw [hti]
      have hgc : g = 1 ∨ g = 2 ∨ g = 3 := by omega
      rcases hgc with rfl | rfl | rfl
      · have p1 : rs_t 1 (rs_up tm k (tm k + 1)) (i + 1) = k := (rs_t_in 1 tm hk h5 (i + 1)).2.1 (by omega)
        rw [p1]
        have := rs_aff1 (a (rs_t 1 tm i)) ((k : Int) - rs_t 1 tm i) ((rs_t 1 tm (i + 1) : Int) - rs_t 1 tm i) ((rs_t 1 tm i : Int) - rs_t 1 tm i) 0 0
        rw [rs_nu1, rs_nu1, rs_nu1] at this ⊢
        grind
      · have e0 := rs_t_in 2 tm hk h5 (i + 1)
        have e3 := rs_t_in 2 tm hk h5 (i + 2)
        have this := rs_aff2 (a (rs_t 2 tm i)) ((k : Int) - rs_t 2 tm i) ((rs_t 2 tm (i + 2) : Int) - rs_t 2 tm i) ((rs_t 2 tm i : Int) - rs_t 2 tm i) ((rs_t 2 tm (i + 1) : Int) - rs_t 2 tm i) 0
        by_cases p : rs_cu 2 tm (k + 1) = i + 1
        · rw [e0.2.1 p.symm, e3.2.2 (by omega), show i + 2 - 1 = i + 1 by omega]
          rw [rs_nu2, rs_nu2, rs_nu2] at this ⊢
          grind
        · rw [e0.1 (by omega), e3.2.1 (by omega)]
          rw [rs_nu2, rs_nu2, rs_nu2] at this ⊢
          grind
      · have e0 := rs_t_in 3 tm hk h5 (i + 1)
        have e3 := rs_t_in 3 tm hk h5 (i + 2)
        have e4 := rs_t_in 3 tm hk h5 (i + 3)
        have this := rs_aff3 (a (rs_t 3 tm i)) ((k : Int) - rs_t 3 tm i) ((rs_t 3 tm (i + 3) : Int) - rs_t 3 tm i) ((rs_t 3 tm i : Int) - rs_t 3 tm i) ((rs_t 3 tm (i + 1) : Int) - rs_t 3 tm i) ((rs_t 3 tm (i + 2) : Int) - rs_t 3 tm i)
        by_cases p : rs_cu 3 tm (k + 1) = i + 1
        · rw [e0.2.1 p.symm, e3.2.2 (by omega), e4.2.2 (by omega), show i + 2 - 1 = i + 1 by omega, show i + 3 - 1 = i + 2 by omega]
          rw [rs_nu3, rs_nu3, rs_nu3] at this ⊢
          grind
        · by_cases p2 : rs_cu 3 tm (k + 1) = i + 2
          · rw [e0.1 (by omega), e3.2.1 p2.symm, e4.2.2 (by omega), show i + 3 - 1 = i + 2 by omega]
            rw [rs_nu3, rs_nu3, rs_nu3] at this ⊢
            grind
          · rw [e0.1 (by omega), e3.1 (by omega), e4.2.1 (by omega)]
            rw [rs_nu3, rs_nu3, rs_nu3] at this ⊢
            grind
  · intro z
    subst z
    have h1 := rs_val_k hc (k := 1) (by omega) (by omega) (0 + g)
    have h1' : 1 ≤ rs_t g tm (0 + g) ↔ rs_cu g tm 1 ≤ 0 + g := h1
    omega
