/-! One knot more: where the numbers begin, the knots, the control numbers. -/
theorem rs_cu_up (g : Nat) (tm : Nat → Nat) {k : Nat} (hk : 1 ≤ k) : ∀ j, rs_cu g (rs_up tm k (tm k + 1)) j = if j ≤ k then rs_cu g tm j else rs_cu g tm j + 1
  | 0 => by rw [if_pos (Nat.zero_le _)]; rfl
  | 1 => by rw [if_pos hk]; rfl
  | j + 2 => by
    have ih := rs_cu_up g tm hk (j + 1)
    show rs_cu g (rs_up tm k (tm k + 1)) (j + 1) + rs_up tm k (tm k + 1) (j + 1) = _
    rw [ih]
    by_cases e : j + 1 = k
    · subst e
      rw [if_pos (Nat.le_refl _), rs_up_s, if_neg (by omega)]
      show _ = rs_cu g tm (j + 1) + tm (j + 1) + 1
      omega
    · rw [rs_up_n e]
      by_cases h : j + 1 ≤ k
      · rw [if_pos h, if_pos (by omega)]; rfl
      · rw [if_neg h, if_neg (by omega)]
        show _ = rs_cu g tm (j + 1) + tm (j + 1) + 1
        omega
/-- the knots with k put in once more -/
theorem rs_t_in (g : Nat) (tm : Nat → Nat) {k : Nat} (hk : 1 ≤ k) (h5 : k ≤ 5) (x : Nat) :
    (x < rs_cu g tm (k + 1) → rs_t g (rs_up tm k (tm k + 1)) x = rs_t g tm x) ∧ (x = rs_cu g tm (k + 1) → rs_t g (rs_up tm k (tm k + 1)) x = k) ∧ (rs_cu g tm (k + 1) < x → rs_t g (rs_up tm k (tm k + 1)) x = rs_t g tm (x - 1)) := by
  have hc := rs_cu_asc g tm
  have hc' := rs_cu_asc g (rs_up tm k (tm k + 1))
  have e1 := rs_cu_up g tm hk 1
  have e2 := rs_cu_up g tm hk 2
  have e3 := rs_cu_up g tm hk 3
  have e4 := rs_cu_up g tm hk 4
  have e5 := rs_cu_up g tm hk 5
  have e6 := rs_cu_up g tm hk 6
  obtain ⟨a1, a2, a3, a4, a5, a6, a7⟩ := rs_val_iff hc x
  obtain ⟨b1, b2, b3, b4, b5, b6, b7⟩ := rs_val_iff hc (x - 1)
  obtain ⟨d1, d2, d3, d4, d5, d6, d7⟩ := rs_val_iff hc' x
  obtain ⟨f1, f2, f3, f4, f5⟩ := hc
  show (_ → rs_val _ x = rs_val _ x) ∧ (_ → rs_val _ x = k) ∧ (_ → rs_val _ x = rs_val _ (x - 1))
  generalize rs_val (rs_cu g (rs_up tm k (tm k + 1))) x = X at *
  generalize rs_val (rs_cu g tm) x = Y at *
  generalize rs_val (rs_cu g tm) (x - 1) = Z at *
  have hkc : k = 1 ∨ k = 2 ∨ k = 3 ∨ k = 4 ∨ k = 5 := by omega
  rcases hkc with rfl | rfl | rfl | rfl | rfl <;> simp only [show (1:Nat) ≤ 1 from Nat.le_refl _, if_pos, Nat.reduceLeDiff, if_false, if_true, ite_true, ite_false, Nat.reduceAdd] at e1 e2 e3 e4 e5 e6 ⊢ <;> refine ⟨fun _ => ?_, fun _ => ?_, fun _ => ?_⟩ <;> omega
/-- a control number's knots don't all fall together -/
theorem rs_t_lt {g : Nat} {tm : Nat → Nat} (htm : ∀ k, tm k ≤ g) {i : Nat} (hi : i < rs_cu g tm 6) : rs_t g tm i < rs_t g tm (i + g + 1) ∧ rs_t g tm i ≤ 5 := by
  have hc := rs_cu_asc g tm
  obtain ⟨a1, a2, a3, a4, a5, a6, a7⟩ := rs_val_iff hc i
  obtain ⟨b1, b2, b3, b4, b5, b6, b7⟩ := rs_val_iff hc (i + g + 1)
  have c1 : rs_cu g tm 1 = g + 1 := rfl
  have c2 := rs_cu_s g tm (k := 1) (by omega)
  have c3 := rs_cu_s g tm (k := 2) (by omega)
  have c4 := rs_cu_s g tm (k := 3) (by omega)
  have c5 := rs_cu_s g tm (k := 4) (by omega)
  have c6 := rs_cu_s g tm (k := 5) (by omega)
  have t1 := htm 1
  have t2 := htm 2
  have t3 := htm 3
  have t4 := htm 4
  have t5 := htm 5
  simp only [Nat.reduceAdd] at c2 c3 c4 c5 c6
  show rs_val (rs_cu g tm) i < rs_val (rs_cu g tm) (i + g + 1) ∧ rs_val (rs_cu g tm) i ≤ 5
  generalize rs_val (rs_cu g tm) i = X at *
  generalize rs_val (rs_cu g tm) (i + g + 1) = Y at *
  omega
/-- the control numbers with k put in once more -/
theorem rs_ct_in {g : Nat} {tm : Nat → Nat} {a : Nat → Nat → Int} (hg : 1 ≤ g) (hg3 : g ≤ 3) (htm : ∀ k, tm k ≤ g) (hs : rs_sm 5 g tm a) (hd : rs_dg g a) {k : Nat} (hk : 1 ≤ k) (h5 : k ≤ 5) (hkg : tm k < g) {i : Nat} (hi : i ≤ rs_cu g tm 6) :
    ((k - rs_t g tm i + (rs_t g tm (i + g) - k) : Nat) : Int) * rs_ct g (rs_up tm k (tm k + 1)) a i = ((k - rs_t g tm i : Nat) : Int) * rs_ct g tm a i + ((rs_t g tm (i + g) - k : Nat) : Int) * rs_ct g tm a (i - 1) ∧ 0 < k - rs_t g tm i + (rs_t g tm (i + g) - k) := by
  have hc := rs_cu_asc g tm
  have c1 : rs_cu g tm 1 = g + 1 := rfl
  have hcs := rs_cu_s g tm hk
  have hk1 : rs_cu g tm 1 ≤ rs_cu g tm k := rs_cu_mono g tm hk
  have hk6 : rs_cu g tm (k + 1) ≤ rs_cu g tm 6 := rs_cu_mono g tm (by omega)
  have vi := rs_val_k hc hk (by omega) i
  have vg := rs_val_k hc (k := k + 1) (by omega) (by omega) (i + g)
  by_cases q1 : rs_cu g tm k ≤ i
  · -- the knots from here on have moved up by one
    have e1 : k ≤ rs_t g tm i := vi.2 q1
    have e2 : k + 1 ≤ rs_t g tm (i + g) := vg.2 (by omega)
    have mv : ∀ y, rs_cu g tm k ≤ y → rs_t g (rs_up tm k (tm k + 1)) (y + 1) = rs_t g tm y := fun y hy => by
      obtain ⟨m1, m2, m3⟩ := rs_t_in g tm hk h5 (y + 1)
      by_cases p1 : y + 1 < rs_cu g tm (k + 1)
      · rw [m1 p1]
        have h1 : rs_t g tm (y + 1) = k := rs_val_at hc hk h5 (by omega) p1
        have h2 : rs_t g tm y = k := rs_val_at hc hk h5 hy (by omega)
        rw [h1, h2]
      · by_cases p2 : y + 1 = rs_cu g tm (k + 1)
        · rw [m2 p2]
          have h2 : rs_t g tm y = k := rs_val_at hc hk h5 hy (by omega)
          rw [h2]
        · rw [m3 (by omega), Nat.add_sub_cancel]
    have hj : rs_t g tm (i - 1) ≤ rs_t g (rs_up tm k (tm k + 1)) i ∧ rs_t g (rs_up tm k (tm k + 1)) i < rs_t g tm (i - 1 + g + 1) ∧ rs_t g (rs_up tm k (tm k + 1)) i ≤ 5 := by
      obtain ⟨m1, m2, m3⟩ := rs_t_in g tm hk h5 i
      have ei : i - 1 + g + 1 = i + g := by omega
      rw [ei]
      have hmi : rs_t g tm (i - 1) ≤ rs_t g tm i := rs_val_mono hc (by omega)
      by_cases p3 : rs_cu g tm (k + 1) < i
      · rw [m3 p3]
        have h3 := rs_t_lt htm (i := i - 1) (by omega)
        rw [ei] at h3
        exact ⟨Nat.le_refl _, h3⟩
      · have hk' : rs_t g (rs_up tm k (tm k + 1)) i = k := by
          by_cases p2 : i = rs_cu g tm (k + 1)
          · exact m2 p2
          · rw [m1 (by omega)]; exact rs_val_at hc hk h5 q1 (by omega)
        rw [hk']
        refine ⟨?_, by omega, h5⟩
        have h4 := rs_val_k hc (k := k + 1) (by omega) (by omega) (i - 1)
        have h4' : k + 1 ≤ rs_t g tm (i - 1) ↔ rs_cu g tm (k + 1) ≤ i - 1 := h4
        omega
    have key : rs_ct g (rs_up tm k (tm k + 1)) a i = rs_ct g tm a (i - 1) := by
      rw [← rs_ct_any hg hg3 htm (Nat.le_refl 5) hs hd hj.1 hj.2.1 hj.2.2]
      unfold rs_ct
      rw [mv i q1, mv (i + 1) (by omega), mv (i + 2) (by omega), show i - 1 + 1 = i by omega, show i - 1 + 2 = i + 1 by omega, show i - 1 + 3 = i + 2 by omega]
    refine ⟨?_, by omega⟩
    rw [key, show k - rs_t g tm i = 0 by omega, Nat.zero_add]
    simp
  · by_cases q2 : i + g < rs_cu g tm (k + 1)
    · have e1 : ¬ k ≤ rs_t g tm i := fun z => q1 (vi.1 z)
      have e2 : ¬ k + 1 ≤ rs_t g tm (i + g) := fun z => by
        have := vg.1 z
        omega
      have mv : ∀ y, y ≤ i + g → rs_t g (rs_up tm k (tm k + 1)) y = rs_t g tm y := fun y hy => (rs_t_in g tm hk h5 y).1 (by omega)
      have key : rs_ct g (rs_up tm k (tm k + 1)) a i = rs_ct g tm a i := by
        unfold rs_ct
        rw [mv i (by omega)]
        have hgc : g = 1 ∨ g = 2 ∨ g = 3 := by omega
        rcases hgc with rfl | rfl | rfl
        · rw [rs_nu1, rs_nu1, mv (i + 1) (by omega)]
        · rw [rs_nu2, rs_nu2, mv (i + 1) (by omega), mv (i + 2) (by omega)]
        · rw [mv (i + 1) (by omega), mv (i + 2) (by omega), mv (i + 3) (by omega)]
      refine ⟨?_, by omega⟩
      rw [key, show rs_t g tm (i + g) - k = 0 by omega]
      simp
    · have e1 : ¬ k ≤ rs_t g tm i := fun z => q1 (vi.1 z)
      have e2 : k + 1 ≤ rs_t g tm (i + g) := vg.2 (by omega)
      have hti : rs_t g (rs_up tm k (tm k + 1)) i = rs_t g tm i := (rs_t_in g tm hk h5 i).1 (by omega)
      have hi1 : 1 ≤ i := by omega
      have hmi : rs_t g tm (i - 1) ≤ rs_t g tm i := rs_val_mono hc (by omega)
      have hprev := rs_ct_any hg hg3 htm (Nat.le_refl 5) hs hd (i := i - 1) (j := rs_t g tm i) hmi (by rw [show i - 1 + g + 1 = i + g by omega]; omega) (by omega)
      rw [show i - 1 + 1 = i by omega, show i - 1 + 2 = i + 1 by omega, show i - 1 + 3 = i + 2 by omega] at hprev
      refine ⟨?_, by omega⟩
      rw [← hprev, show k - rs_t g tm i + (rs_t g tm (i + g) - k) = rs_t g tm (i + g) - rs_t g tm i by omega, Int.ofNat_sub (by omega), Int.ofNat_sub (by omega), Int.ofNat_sub (by omega)]
      unfold rs_ct
      rw [hti]
      have hgc : g = 1 ∨ g = 2 ∨ g = 3 := by omega
      rcases hgc with rfl | rfl | rfl
      · have p1 : rs_t 1 (rs_up tm k (tm k + 1)) (i + 1) = k := (rs_t_in 1 tm hk h5 (i + 1)).2.1 (by omega)
        rw [p1]
        have := rs_aff1 (a (rs_t 1 tm i)) ((k : Int) - rs_t 1 tm i) ((rs_t 1 tm (i + 1) : Int) - rs_t 1 tm i) ((rs_t 1 tm i : Int) - rs_t 1 tm i) 0 0
        rw [rs_nu1, rs_nu1, rs_nu1] at this ⊢
        grind
      · have e0 := rs_t_in 2 tm hk h5 (i + 1)
        have e3 := rs_t_in 2 tm hk h5 (i + 2)
        have this := rs_aff2 (a (rs_t 2 tm i)) ((k : Int) - rs_t 2 tm i) ((rs_t 2 tm (i + 2) : Int) - rs_t 2 tm i) ((rs_t 2 tm i : Int) - rs_t 2 tm i) ((rs_t 2 tm (i + 1) : Int) - rs_t 2 tm i) 0
        by_cases p : rs_cu 2 tm (k + 1) = i + 1
        · rw [e0.2.1 p.symm, e3.2.2 (by omega), show i + 2 - 1 = i + 1 by omega]
          rw [rs_nu2, rs_nu2, rs_nu2] at this ⊢
          grind
        · rw [e0.1 (by omega), e3.2.1 (by omega)]
          rw [rs_nu2, rs_nu2, rs_nu2] at this ⊢
          grind
      · have e0 := rs_t_in 3 tm hk h5 (i + 1)
        have e3 := rs_t_in 3 tm hk h5 (i + 2)
        have e4 := rs_t_in 3 tm hk h5 (i + 3)
        have this := rs_aff3 (a (rs_t 3 tm i)) ((k : Int) - rs_t 3 tm i) ((rs_t 3 tm (i + 3) : Int) - rs_t 3 tm i) ((rs_t 3 tm i : Int) - rs_t 3 tm i) ((rs_t 3 tm (i + 1) : Int) - rs_t 3 tm i) ((rs_t 3 tm (i + 2) : Int) - rs_t 3 tm i)
        by_cases p : rs_cu 3 tm (k + 1) = i + 1
        · rw [e0.2.1 p.symm, e3.2.2 (by omega), e4.2.2 (by omega), show i + 2 - 1 = i + 1 by omega, show i + 3 - 1 = i + 2 by omega]
          rw [rs_nu3, rs_nu3, rs_nu3] at this ⊢
          grind
        · by_cases p2 : rs_cu 3 tm (k + 1) = i + 2
          · rw [e0.1 (by omega), e3.2.1 p2.symm, e4.2.2 (by omega), show i + 3 - 1 = i + 2 by omega]
            rw [rs_nu3, rs_nu3, rs_nu3] at this ⊢
            grind
          · rw [e0.1 (by omega), e3.1 (by omega), e4.2.1 (by omega)]
            rw [rs_nu3, rs_nu3, rs_nu3] at this ⊢
            grind
