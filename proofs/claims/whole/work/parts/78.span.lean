/-! Spans, times, knots put in and left out. -/
theorem rs_sp_cg {kn kv : Nat → Nat} {d u : Nat} : ∀ j, (∀ i, i < d + 1 + j → kn i = kv i) → rs_sp kn d u j = rs_sp kv d u j
  | 0, _ => rfl
  | j + 1, h => by
    show (if 60 * kn (d + 1 + j) ≤ u then d + 1 + j else rs_sp kn d u j) = if 60 * kv (d + 1 + j) ≤ u then d + 1 + j else rs_sp kv d u j
    rw [h (d + 1 + j) (by omega), rs_sp_cg j (fun i hi => h i (by omega))]
theorem rs_sp_spec (kn : Nat → Nat) (d u : Nat) : ∀ j, (rs_sp kn d u j = d ∨ 60 * kn (rs_sp kn d u j) ≤ u) ∧ ∀ i, rs_sp kn d u j < i → i ≤ d + j → u < 60 * kn i
  | 0 => ⟨Or.inl rfl, fun i h1 h2 => absurd h1 (by show ¬ d < i; omega)⟩
  | j + 1 => by
    have ih := rs_sp_spec kn d u j
    by_cases h : 60 * kn (d + 1 + j) ≤ u
    · have e : rs_sp kn d u (j + 1) = d + 1 + j := if_pos h
      rw [e]
      exact ⟨Or.inr h, fun i h1 h2 => by omega⟩
    · have e : rs_sp kn d u (j + 1) = rs_sp kn d u j := if_neg h
      rw [e]
      refine ⟨ih.1, fun i h1 h2 => ?_⟩
      by_cases e2 : i = d + 1 + j
      · subst e2; omega
      · exact ih.2 i h1 (by omega)
theorem rs_ms_sp (tk : Nat → Nat) (g u : Nat) : ∀ j, rs_ms tk g u (j + 1) = rs_sp tk g u j
  | 0 => by
    show (if 60 * tk (g + 0) ≤ u then g + 0 else g) = g
    split <;> rfl
  | j + 1 => by
    show (if 60 * tk (g + (j + 1)) ≤ u then g + (j + 1) else rs_ms tk g u (j + 1)) = if 60 * tk (g + 1 + j) ≤ u then g + 1 + j else rs_sp tk g u j
    rw [rs_ms_sp tk g u j, show g + (j + 1) = g + 1 + j by omega]
/-- the span of a parameter -/
theorem rs_sp_t {g : Nat} {tm : Nat → Nat} {u : Nat} (hu : u ≤ 360) : g ≤ rs_sp (rs_t g tm) g u (rs_cu g tm 6 - (g + 1)) ∧ rs_sp (rs_t g tm) g u (rs_cu g tm 6 - (g + 1)) < rs_cu g tm 6 ∧ 60 * rs_t g tm (rs_sp (rs_t g tm) g u (rs_cu g tm 6 - (g + 1))) ≤ u ∧ (u = 360 ∨ u < 60 * rs_t g tm (rs_sp (rs_t g tm) g u (rs_cu g tm 6 - (g + 1)) + 1)) ∧ rs_t g tm (rs_sp (rs_t g tm) g u (rs_cu g tm 6 - (g + 1))) ≤ 5 ∧ (u = 360 → rs_sp (rs_t g tm) g u (rs_cu g tm 6 - (g + 1)) + 1 = rs_cu g tm 6) := by
  have hc := rs_cu_asc g tm
  have h1 : rs_cu g tm 1 = g + 1 := rfl
  have h6 : rs_cu g tm 1 ≤ rs_cu g tm 6 := rs_cu_mono g tm (by omega)
  have hs := rs_sp_spec (rs_t g tm) g u (rs_cu g tm 6 - (g + 1))
  have hl := rs_sp_le (rs_t g tm) g u (rs_cu g tm 6 - (g + 1))
  generalize rs_sp (rs_t g tm) g u (rs_cu g tm 6 - (g + 1)) = r at *
  have tg : rs_t g tm g = 0 := by
    have h := rs_val_k hc (k := 1) (by omega) (by omega) g
    have h' : 1 ≤ rs_t g tm g ↔ rs_cu g tm 1 ≤ g := h
    omega
  have t6 : rs_t g tm (rs_cu g tm 6) = 6 := by
    have h := rs_val_k hc (k := 6) (by omega) (by omega) (rs_cu g tm 6)
    have h' : 6 ≤ rs_t g tm (rs_cu g tm 6) ↔ rs_cu g tm 6 ≤ rs_cu g tm 6 := h
    have := rs_t6 g tm (rs_cu g tm 6)
    omega
  have h5 : rs_t g tm r ≤ 5 := by
    have h := rs_val_k hc (k := 6) (by omega) (by omega) r
    have h' : 6 ≤ rs_t g tm r ↔ rs_cu g tm 6 ≤ r := h
    omega
  have hr : r < rs_cu g tm 6 := by omega
  have hz : 60 * rs_t g tm r ≤ u := by
    rcases hs.1 with e | e
    · rw [e, tg]; omega
    · exact e
  refine ⟨hl.1, hr, hz, ?_, h5, ?_⟩
  · by_cases e : u = 360
    · exact Or.inl e
    · right
      by_cases e2 : r + 1 = rs_cu g tm 6
      · rw [e2, t6]; omega
      · exact hs.2 (r + 1) (by omega) (by omega)
  · intro e
    by_cases e2 : r + 1 = rs_cu g tm 6
    · exact e2
    · have := hs.2 (r + 1) (by omega) (by omega)
      have h9 : rs_t g tm (r + 1) ≤ 5 := by
        have h := rs_val_k hc (k := 6) (by omega) (by omega) (r + 1)
        have h' : 6 ≤ rs_t g tm (r + 1) ↔ rs_cu g tm 6 ≤ r + 1 := h
        omega
      omega
/-- the span of a knot -/
theorem rs_sp_k {g : Nat} {tm : Nat → Nat} {k : Nat} (h5 : k ≤ 5) : rs_sp (rs_t g tm) g (60 * k) (rs_cu g tm 6 - (g + 1)) + 1 = rs_cu g tm (k + 1) := by
  obtain ⟨s1, s2, s3, s4, -, -⟩ := rs_sp_t (g := g) (tm := tm) (u := 60 * k) (by omega)
  have hc := rs_cu_asc g tm
  generalize rs_sp (rs_t g tm) g (60 * k) (rs_cu g tm 6 - (g + 1)) = r at *
  have ha := rs_val_k hc (k := k + 1) (by omega) (by omega) r
  have hb := rs_val_k hc (k := k + 1) (by omega) (by omega) (r + 1)
  have ha' : k + 1 ≤ rs_t g tm r ↔ rs_cu g tm (k + 1) ≤ r := ha
  have hb' : k + 1 ≤ rs_t g tm (r + 1) ↔ rs_cu g tm (k + 1) ≤ r + 1 := hb
  omega
/-- how often k is a knot -/
theorem rs_tm_c {g : Nat} {tm : Nat → Nat} {k : Nat} (h1 : 1 ≤ k) (h5 : k ≤ 5) : ∀ j, rs_tm (rs_t g tm) g (nI k) j = min (g + 1 + j) (rs_cu g tm (k + 1)) - min (g + 1 + j) (rs_cu g tm k)
  | 0 => by
    have c1 : rs_cu g tm 1 = g + 1 := rfl
    have m1 : rs_cu g tm 1 ≤ rs_cu g tm k := rs_cu_mono g tm h1
    have m2 := rs_cu_le g tm k
    show 0 = _
    omega
  | j + 1 => by
    have ih := rs_tm_c (g := g) (tm := tm) h1 h5 j
    have hc := rs_cu_asc g tm
    have m2 := rs_cu_le g tm k
    have ha := rs_val_k hc (k := k) (by omega) (by omega) (g + 1 + j)
    have hb := rs_val_k hc (k := k + 1) (by omega) (by omega) (g + 1 + j)
    have ha' : k ≤ rs_t g tm (g + 1 + j) ↔ rs_cu g tm k ≤ g + 1 + j := ha
    have hb' : k + 1 ≤ rs_t g tm (g + 1 + j) ↔ rs_cu g tm (k + 1) ≤ g + 1 + j := hb
    have h6 := rs_t6 g tm (g + 1 + j)
    by_cases e : rs_t g tm (g + 1 + j) = k
    · have e2 : rs_tm (rs_t g tm) g (nI k) (j + 1) = rs_tm (rs_t g tm) g (nI k) j + 1 := if_pos ((nI_eq (by omega) (by omega)).2 e)
      rw [e2, ih]
      omega
    · have e2 : rs_tm (rs_t g tm) g (nI k) (j + 1) = rs_tm (rs_t g tm) g (nI k) j := if_neg (fun z => e ((nI_eq (by omega) (by omega)).1 z))
      rw [e2, ih]
      omega
theorem rs_tm_cg {kn kv : Nat → Nat} {d : Nat} {k : Int32} : ∀ j, (∀ i, i < d + 1 + j → kn i = kv i) → rs_tm kn d k j = rs_tm kv d k j
  | 0, _ => rfl
  | j + 1, h => by
    show (if nI (kn (d + 1 + j)) = k then rs_tm kn d k j + 1 else rs_tm kn d k j) = if nI (kv (d + 1 + j)) = k then rs_tm kv d k j + 1 else rs_tm kv d k j
    rw [h (d + 1 + j) (by omega), rs_tm_cg j (fun i hi => h i (by omega))]
theorem rs_tm_t {g : Nat} {tm : Nat → Nat} {k : Nat} (h1 : 1 ≤ k) (h5 : k ≤ 5) : rs_tm (rs_t g tm) g (nI k) (rs_cu g tm 6 - (g + 1)) = tm k := by
  have c1 : rs_cu g tm 1 = g + 1 := rfl
  have m0 : rs_cu g tm 1 ≤ rs_cu g tm 6 := rs_cu_mono g tm (by omega)
  have m1 : rs_cu g tm (k + 1) ≤ rs_cu g tm 6 := rs_cu_mono g tm (by omega)
  have m2 := rs_cu_le g tm k
  have m3 := rs_cu_s g tm h1
  rw [rs_tm_c h1 h5, show g + 1 + (rs_cu g tm 6 - (g + 1)) = rs_cu g tm 6 by omega]
  omega
theorem rs_kin_t {g : Nat} {tm kn kn2 : Nat → Nat} {k n : Nat} (h1 : 1 ≤ k) (h5 : k ≤ 5) (hn : n = rs_cu g tm 6) (hk : ∀ i, i < n + g + 1 → kn i = rs_t g tm i) : ∀ i, i < n + 1 + g + 1 → rs_kin kn kn2 (rs_sp kn g (60 * k) (n - (g + 1)) + 1) k (n + g + 1) i = rs_t g (rs_up tm k (tm k + 1)) i := by
  intro i hi
  have c1 : rs_cu g tm 1 = g + 1 := rfl
  have m0 : rs_cu g tm 1 ≤ rs_cu g tm 6 := rs_cu_mono g tm (by omega)
  have m1 : rs_cu g tm (k + 1) ≤ rs_cu g tm 6 := rs_cu_mono g tm (by omega)
  rw [rs_sp_cg (kv := rs_t g tm) _ (fun j hj => hk j (by omega)), hn, rs_sp_k h5]
  obtain ⟨x1, x2, x3⟩ := rs_t_in g tm h1 h5 i
  unfold rs_kin va_cpy
  by_cases e1 : i < rs_cu g tm (k + 1)
  · rw [if_neg (by omega), rs_up_n (by omega), if_pos (by omega), show 0 + (i - 0) = i by omega, hk i (by omega), x1 e1]
  · by_cases e2 : i = rs_cu g tm (k + 1)
    · rw [if_neg (by omega), e2, rs_up_s, ← e2, x2 e2]
    · rw [if_pos (by omega), show rs_cu g tm (k + 1) + (i - (rs_cu g tm (k + 1) + 1)) = i - 1 by omega, hk (i - 1) (by omega), x3 (by omega)]
/-- tm: the coarser curve's -/
theorem rs_kout_t {g : Nat} {tm kn kn2 : Nat → Nat} {k n : Nat} (h1 : 1 ≤ k) (h5 : k ≤ 5) (hn : n = rs_cu g (rs_up tm k (tm k + 1)) 6) (hk : ∀ i, i < n + g + 1 → kn i = rs_t g (rs_up tm k (tm k + 1)) i) : ∀ i, i < n - 1 + g + 1 → rs_kout kn kn2 (rs_sp kn g (60 * k) (n - (g + 1))) (n + g + 1) i = rs_t g tm i := by
  intro i hi
  have c1 : rs_cu g tm 1 = g + 1 := rfl
  have m0 : rs_cu g tm 1 ≤ rs_cu g tm 6 := rs_cu_mono g tm (by omega)
  have m1 : rs_cu g tm (k + 1) ≤ rs_cu g tm 6 := rs_cu_mono g tm (by omega)
  have u6 := rs_cu_up g tm h1 6
  have uk := rs_cu_up g tm h1 (k + 1)
  rw [if_neg (by omega)] at u6 uk
  have hsp : rs_sp kn g (60 * k) (n - (g + 1)) = rs_cu g tm (k + 1) := by
    rw [rs_sp_cg (kv := rs_t g (rs_up tm k (tm k + 1))) _ (fun j hj => hk j (by omega)), hn]
    have := rs_sp_k (g := g) (tm := rs_up tm k (tm k + 1)) h5
    omega
  rw [hsp]
  unfold rs_kout va_cpy
  by_cases e1 : i < rs_cu g tm (k + 1)
  · rw [if_neg (by omega), if_pos (by omega), show 0 + (i - 0) = i by omega, hk i (by omega), (rs_t_in g tm h1 h5 i).1 e1]
  · rw [if_pos (by omega), show rs_cu g tm (k + 1) + 1 + (i - rs_cu g tm (k + 1)) = i + 1 by omega, hk (i + 1) (by omega), (rs_t_in g tm h1 h5 (i + 1)).2.2 (by omega), Nat.add_sub_cancel]
