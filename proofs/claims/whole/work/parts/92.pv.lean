/-! A drafted curve on both sides. -/
def rs_dI (dx dy dw : Nat → Int32) (ax i : Nat) : Int := if ax = 0 then (dx i).toInt * (dw i).toInt else if ax = 1 then (dy i).toInt * (dw i).toInt else (dw i).toInt
theorem rs_dra_l (dx dy dw : Nat → Int32) (i ax : Nat) : rs_dra dx dy dw i ax = lI (rs_dI dx dy dw ax i) := by
  unfold rs_dra rs_dI
  split
  · rw [rs_li, rs_li, rs_mul]
  · split
    · rw [rs_li, rs_li, rs_mul]
    · exact rs_li _
theorem rs_cF_l (xs ys wt : Nat → Int32) (ax i : Nat) : rs_cF xs ys wt ax i = lI (216000 * rs_dI xs ys wt ax i) := by
  unfold rs_cF rs_dI
  rw [show (216000 : Int64) = lI 216000 by rfl]
  split
  · rw [rs_li, rs_li, rs_mul, rs_mul]
    exact congrArg lI (by grind)
  · split
    · rw [rs_li, rs_li, rs_mul, rs_mul]
      exact congrArg lI (by grind)
    · rw [rs_li, rs_mul]
theorem rs_coef {S T : Nat → Int} (h : ∀ w, rs_ev S w = rs_ev T w) : ∀ e, e < 4 → S e = T e := by
  have h0 := h 0
  have h1 := h 1
  have h2 := h (-1)
  have h3 := h 2
  unfold rs_ev at h0 h1 h2 h3
  intro e he
  have h4 : e = 0 ∨ e = 1 ∨ e = 2 ∨ e = 3 := by omega
  rcases h4 with rfl | rfl | rfl | rfl <;> omega
theorem rs_sc_l (g : Nat) : rs_sc g = lI (rs_s60 g) := by
  unfold rs_sc rs_s60
  split
  · rfl
  · split <;> rfl
/-- one number of a piece -/
theorem rs_pv_A {g : Nat} {tm : Nat → Nat} (hg : 1 ≤ g) (hg3 : g ≤ 3) {dx dy dw : Nat → Int32} {j ax e : Nat} (hj : j < 6) (he : e < 4) : rs_pv (rs_t g tm) g (rs_cu g tm 6) dx dy dw j ax e = lI (rs_A g tm (rs_dI dx dy dw ax) j e) := by
  have c1 : rs_cu g tm 1 = g + 1 := rfl
  have m0 : rs_cu g tm 1 ≤ rs_cu g tm 6 := rs_cu_mono g tm (by omega)
  have hgj := rs_cu_g g tm j
  have hR : rs_ms (rs_t g tm) g (60 * j) (rs_cu g tm 6 - g) = rs_cu g tm (j + 1) - 1 := by
    have h := rs_sp_k (g := g) (tm := tm) (k := j) (by omega)
    rw [show rs_cu g tm 6 - g = rs_cu g tm 6 - (g + 1) + 1 by omega, rs_ms_sp]
    omega
  have hkw := rs_kz_w (g := g) (tm := tm) hj
  unfold rs_pv
  rw [hR, rs_A_in hj, rs_sc_l]
  obtain ⟨s, hs⟩ : ∃ s, rs_cu g tm (j + 1) - 1 = s + g := ⟨rs_cu g tm (j + 1) - 1 - g, by omega⟩
  have hkz : ∀ q, rs_kz g tm j q = (rs_t g tm (s + q) : Int) - j := fun q => by
    unfold rs_kz
    rw [hs, Nat.add_sub_cancel]
  have hcz : ∀ q, rs_cz g tm (rs_dI dx dy dw ax) j q = rs_dI dx dy dw ax (s + q) := fun q => by
    unfold rs_cz
    rw [hs, Nat.add_sub_cancel]
  have h6 : ∀ i, rs_t g tm i ≤ 6 := rs_t6 g tm
  have bu := fun w => rs_fz_bu (c := rs_cz g tm (rs_dI dx dy dw ax) j) hg hg3 hkw w w w
  rw [hs, Nat.add_sub_cancel]
  have hgc : g = 1 ∨ g = 2 ∨ g = 3 := by omega
  rcases hgc with rfl | rfl | rfl
  · show (0 + rs_dra dx dy dw (s + 0) ax * rs_pl (rs_t 1 tm) j (s + 1) 1 (4 * (s + 0) + e) + rs_dra dx dy dw (s + 1) ax * rs_pl (rs_t 1 tm) j (s + 1) 1 (4 * (s + 1) + e)) * _ = _
    rw [rs_dra_l, rs_dra_l, rs_pl_pi h6 (by omega) 1 _ _ he, rs_pl_pi h6 (by omega) 1 _ _ he, rs_0]
    simp only [rs_mul, rs_add]
    refine congrArg lI ?_
    have N := rs_nsum1 (c := rs_cz 1 tm (rs_dI dx dy dw ax) j) hkz hkw h6
    have key := rs_coef (S := fun e => rs_cz 1 tm (rs_dI dx dy dw ax) j 0 * rs_pi (rs_t 1 tm) j (s + 1) 1 s e + rs_cz 1 tm (rs_dI dx dy dw ax) j 1 * rs_pi (rs_t 1 tm) j (s + 1) 1 (s + 1) e) (T := fun e => if e = 0 then rs_fb 1 (rs_kz 1 tm j) (rs_cz 1 tm (rs_dI dx dy dw ax) j) 0 else if e = 1 then rs_fb 1 (rs_kz 1 tm j) (rs_cz 1 tm (rs_dI dx dy dw ax) j) 1 else 0) (fun w => by
      have n := N w
      rw [bu w, rs_bu1] at n
      generalize rs_fb 1 (rs_kz 1 tm j) (rs_cz 1 tm (rs_dI dx dy dw ax) j) = b at *
      generalize rs_cz 1 tm (rs_dI dx dy dw ax) j = cz at *
      unfold rs_ev at *
      simp only [if_pos, if_neg, Nat.reduceEqDiff, reduceIte]
      grind) e he
    simp only [hcz] at key
    rw [Nat.add_zero] at key ⊢
    rw [Int.zero_add, key]
    have h4 : e = 0 ∨ e = 1 ∨ e = 2 ∨ e = 3 := by omega
    rcases h4 with rfl | rfl | rfl | rfl
    · exact Int.mul_comm _ _
    · exact Int.mul_comm _ _
    · rfl
    · rfl
  · show (0 + rs_dra dx dy dw (s + 0) ax * rs_pl (rs_t 2 tm) j (s + 2) 2 (4 * (s + 0) + e) + rs_dra dx dy dw (s + 1) ax * rs_pl (rs_t 2 tm) j (s + 2) 2 (4 * (s + 1) + e) + rs_dra dx dy dw (s + 2) ax * rs_pl (rs_t 2 tm) j (s + 2) 2 (4 * (s + 2) + e)) * _ = _
    rw [rs_dra_l, rs_dra_l, rs_dra_l, rs_pl_pi h6 (by omega) 2 _ _ he, rs_pl_pi h6 (by omega) 2 _ _ he, rs_pl_pi h6 (by omega) 2 _ _ he, rs_0]
    simp only [rs_mul, rs_add]
    refine congrArg lI ?_
    have N := rs_nsum2 (c := rs_cz 2 tm (rs_dI dx dy dw ax) j) hkz hkw h6
    have key := rs_coef (S := fun e => rs_cz 2 tm (rs_dI dx dy dw ax) j 0 * rs_pi (rs_t 2 tm) j (s + 2) 2 s e + rs_cz 2 tm (rs_dI dx dy dw ax) j 1 * rs_pi (rs_t 2 tm) j (s + 2) 2 (s + 1) e + rs_cz 2 tm (rs_dI dx dy dw ax) j 2 * rs_pi (rs_t 2 tm) j (s + 2) 2 (s + 2) e) (T := fun e => if e = 0 then rs_fb 2 (rs_kz 2 tm j) (rs_cz 2 tm (rs_dI dx dy dw ax) j) 0 else if e = 1 then 2 * rs_fb 2 (rs_kz 2 tm j) (rs_cz 2 tm (rs_dI dx dy dw ax) j) 1 else if e = 2 then rs_fb 2 (rs_kz 2 tm j) (rs_cz 2 tm (rs_dI dx dy dw ax) j) 2 else 0) (fun w => by
      have n := N w
      rw [bu w, rs_bu2] at n
      generalize rs_fb 2 (rs_kz 2 tm j) (rs_cz 2 tm (rs_dI dx dy dw ax) j) = b at *
      generalize rs_cz 2 tm (rs_dI dx dy dw ax) j = cz at *
      unfold rs_ev at *
      simp only [if_pos, if_neg, Nat.reduceEqDiff, reduceIte]
      grind) e he
    simp only [hcz] at key
    rw [Nat.add_zero] at key ⊢
    rw [Int.zero_add, key]
    have h4 : e = 0 ∨ e = 1 ∨ e = 2 ∨ e = 3 := by omega
    rcases h4 with rfl | rfl | rfl | rfl
    · exact Int.mul_comm _ _
    · exact Int.mul_comm _ _
    · exact Int.mul_comm _ _
    · rfl
  · show (0 + rs_dra dx dy dw (s + 0) ax * rs_pl (rs_t 3 tm) j (s + 3) 3 (4 * (s + 0) + e) + rs_dra dx dy dw (s + 1) ax * rs_pl (rs_t 3 tm) j (s + 3) 3 (4 * (s + 1) + e) + rs_dra dx dy dw (s + 2) ax * rs_pl (rs_t 3 tm) j (s + 3) 3 (4 * (s + 2) + e) + rs_dra dx dy dw (s + 3) ax * rs_pl (rs_t 3 tm) j (s + 3) 3 (4 * (s + 3) + e)) * _ = _
    rw [rs_dra_l, rs_dra_l, rs_dra_l, rs_dra_l, rs_pl_pi h6 (by omega) 3 _ _ he, rs_pl_pi h6 (by omega) 3 _ _ he, rs_pl_pi h6 (by omega) 3 _ _ he, rs_pl_pi h6 (by omega) 3 _ _ he, rs_0]
    simp only [rs_mul, rs_add]
    refine congrArg lI ?_
    have N := rs_nsum3 (c := rs_cz 3 tm (rs_dI dx dy dw ax) j) hkz hkw h6
    have key := rs_coef (S := fun e => rs_cz 3 tm (rs_dI dx dy dw ax) j 0 * rs_pi (rs_t 3 tm) j (s + 3) 3 s e + rs_cz 3 tm (rs_dI dx dy dw ax) j 1 * rs_pi (rs_t 3 tm) j (s + 3) 3 (s + 1) e + rs_cz 3 tm (rs_dI dx dy dw ax) j 2 * rs_pi (rs_t 3 tm) j (s + 3) 3 (s + 2) e + rs_cz 3 tm (rs_dI dx dy dw ax) j 3 * rs_pi (rs_t 3 tm) j (s + 3) 3 (s + 3) e) (T := fun e => if e = 0 then rs_fb 3 (rs_kz 3 tm j) (rs_cz 3 tm (rs_dI dx dy dw ax) j) 0 else if e = 1 then 3 * rs_fb 3 (rs_kz 3 tm j) (rs_cz 3 tm (rs_dI dx dy dw ax) j) 1 else if e = 2 then 3 * rs_fb 3 (rs_kz 3 tm j) (rs_cz 3 tm (rs_dI dx dy dw ax) j) 2 else rs_fb 3 (rs_kz 3 tm j) (rs_cz 3 tm (rs_dI dx dy dw ax) j) 3) (fun w => by
      have n := N w
      rw [bu w, rs_bu3] at n
      generalize rs_fb 3 (rs_kz 3 tm j) (rs_cz 3 tm (rs_dI dx dy dw ax) j) = b at *
      generalize rs_cz 3 tm (rs_dI dx dy dw ax) j = cz at *
      unfold rs_ev at *
      simp only [if_pos, if_neg, Nat.reduceEqDiff, reduceIte]
      grind) e he
    simp only [hcz] at key
    rw [Nat.add_zero] at key ⊢
    rw [Int.zero_add, key]
    have h4 : e = 0 ∨ e = 1 ∨ e = 2 ∨ e = 3 := by omega
    rcases h4 with rfl | rfl | rfl | rfl
    · exact Int.mul_one _
    · exact Int.mul_one _
    · exact Int.mul_one _
    · exact Int.mul_one _
