/-! The class's removal, in whole numbers. tm: the coarser curve's times. -/
/-- the knots behind the first k have moved up by one -/
theorem rs_t_mv {g k : Nat} {tm : Nat → Nat} (h1 : 1 ≤ k) (h5 : k ≤ 5) {y : Nat} (hy : rs_cu g tm k ≤ y) : rs_t g (rs_up tm k (tm k + 1)) (y + 1) = rs_t g tm y := by
  have hc := rs_cu_asc g tm
  obtain ⟨m1, m2, m3⟩ := rs_t_in g tm h1 h5 (y + 1)
  by_cases p1 : y + 1 < rs_cu g tm (k + 1)
  · rw [m1 p1]
    have e1 : rs_t g tm (y + 1) = k := rs_val_at hc h1 h5 (by omega) p1
    have e2 : rs_t g tm y = k := rs_val_at hc h1 h5 hy (by omega)
    rw [e1, e2]
  · by_cases p2 : y + 1 = rs_cu g tm (k + 1)
    · rw [m2 p2]
      have e2 : rs_t g tm y = k := rs_val_at hc h1 h5 hy (by omega)
      rw [e2]
    · rw [m3 (by omega), Nat.add_sub_cancel]
theorem rs_cc_mv {g k : Nat} {tm : Nat → Nat} {b : Nat → Nat → Int} (h1 : 1 ≤ k) (h5 : k ≤ 5) {y : Nat} (hy : rs_cu g tm k ≤ y) : rs_cc g (rs_up tm k (tm k + 1)) b (y + 1) = rs_cc g tm b y := by
  unfold rs_cc
  rw [rs_t_mv h1 h5 hy, rs_t_mv (y := y + 1) h1 h5 (by omega), rs_t_mv (y := y + 2) h1 h5 (by omega), rs_t_mv (y := y + 3) h1 h5 (by omega)]
theorem rs_sm_lo {g k : Nat} {tm : Nat → Nat} {b : Nat → Nat → Int} (h5 : k ≤ 5) (h : rs_sm 5 g (rs_up tm k (tm k + 1)) b) : rs_sm (k - 1) g tm b := by
  intro j j1 j5 d h4 hd
  refine h j j1 (by omega) d h4 ?_
  rw [rs_up_n (by omega)]
  exact hd
theorem rs_0' : lI ((0 : Nat) : Int) = 0 := rfl
theorem rs_zmul (x : Int64) : 0 * x = lI 0 := by rw [Int64.zero_mul]; rfl
section RSRM
variable {g k n : Nat} {tm kn kn2 : Nat → Nat} {a : Nat → Nat → Nat → Int} {rz : Nat → Nat → Int64}
theorem rs_out_eq (hg : 1 ≤ g) (hg3 : g ≤ 3) (htm : ∀ k, tm k ≤ g) {b : Nat → Nat → Int} (hs : rs_sm 5 g (rs_up tm k (tm k + 1)) b) (hd : rs_dg g b) (hv : ∀ j, rs_dv g (b j)) (h1 : 1 ≤ k) (h5 : k ≤ 5) {i : Nat} (hi : i < rs_cu g tm k) :
    ((k - rs_t g tm i + (rs_t g tm (i + g) - k) : Nat) : Int) * rs_cc g (rs_up tm k (tm k + 1)) b i = ((k - rs_t g tm i : Nat) : Int) * rs_cc g tm b i + ((rs_t g tm (i + g) - k : Nat) : Int) * rs_cc g tm b (i - 1) ∧ 0 < k - rs_t g tm i ∧ (i = 0 → rs_t g tm (i + g) - k = 0) := by
  have key := rs_ct_out hg hg3 htm hd h1 h5 (rs_sm_lo h5 hs) hi
  rw [rs_ct_cc hg hg3 hv, rs_ct_cc hg hg3 hv, rs_ct_cc hg hg3 hv] at key
  refine ⟨rs_can hg ?_, key.2⟩
  grind
theorem rs_coa_cc (hP : rs_PI g (rs_up tm k (tm k + 1)) a) (htm : ∀ k, tm k ≤ g) (hC : rs_CI g (rs_up tm k (tm k + 1)) a n kn rz) (h1 : 1 ≤ k) (h5 : k ≤ 5) {ax : Nat} (hax : ax < 3) :
    ∀ i, i < n - 1 → rs_coa (rs_kout kn kn2 (rs_sp kn g (60 * k) (n - (g + 1))) (n + g + 1)) g n rz k ax i = lI (rs_cc g tm (a ax) i) := by
  have hb6 := rs_cu6 hP
  obtain ⟨⟨hg, hg3⟩, -, h06, hA, hW⟩ := hP
  obtain ⟨hn, hk, hk6, hr⟩ := hC
  obtain ⟨hs, hd, hv, hb⟩ := hA ax hax
  have u6 := rs_cu_up g tm h1 6
  rw [if_neg (by omega)] at u6
  have hKO := rs_kout_t (kn2 := kn2) h1 h5 hn hk
  generalize rs_kout kn kn2 (rs_sp kn g (60 * k) (n - (g + 1))) (n + g + 1) = KO at *
  have hr' : ∀ i, i < n → rz ax i = lI (rs_cc g (rs_up tm k (tm k + 1)) (a ax) i) := fun i hi => hr ax i hax hi
  have step : ∀ i prev, i < n - 1 → (0 < i → prev = lI (rs_cc g tm (a ax) (i - 1))) → rs_unb KO g n rz prev ax i k = lI (rs_cc g tm (a ax) i) := by
    intro i prev hi hp
    have t5 : rs_t g tm i ≤ 5 := rs_val_5 (by omega)
    have hv5 := rs_val_k (rs_cu_asc g tm) h1 (by omega) i
    have hv' : k ≤ rs_t g tm i ↔ rs_cu g tm k ≤ i := hv5
    unfold rs_unb
    rw [hKO i (by omega), hKO (i + g) (by omega)]
    by_cases e : k - rs_t g tm i = 0
    · rw [if_pos e, rs_num_in (by omega) (by omega), hr' (i + 1) (by omega), rs_cc_mv h1 h5 (hv'.1 (by omega))]
    · rw [if_neg e]
      have key := rs_out_eq hg hg3 htm hs hd hv h1 h5 (i := i) (by omega)
      have bb := rs_cc_b (tm := tm) hg hg3 hb t5
      have e6 := rs_t6 g tm (i + g)
      rw [rs_num_i hr' (by omega) (by omega) (fun z => by omega)]
      have hpr : lN (rs_t g tm (i + g) - k) * prev = lI (((rs_t g tm (i + g) - k : Nat) : Int) * rs_cc g tm (a ax) (i - 1)) := by
        by_cases z : i = 0
        · rw [key.2.2 z, rs_lNI, rs_0', rs_zmul]
          exact congrArg lI (by simp)
        · rw [hp (by omega), rs_lNI, rs_mul]
      rw [hpr, rs_sub', rs_lNI]
      obtain ⟨k1, k2, -⟩ := key
      have hp6 : k - rs_t g tm i ≤ 6 := by omega
      generalize rs_cc g (rs_up tm k (tm k + 1)) (a ax) i = CF at *
      generalize rs_cc g tm (a ax) i = C1 at *
      generalize rs_cc g tm (a ax) (i - 1) = C2 at *
      generalize k - rs_t g tm i = p at *
      generalize rs_t g tm (i + g) - k = q at *
      have e9 : ((p + q : Nat) : Int) * CF - (q : Int) * C2 = (p : Int) * C1 := by omega
      rw [e9]
      have bm := rs_absmul (a := (p : Int)) (A := 6) (by omega) (by omega) bb.1 bb.2
      exact rs_quo_ex (by omega) (by omega) (by omega) (by omega) (by omega)
  intro i
  induction i with
  | zero => intro hi; exact step 0 0 hi (fun z => absurd z (Nat.lt_irrefl _))
  | succ i ih => intro hi; exact step (i + 1) _ hi (fun _ => ih (by omega))
end RSRM
