/-! The class's insertion, in whole numbers. -/
theorem rs_lNI (k : Nat) : lN k = lI (k : Int) := rs_lN k
/-- a number of a row, times a share that is 0 where there is none -/
theorem rs_num_i {g : Nat} {tm : Nat → Nat} {b : Nat → Nat → Int} {rz : Nat → Nat → Int64} {n ax i sh : Nat} (hr : ∀ i, i < n → rz ax i = lI (rs_cc g tm b i)) (hi : i ≤ n) (hn : n < 1000) (h0 : i = n → sh = 0) : lN sh * rs_num rz n ax (nI i) = lI ((sh : Int) * rs_cc g tm b i) := by
  by_cases e : i = n
  · rw [h0 e, rs_lNI, rs_num_out (by omega) (by omega), rs_0, rs_mul]
    exact congrArg lI (by simp)
  · rw [rs_num_in (by omega) (by omega), hr i (by omega), rs_lNI, rs_mul]
theorem rs_num_p {g : Nat} {tm : Nat → Nat} {b : Nat → Nat → Int} {rz : Nat → Nat → Int64} {n ax i sh : Nat} (hr : ∀ i, i < n → rz ax i = lI (rs_cc g tm b i)) (hi : i ≤ n) (hn : n < 1000) (h0 : i = 0 → sh = 0) : lN sh * rs_num rz n ax (nI i - nI 1) = lI ((sh : Int) * rs_cc g tm b (i - 1)) := by
  cases i with
  | zero =>
    rw [h0 rfl, rs_lNI, rs_num_m1, rs_0, rs_mul]
    exact congrArg lI (by simp)
  | succ i => rw [rs_num_pr, rs_num_in (by omega) (by omega), hr i (by omega), rs_lNI, rs_mul, Nat.add_sub_cancel]
theorem rs_tg {g : Nat} {tm : Nat → Nat} {i : Nat} (h : i ≤ g) : rs_t g tm i = 0 := by
  have h1 := rs_val_k (rs_cu_asc g tm) (k := 1) (by omega) (by omega) i
  have h' : 1 ≤ rs_t g tm i ↔ rs_cu g tm 1 ≤ i := h1
  have c1 : rs_cu g tm 1 = g + 1 := rfl
  omega
theorem rs_tn {g : Nat} {tm : Nat → Nat} {i : Nat} (h : rs_cu g tm 6 ≤ i) : rs_t g tm i = 6 := by
  have h1 := rs_val_k (rs_cu_asc g tm) (k := 6) (by omega) (by omega) i
  have h' : 6 ≤ rs_t g tm i ↔ rs_cu g tm 6 ≤ i := h1
  have := rs_t6 g tm i
  omega
theorem rs_sm_in {g k : Nat} {tm : Nat → Nat} {b : Nat → Nat → Int} (hkg : tm k < g) (hg3 : g ≤ 3) (h : rs_sm 5 g tm b) : rs_sm 5 g (rs_up tm k (tm k + 1)) b := by
  intro j h1 h5 d h4 hd
  refine h j h1 h5 d h4 ?_
  by_cases e : j = k
  · subst e
    rw [rs_up_s, if_neg (by omega)] at hd
    split <;> omega
  · rw [rs_up_n e] at hd
    exact hd
theorem rs_PI_in {g k : Nat} {tm : Nat → Nat} {a : Nat → Nat → Nat → Int} (hP : rs_PI g tm a) (h1 : 1 ≤ k) (h5 : k ≤ 5) (hkg : tm k < g) : rs_PI g (rs_up tm k (tm k + 1)) a := by
  obtain ⟨hg, htm, ⟨h0, h6⟩, hA, hW⟩ := hP
  refine ⟨hg, rs_up_le htm (by omega), ⟨by rw [rs_up_n (by omega)]; exact h0, fun j hj => by rw [rs_up_n (by omega)]; exact h6 j hj⟩, fun ax hax => ?_, hW⟩
  obtain ⟨hs, hd, hv, hb⟩ := hA ax hax
  exact ⟨rs_sm_in hkg hg.2 hs, hd, hv, hb⟩
theorem rs_cu6 {g : Nat} {tm : Nat → Nat} {a : Nat → Nat → Nat → Int} (hP : rs_PI g tm a) : rs_cu g tm 6 ≤ 19 ∧ g + 1 ≤ rs_cu g tm 6 := ⟨rs_cu6_b hP.1.2 hP.2.1, rs_cu_mono g tm (a := 1) (b := 6) (by omega)⟩
theorem rs_CI_in {g k n : Nat} {tm kn kn2 : Nat → Nat} {a : Nat → Nat → Nat → Int} {rz rx : Nat → Nat → Int64} (hP : rs_PI g tm a) (hC : rs_CI g tm a n kn rz) (hk2 : ∀ i, kn2 i ≤ 6) (h1 : 1 ≤ k) (h5 : k ≤ 5) (hkg : tm k < g) (hF : rs_F (rs_fin kn g n rz k) rx (n + 1) 0) :
    rs_CI g (rs_up tm k (tm k + 1)) a (n + 1) (rs_kin kn kn2 (rs_sp kn g (60 * k) (n - (g + 1)) + 1) k (n + g + 1)) rx := by
  have hP' := rs_PI_in hP h1 h5 hkg
  have hb6 := rs_cu6 hP
  obtain ⟨⟨hg, hg3⟩, htm, h06, hA, hW⟩ := hP
  obtain ⟨hn, hk, hk6, hr⟩ := hC
  have hn' : n + 1 = rs_cu g (rs_up tm k (tm k + 1)) 6 := by
    rw [rs_cu_up g tm h1 6, if_neg (by omega), hn]
  refine ⟨hn', rs_kin_t h1 h5 hn hk, rs_kin_le hk6 hk2 (by omega), fun ax i hax hi => ?_⟩
  obtain ⟨hs, hd, hv, hb⟩ := hA ax hax
  have key := rs_ct_in hg hg3 htm hs hd h1 h5 hkg (i := i) (by omega)
  rw [rs_ct_cc hg hg3 hv, rs_ct_cc hg hg3 hv, rs_ct_cc hg hg3 hv] at key
  have t5 : rs_t g (rs_up tm k (tm k + 1)) i ≤ 5 := rs_val_5 (by omega)
  have bb := rs_cc_b (tm := rs_up tm k (tm k + 1)) hg hg3 hb t5
  have e1 := rs_t6 g tm (i + g)
  rw [hF.get hax hi]
  show rs_quo (lN (k - kn i) * rs_num rz n ax (nI i) + lN (kn (i + g) - k) * rs_num rz n ax (nI i - nI 1)) (lN (k - kn i + (kn (i + g) - k))) = _
  rw [hk i (by omega), hk (i + g) (by omega)]
  rw [rs_num_i (hr ax · hax) (by omega) (by omega) (fun e => by rw [e, rs_tn (by omega)]; omega), rs_num_p (hr ax · hax) (by omega) (by omega) (fun e => by rw [e, Nat.zero_add, rs_tg (Nat.le_refl _)]; omega), rs_add, rs_lNI]
  obtain ⟨k1, k2⟩ := key
  generalize rs_cc g (rs_up tm k (tm k + 1)) (a ax) i = C at *
  generalize rs_cc g tm (a ax) i = C1 at *
  generalize rs_cc g tm (a ax) (i - 1) = C2 at *
  have hp : k - rs_t g tm i ≤ 6 := by omega
  generalize k - rs_t g tm i = p at *
  have hq : rs_t g tm (i + g) - k ≤ 6 := by omega
  generalize rs_t g tm (i + g) - k = q at *
  have e : (p : Int) * C1 + (q : Int) * C2 = ((p + q : Nat) : Int) * C := rs_can hg (by grind)
  rw [e]
  have hpq : p + q ≤ 12 := by omega
  have bm := rs_absmul (a := ((p + q : Nat) : Int)) (A := 12) (by omega) (by omega) bb.1 bb.2
  exact rs_quo_ex (by omega) (by omega) (by omega) (by omega) (by omega)
