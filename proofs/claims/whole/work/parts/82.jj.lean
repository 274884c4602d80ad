/-! What the class's loops ask of the curve. -/
def rs_JJ (g : Nat) (a : Nat → Nat → Nat → Int) : (Nat → Nat) → Nat → (Nat → Nat) → (Nat → Nat → Int64) → Prop := fun tm n kn rz => rs_PI g tm a ∧ rs_CI g tm a n kn rz
theorem rs_jb {d : Nat} {a : Nat → Nat → Nat → Int} : ∀ tm n kn rz, rs_JJ d a tm n kn rz → d + 1 ≤ n ∧ n ≤ 19 ∧ (∀ i, kn i ≤ 6) ∧ (∀ k, 1 ≤ k → k ≤ 5 → rs_tm kn d (nI k) (n - (d + 1)) = tm k) := by
  intro tm n kn rz h
  obtain ⟨hP, hn, hk, hk6, hr⟩ := h
  have h6 := rs_cu6 hP
  refine ⟨by omega, by omega, hk6, fun k h1 h5 => ?_⟩
  rw [rs_tm_cg (kv := rs_t d tm) _ (fun j hj => hk j (by omega)), hn, rs_tm_t h1 h5]
theorem rs_j18 {d : Nat} {a : Nat → Nat → Nat → Int} : ∀ tm n kn rz k, rs_JJ d a tm n kn rz → 1 ≤ k → k ≤ 5 → tm k < d → n ≤ 18 := by
  intro tm n kn rz k h h1 h5 hk
  obtain ⟨hP, hn, -⟩ := h
  have h6 := rs_cu6 (rs_PI_in hP h1 h5 hk)
  rw [rs_cu_up d tm h1 6, if_neg (by omega)] at h6
  omega
theorem rs_ji {d : Nat} {a : Nat → Nat → Nat → Int} : ∀ tm n kn kn2 rz rx k, rs_JJ d a tm n kn rz → (∀ i, kn2 i ≤ 6) → 1 ≤ k → k ≤ 5 → tm k < d → rs_F (rs_fin kn d n rz k) rx (n + 1) 0 → rs_JJ d a (rs_up tm k (tm k + 1)) (n + 1) (rs_kin kn kn2 (rs_sp kn d (60 * k) (n - (d + 1)) + 1) k (n + d + 1)) rx :=
  fun _ _ _ _ _ _ _ h hk2 h1 h5 hk hF => ⟨rs_PI_in h.1 h1 h5 hk, rs_CI_in h.1 h.2 hk2 h1 h5 hk hF⟩
theorem rs_back {tm : Nat → Nat} {k : Nat} (h : 0 < tm k) : ∃ tc, tm = rs_up tc k (tc k + 1) ∧ rs_up tm k (tm k - 1) = tc ∧ tc k = tm k - 1 := ⟨rs_up tm k (tm k - 1), (rs_up_bk h).symm, rfl, rs_up_s _ _ _⟩
theorem rs_jo {d : Nat} {a : Nat → Nat → Nat → Int} {pz : Nat → Int64} (hz : rs_pzI pz a) : ∀ tm n kn kn2 rz k, rs_JJ d a tm n kn rz → (∀ i, kn2 i ≤ 6) → 1 ≤ k → k ≤ 5 → 0 < tm k → d + 2 ≤ n ∧ (rs_okr kn kn2 d n rz k ↔ rs_okd pz d tm k) := by
  intro tm n kn kn2 rz k h hk2 h1 h5 h0
  obtain ⟨hP, hC⟩ := h
  have hm := hP.2.1
  have hdec : ∀ j, rs_up tm k (tm k - 1) j ≤ d := rs_up_dec hm
  obtain ⟨tc, e1, e2, e3⟩ := rs_back h0
  unfold rs_okd
  rw [e2] at hdec ⊢
  have hmk := hm k
  have e4 : tm k = tc k + 1 := by omega
  rw [e4]
  subst e1
  have hb6 := rs_cu6 hP
  have u6 := rs_cu_up d tc h1 6
  rw [if_neg (by omega)] at u6
  have c1 : rs_cu d tc 1 ≤ rs_cu d tc 6 := rs_cu_mono d tc (by omega)
  have c1' : rs_cu d tc 1 = d + 1 := rfl
  have hn := hC.1
  refine ⟨by omega, ?_⟩
  have hco := rs_coa_cc (kn2 := kn2) hP hdec hC h1 h5 (ax := 2) (by omega)
  have hre := rs_ref_iff (kn2 := kn2) hP hdec hC h1 h5 (by omega)
  have hsm := rs_smo_iff hP hz h1 h5 (by omega)
  obtain ⟨hs, hd, hv, hb⟩ := hP.2.2.2.1 2 (by omega)
  have hg := hP.1
  have hcc : ∀ i, i < rs_cu d tc 6 → rs_co pz (rs_val (rs_cu d tc)) d i 2 = lI (rs_cc d tc (a 2) i) := fun i hi => rs_co_cc2 hg.1 hg.2 hv hb hz (by omega) (rs_val_5 hi)
  constructor
  · intro ⟨q1, q2⟩
    refine ⟨hsm.2 (hre.1 q2), fun i hi => ?_⟩
    rw [hcc i hi, ← hco i (by omega)]
    exact q1 i (by omega)
  · intro ⟨q1, q2⟩
    refine ⟨fun i hi => ?_, hre.2 (hsm.1 q1)⟩
    rw [hco i (by omega), ← hcc i (by omega)]
    exact q2 i (by omega)
theorem rs_jr {d : Nat} {a : Nat → Nat → Nat → Int} {pz : Nat → Int64} (hz : rs_pzI pz a) : ∀ tm n kn kn2 rz rx k, rs_JJ d a tm n kn rz → (∀ i, kn2 i ≤ 6) → 1 ≤ k → k ≤ 5 → 0 < tm k → rs_okd pz d tm k → rs_F (fun b j => rs_coa (rs_kout kn kn2 (rs_sp kn d (60 * k) (n - (d + 1))) (n + d + 1)) d n rz k b j) rx (n - 1) 0 → rs_JJ d a (rs_up tm k (tm k - 1)) (n - 1) (rs_kout kn kn2 (rs_sp kn d (60 * k) (n - (d + 1))) (n + d + 1)) rx := by
  intro tm n kn kn2 rz rx k h hk2 h1 h5 h0 hok hF
  obtain ⟨hP, hC⟩ := h
  have hm := hP.2.1
  have hdec : ∀ j, rs_up tm k (tm k - 1) j ≤ d := rs_up_dec hm
  obtain ⟨tc, e1, e2, e3⟩ := rs_back h0
  unfold rs_okd at hok
  rw [e2] at hdec hok ⊢
  have hmk := hm k
  have e4 : tm k = tc k + 1 := by omega
  rw [e4] at hok
  subst e1
  have u6 := rs_cu_up d tc h1 6
  rw [if_neg (by omega)] at u6
  have hn := hC.1
  have hsm := (rs_smo_iff hP hz h1 h5 (by omega)).1 hok.1
  refine ⟨rs_PI_out hP hdec h1 h5 hsm, by omega, rs_kout_t h1 h5 hC.1 hC.2.1, rs_kout_le hC.2.2.1 hk2, fun ax i hax hi => ?_⟩
  rw [hF.get hax hi]
  exact rs_coa_cc hP hdec hC h1 h5 hax i hi
