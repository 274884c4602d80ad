/-! When a removal is granted: class and model alike. -/
theorem rs_a_b {b : Nat → Int} (h : ∀ m, m < 4 → -10368000000 ≤ rs_be b m ∧ rs_be b m ≤ 10368000000) :
    (-3456000000 ≤ b 0 ∧ b 0 ≤ 3456000000) ∧ (-20736000000 ≤ b 1 ∧ b 1 ≤ 20736000000) ∧ (-41472000000 ≤ b 2 ∧ b 2 ≤ 41472000000) ∧ (-27648000000 ≤ b 3 ∧ b 3 ≤ 27648000000) := rs_al_b (g := 1) (by omega) (by omega) h
theorem rs_d4 {P : Nat → Prop} (h0 : P 0) (h1 : P 1) (h2 : P 2) (h3 : P 3) {d : Nat} (hd : d < 4) : P d := by
  have : d = 0 ∨ d = 1 ∨ d = 2 ∨ d = 3 := by omega
  rcases this with rfl | rfl | rfl | rfl <;> assumption
theorem rs_ad_b {b : Nat → Int} (h : ∀ m, m < 4 → -10368000000 ≤ rs_be b m ∧ rs_be b m ≤ 10368000000) {d : Nat} (hd : d < 4) : -2 ^ 63 ≤ b d ∧ b d < 2 ^ 63 := by
  obtain ⟨h0, h1, h2, h3⟩ := rs_a_b h
  exact rs_d4 (P := fun d => -2 ^ 63 ≤ b d ∧ b d < 2 ^ 63) (by omega) (by omega) (by omega) (by omega) hd
theorem rs_sh_b {b : Nat → Int} (h : ∀ m, m < 4 → -10368000000 ≤ rs_be b m ∧ rs_be b m ≤ 10368000000) {d : Nat} (hd : d < 4) : -2 ^ 63 ≤ rs_sh b d ∧ rs_sh b d < 2 ^ 63 := by
  obtain ⟨h0, h1, h2, h3⟩ := rs_a_b h
  refine rs_d4 (P := fun d => -2 ^ 63 ≤ rs_sh b d ∧ rs_sh b d < 2 ^ 63) ?_ ?_ ?_ ?_ hd
  · show -2 ^ 63 ≤ b 0 + b 1 + b 2 + b 3 ∧ b 0 + b 1 + b 2 + b 3 < 2 ^ 63; omega
  · show -2 ^ 63 ≤ b 1 + 2 * b 2 + 3 * b 3 ∧ b 1 + 2 * b 2 + 3 * b 3 < 2 ^ 63; omega
  · show -2 ^ 63 ≤ b 2 + 3 * b 3 ∧ b 2 + 3 * b 3 < 2 ^ 63; omega
  · show -2 ^ 63 ≤ b 3 ∧ b 3 < 2 ^ 63; omega
/-- the model's shifted piece -/
theorem rs_su_sh {pz : Nat → Int64} {a : Nat → Nat → Nat → Int} (hz : rs_pzI pz a) {ax j d : Nat} (hax : ax < 3) (hj : j < 6) (hd : d < 4) : rs_su pz (24 * ax + 4 * j) d (4 - d) = lI (rs_sh (a ax j) d) := by
  have z0 := hz ax j 0 hax hj (by omega)
  have z1 := hz ax j 1 hax hj (by omega)
  have z2 := hz ax j 2 hax hj (by omega)
  have z3 := hz ax j 3 hax hj (by omega)
  have o1 : (1 : Int64) = lI 1 := rfl
  have l2 : lN 2 = lI 2 := rfl
  have l3 : lN 3 = lI 3 := rfl
  refine rs_d4 (P := fun d => rs_su pz (24 * ax + 4 * j) d (4 - d) = lI (rs_sh (a ax j) d)) ?_ ?_ ?_ ?_ hd
  · show 0 + 1 * pz (24 * ax + 4 * j + 0) + 1 * pz (24 * ax + 4 * j + 1) + 1 * pz (24 * ax + 4 * j + 2) + 1 * pz (24 * ax + 4 * j + 3) = lI (a ax j 0 + a ax j 1 + a ax j 2 + a ax j 3)
    rw [z0, z1, z2, z3, o1, rs_0]
    simp only [rs_add, rs_mul]
    exact congrArg lI (by omega)
  · show 0 + 1 * pz (24 * ax + 4 * j + 1) + lN 2 * pz (24 * ax + 4 * j + 2) + lN 3 * pz (24 * ax + 4 * j + 3) = lI (a ax j 1 + 2 * a ax j 2 + 3 * a ax j 3)
    rw [z1, z2, z3, o1, l2, l3, rs_0]
    simp only [rs_add, rs_mul]
    exact congrArg lI (by omega)
  · show 0 + 1 * pz (24 * ax + 4 * j + 2) + lN 3 * pz (24 * ax + 4 * j + 3) = lI (a ax j 2 + 3 * a ax j 3)
    rw [z2, z3, o1, l3, rs_0]
    simp only [rs_add, rs_mul]
    exact congrArg lI (by omega)
  · show 0 + 1 * pz (24 * ax + 4 * j + 3) = lI (a ax j 3)
    rw [z3, o1, rs_0]
    simp only [rs_add, rs_mul]
    exact congrArg lI (by omega)
theorem rs_smo_iff {pz : Nat → Int64} {a : Nat → Nat → Nat → Int} {g k : Nat} {tm : Nat → Nat} (hP : rs_PI g (rs_up tm k (tm k + 1)) a) (hz : rs_pzI pz a) (h1 : 1 ≤ k) (h5 : k ≤ 5) (hkg : tm k < g) : rs_smo pz k (g - (tm k + 1) + 2) ↔ ∀ ax, ax < 3 → rs_sh (a ax (k - 1)) (g - tm k) = a ax k (g - tm k) := by
  obtain ⟨⟨hg, hg3⟩, -, -, hA, -⟩ := hP
  have key : ∀ ax d, ax < 3 → d < 4 → (rs_su pz (24 * ax + 4 * (k - 1)) d (4 - d) = pz (24 * ax + 4 * (k - 1) + 4 + d) ↔ rs_sh (a ax (k - 1)) d = a ax k d) := by
    intro ax d hax hd
    obtain ⟨hs, hd', hv, hb⟩ := hA ax hax
    rw [rs_su_sh hz hax (by omega) hd, show 24 * ax + 4 * (k - 1) + 4 + d = 24 * ax + 4 * k + d by omega, hz ax k d hax (by omega) hd]
    have b1 := rs_sh_b (hb (k - 1) (by omega)) hd
    have b2 := rs_ad_b (hb k (by omega)) hd
    exact rs_eq b1.1 b1.2 b2.1 b2.2
  constructor
  · intro h ax hax
    exact (key ax (g - tm k) hax (by omega)).1 (h ax hax (g - tm k) (by omega) (by omega))
  · intro h ax hax d h4 hd
    refine (key ax d hax h4).2 ?_
    by_cases e : d = g - tm k
    · rw [e]; exact h ax hax
    · obtain ⟨hs, -, -, -⟩ := hA ax hax
      refine hs k h1 h5 d h4 ?_
      rw [rs_up_s, if_neg (by omega)]
      omega
theorem rs_PI_out {a : Nat → Nat → Nat → Int} {g k : Nat} {tm : Nat → Nat} (hP : rs_PI g (rs_up tm k (tm k + 1)) a) (htm : ∀ k, tm k ≤ g) (h1 : 1 ≤ k) (h5 : k ≤ 5) (h : ∀ ax, ax < 3 → rs_sh (a ax (k - 1)) (g - tm k) = a ax k (g - tm k)) : rs_PI g tm a := by
  obtain ⟨⟨hg, hg3⟩, hm, ⟨h0, h6⟩, hA, hW⟩ := hP
  have hmk := hm k
  rw [rs_up_s] at hmk
  refine ⟨⟨hg, hg3⟩, htm, ⟨by rw [rs_up_n (by omega)] at h0; exact h0, fun j hj => by have := h6 j hj; rw [rs_up_n (by omega)] at this; exact this⟩, fun ax hax => ?_, hW⟩
  obtain ⟨hs, hd, hv, hb⟩ := hA ax hax
  refine ⟨?_, hd, hv, hb⟩
  intro j j1 j5 d h4 hdz
  by_cases e : j = k
  · subst e
    by_cases e2 : d = g - tm j
    · rw [e2]; exact h ax hax
    · by_cases e3 : d < g - tm j
      · refine hs j j1 j5 d h4 ?_
        rw [rs_up_s, if_neg (by omega)]
        omega
      · -- beyond the degree all is nothing
        have z : tm j = 0 := by
          by_cases z : tm j = 0
          · exact z
          · rw [if_neg z] at hdz; omega
        have hgd : g < d := by omega
        have d1 := hd (j - 1)
        have d2 := hd j
        have hdc : (d = 2 ∧ g = 1) ∨ (d = 3 ∧ g ≤ 2) := by omega
        rcases hdc with ⟨rfl, q⟩ | ⟨rfl, q⟩
        · show a ax (j - 1) 2 + 3 * a ax (j - 1) 3 = a ax j 2
          rw [d1.2 (by omega), d1.1 (by omega), d2.2 (by omega)]
          rfl
        · show a ax (j - 1) 3 = a ax j 3
          rw [d1.1 (by omega), d2.1 (by omega)]
  · refine hs j j1 j5 d h4 ?_
    rw [rs_up_n e]
    exact hdz
theorem rs_ref_iff {a : Nat → Nat → Nat → Int} {g k n : Nat} {tm kn kn2 : Nat → Nat} {rz : Nat → Nat → Int64} (hP : rs_PI g (rs_up tm k (tm k + 1)) a) (htm : ∀ k, tm k ≤ g) (hC : rs_CI g (rs_up tm k (tm k + 1)) a n kn rz) (h1 : 1 ≤ k) (h5 : k ≤ 5) (hkg : tm k < g) :
    rs_ref (rs_kout kn kn2 (rs_sp kn g (60 * k) (n - (g + 1))) (n + g + 1)) g (n - 1) (fun b j => rs_coa (rs_kout kn kn2 (rs_sp kn g (60 * k) (n - (g + 1))) (n + g + 1)) g n rz k b j) n rz k ↔ ∀ ax, ax < 3 → rs_sh (a ax (k - 1)) (g - tm k) = a ax k (g - tm k) := by
  have hco : ∀ ax, ax < 3 → ∀ i, i < n - 1 → rs_coa (rs_kout kn kn2 (rs_sp kn g (60 * k) (n - (g + 1))) (n + g + 1)) g n rz k ax i = lI (rs_cc g tm (a ax) i) := fun ax hax => rs_coa_cc hP htm hC h1 h5 hax
  have hb6 := rs_cu6 hP
  obtain ⟨⟨hg, hg3⟩, -, h06, hA, hW⟩ := hP
  obtain ⟨hn, hk, hk6, hr⟩ := hC
  have u6 := rs_cu_up g tm h1 6
  rw [if_neg (by omega)] at u6
  have hKO := rs_kout_t (kn2 := kn2) h1 h5 hn hk
  generalize rs_kout kn kn2 (rs_sp kn g (60 * k) (n - (g + 1))) (n + g + 1) = KO at *
  have hc := rs_cu_asc g tm
  have c1 : rs_cu g tm 1 = g + 1 := rfl
  have mk1 : rs_cu g tm 1 ≤ rs_cu g tm k := rs_cu_mono g tm h1
  have mk6 : rs_cu g tm k ≤ rs_cu g tm 6 := rs_cu_mono g tm (by omega)
  have hcs := rs_cu_s g tm h1
  -- one equation, in whole numbers
  have one : ∀ ax, ax < 3 → ∀ i, i < n → (lN (k - KO i + (KO (i + g) - k)) * rs_num rz n ax (nI i) = rs_ble KO g (n - 1) (fun b j => rs_coa KO g n rz k b j) ax i k ↔ ((k - rs_t g tm i + (rs_t g tm (i + g) - k) : Nat) : Int) * rs_cc g (rs_up tm k (tm k + 1)) (a ax) i = ((k - rs_t g tm i : Nat) : Int) * rs_cc g tm (a ax) i + ((rs_t g tm (i + g) - k : Nat) : Int) * rs_cc g tm (a ax) (i - 1)) := by
    intro ax hax i hi
    obtain ⟨hs, hd, hv, hb⟩ := hA ax hax
    unfold rs_ble
    rw [hKO i (by omega), hKO (i + g) (by omega), rs_num_i (hr ax · hax) (by omega) (by omega) (fun z => by omega), rs_num_i (rz := fun b j => rs_coa KO g n rz k b j) (n := n - 1) (hco ax hax) (by omega) (by omega) (fun z => by rw [z, rs_tn (by omega)]; omega), rs_num_p (rz := fun b j => rs_coa KO g n rz k b j) (n := n - 1) (hco ax hax) (by omega) (by omega) (fun z => by rw [z, Nat.zero_add, rs_tg (Nat.le_refl _)]; omega), rs_add]
    have t5 : rs_t g (rs_up tm k (tm k + 1)) i ≤ 5 := rs_val_5 (by omega)
    have bF := rs_cc_b (tm := rs_up tm k (tm k + 1)) hg hg3 hb t5
    have e6 := rs_t6 g tm (i + g)
    have hb1 : -600000000000000000 ≤ ((k - rs_t g tm i : Nat) : Int) * rs_cc g tm (a ax) i ∧ ((k - rs_t g tm i : Nat) : Int) * rs_cc g tm (a ax) i ≤ 600000000000000000 := by
      by_cases z : rs_t g tm i ≤ 5
      · have b1 := rs_cc_b (tm := tm) hg hg3 hb z
        have := rs_absmul (a := ((k - rs_t g tm i : Nat) : Int)) (A := 12) (by omega) (by omega) b1.1 b1.2
        omega
      · rw [show k - rs_t g tm i = 0 by omega]
        simp
    have hb2 : -600000000000000000 ≤ ((rs_t g tm (i + g) - k : Nat) : Int) * rs_cc g tm (a ax) (i - 1) ∧ ((rs_t g tm (i + g) - k : Nat) : Int) * rs_cc g tm (a ax) (i - 1) ≤ 600000000000000000 := by
      have z : rs_t g tm (i - 1) ≤ 5 := rs_val_5 (by omega)
      have b1 := rs_cc_b (tm := tm) hg hg3 hb z
      have := rs_absmul (a := ((rs_t g tm (i + g) - k : Nat) : Int)) (A := 12) (by omega) (by omega) b1.1 b1.2
      omega
    have hb3 := rs_absmul (a := ((k - rs_t g tm i + (rs_t g tm (i + g) - k) : Nat) : Int)) (A := 12) (by omega) (by omega) bF.1 bF.2
    exact rs_eq (by omega) (by omega) (by omega) (by omega)
  have vC := rs_val_k hc h1 (by omega) (rs_cu g tm k)
  have vC' : k ≤ rs_t g tm (rs_cu g tm k) ↔ rs_cu g tm k ≤ rs_cu g tm k := vC
  have vG := rs_val_k hc (k := k + 1) (by omega) (by omega) (rs_cu g tm k + g)
  have vG' : k + 1 ≤ rs_t g tm (rs_cu g tm k + g) ↔ rs_cu g tm (k + 1) ≤ rs_cu g tm k + g := vG
  have tC := vC'.2 (Nat.le_refl _)
  have tG := vG'.2 (by omega)
  constructor
  · intro h ax hax
    obtain ⟨hs, hd, hv, hb⟩ := hA ax hax
    have q := (one ax hax (rs_cu g tm k) (by omega)).1 (h (rs_cu g tm k) (by omega) ax hax)
    rw [show k - rs_t g tm (rs_cu g tm k) = 0 by omega, Nat.zero_add] at q
    have q2 : rs_cc g (rs_up tm k (tm k + 1)) (a ax) (rs_cu g tm k) = rs_cc g tm (a ax) (rs_cu g tm k - 1) := by
      refine Int.eq_of_mul_eq_mul_left (a := ((rs_t g tm (rs_cu g tm k + g) - k : Nat) : Int)) (by omega) ?_
      rw [q]
      simp
    refine (rs_rm_iff hg hg3 htm hd h1 h5 hkg (rs_sm_lo h5 hs) (fun d hdd => ?_)).1 ?_
    · refine hs k h1 h5 d (by omega) ?_
      rw [rs_up_s, if_neg (by omega)]
      omega
    · rw [rs_ct_cc hg hg3 hv, rs_ct_cc hg hg3 hv, q2]
  · intro h i hi ax hax
    obtain ⟨hs, hd, hv, hb⟩ := hA ax hax
    refine (one ax hax i hi).2 ?_
    by_cases p1 : i < rs_cu g tm k
    · exact (rs_out_eq hg hg3 htm hs hd hv h1 h5 p1).1
    · have vi := rs_val_k hc h1 (by omega) i
      have vi' : k ≤ rs_t g tm i ↔ rs_cu g tm k ≤ i := vi
      have ti := vi'.2 (by omega)
      rw [show k - rs_t g tm i = 0 by omega, Nat.zero_add]
      have e : rs_cc g (rs_up tm k (tm k + 1)) (a ax) i = rs_cc g tm (a ax) (i - 1) := by
        by_cases p2 : i = rs_cu g tm k
        · subst p2
          have q := (rs_rm_iff hg hg3 htm hd h1 h5 hkg (rs_sm_lo h5 hs) (fun d hdd => by
            refine hs k h1 h5 d (by omega) ?_
            rw [rs_up_s, if_neg (by omega)]
            omega)).2 (h ax hax)
          rw [rs_ct_cc hg hg3 hv, rs_ct_cc hg hg3 hv] at q
          exact rs_can hg q
        · obtain ⟨y, rfl⟩ : ∃ y, i = y + 1 := ⟨i - 1, by omega⟩
          rw [rs_cc_mv h1 h5 (by omega), Nat.add_sub_cancel]
      rw [e]
      simp
