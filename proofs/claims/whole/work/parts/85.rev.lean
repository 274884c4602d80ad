/-! The curve walked backwards. -/
def rs_ng (b : Nat → Int) (d : Nat) : Int := if d % 2 = 0 then b d else -b d
def rs_ra (a : Nat → Nat → Nat → Int) : Nat → Nat → Nat → Int := fun ax j => rs_ng (rs_sh (a ax (5 - j)))
theorem rs_ng0 (b : Nat → Int) : rs_ng b 0 = b 0 := rfl
theorem rs_ng1 (b : Nat → Int) : rs_ng b 1 = -b 1 := rfl
theorem rs_ng2 (b : Nat → Int) : rs_ng b 2 = b 2 := rfl
theorem rs_ng3 (b : Nat → Int) : rs_ng b 3 = -b 3 := rfl
theorem rs_sh_ng (b : Nat → Int) {d : Nat} (hd : d < 4) : rs_sh (rs_ng (rs_sh b)) d = rs_ng b d := by
  have h : d = 0 ∨ d = 1 ∨ d = 2 ∨ d = 3 := by omega
  rcases h with rfl | rfl | rfl | rfl
  · rw [rs_sh0, rs_ng0, rs_ng1, rs_ng2, rs_ng3, rs_sh0, rs_sh1, rs_sh2, rs_sh3, rs_ng0]; omega
  · rw [rs_sh1, rs_ng1, rs_ng2, rs_ng3, rs_sh1, rs_sh2, rs_sh3, rs_ng1]; omega
  · rw [rs_sh2, rs_ng2, rs_ng3, rs_sh2, rs_sh3, rs_ng2]; omega
  · rw [rs_sh3, rs_ng3, rs_sh3, rs_ng3]
theorem rs_be_ng (b : Nat → Int) {m : Nat} (hm : m < 4) : rs_be (rs_ng (rs_sh b)) m = rs_be b (3 - m) := by
  have h : m = 0 ∨ m = 1 ∨ m = 2 ∨ m = 3 := by omega
  rcases h with rfl | rfl | rfl | rfl
  · show 3 * rs_ng (rs_sh b) 0 = 3 * (b 0 + b 1 + b 2 + b 3)
    rw [rs_ng0, rs_sh0]
  · show 3 * rs_ng (rs_sh b) 0 + rs_ng (rs_sh b) 1 = 3 * b 0 + 2 * b 1 + b 2
    rw [rs_ng0, rs_ng1, rs_sh0, rs_sh1]; omega
  · show 3 * rs_ng (rs_sh b) 0 + 2 * rs_ng (rs_sh b) 1 + rs_ng (rs_sh b) 2 = 3 * b 0 + b 1
    rw [rs_ng0, rs_ng1, rs_ng2, rs_sh0, rs_sh1, rs_sh2]; omega
  · show 3 * (rs_ng (rs_sh b) 0 + rs_ng (rs_sh b) 1 + rs_ng (rs_sh b) 2 + rs_ng (rs_sh b) 3) = 3 * b 0
    rw [rs_ng0, rs_ng1, rs_ng2, rs_ng3, rs_sh0, rs_sh1, rs_sh2, rs_sh3]; omega
theorem rs_nu_ng {g : Nat} {b : Nat → Int} (hg : 1 ≤ g) (hg3 : g ≤ 3) (hd : (g ≤ 2 → b 3 = 0) ∧ (g ≤ 1 → b 2 = 0)) (x y z : Int) : rs_nu g (rs_ng (rs_sh b)) x y z = rs_nu g b (1 - x) (1 - y) (1 - z) := by
  have h : g = 1 ∨ g = 2 ∨ g = 3 := by omega
  rcases h with rfl | rfl | rfl
  · have d3 := hd.1 (by omega)
    have d2 := hd.2 (by omega)
    rw [rs_nu1, rs_nu1, rs_ng0, rs_ng1, rs_sh0, rs_sh1]
    grind
  · have d3 := hd.1 (by omega)
    rw [rs_nu2, rs_nu2, rs_ng0, rs_ng1, rs_ng2, rs_sh0, rs_sh1, rs_sh2]
    grind
  · rw [rs_nu3, rs_nu3, rs_ng0, rs_ng1, rs_ng2, rs_ng3, rs_sh0, rs_sh1, rs_sh2, rs_sh3]
    grind
/-- the times, turned -/
theorem rs_trk_eq (tm : Nat → Nat) (k : Nat) : rs_trk tm 2 k = if 1 ≤ k ∧ k ≤ 5 then tm (6 - k) else tm k := by
  show rs_up (rs_up (rs_trk tm 1) 2 (rs_trk tm 1 4)) 4 (rs_trk tm 1 2) k = _
  have e1 : ∀ j, rs_trk tm 1 j = if j = 5 then tm 1 else if j = 1 then tm 5 else tm j := fun j => by
    show rs_up (rs_up tm 1 (tm 5)) 5 (tm 1) j = _
    unfold rs_up
    rfl
  unfold rs_up
  rw [e1 4, e1 2, e1 k]
  by_cases h : 1 ≤ k ∧ k ≤ 5
  · rw [if_pos h]
    have h : k = 1 ∨ k = 2 ∨ k = 3 ∨ k = 4 ∨ k = 5 := by omega
    rcases h with rfl | rfl | rfl | rfl | rfl <;> rfl
  · rw [if_neg h, if_neg (by omega), if_neg (by omega), if_neg (by omega), if_neg (by omega)]
theorem rs_cu_tr (g : Nat) (tm : Nat → Nat) : ∀ k, 1 ≤ k → k ≤ 6 → rs_cu g (rs_trk tm 2) k + rs_cu g tm (7 - k) = rs_cu g tm 6 + g + 1 := by
  intro k h1 h6
  have c1 : rs_cu g tm 1 = g + 1 := rfl
  have c2 := rs_cu_s g tm (k := 1) (by omega)
  have c3 := rs_cu_s g tm (k := 2) (by omega)
  have c4 := rs_cu_s g tm (k := 3) (by omega)
  have c5 := rs_cu_s g tm (k := 4) (by omega)
  have c6 := rs_cu_s g tm (k := 5) (by omega)
  have b1 : rs_cu g (rs_trk tm 2) 1 = g + 1 := rfl
  have b2 := rs_cu_s g (rs_trk tm 2) (k := 1) (by omega)
  have b3 := rs_cu_s g (rs_trk tm 2) (k := 2) (by omega)
  have b4 := rs_cu_s g (rs_trk tm 2) (k := 3) (by omega)
  have b5 := rs_cu_s g (rs_trk tm 2) (k := 4) (by omega)
  have b6 := rs_cu_s g (rs_trk tm 2) (k := 5) (by omega)
  have t1 : rs_trk tm 2 1 = tm 5 := rs_trk_eq tm 1
  have t2 : rs_trk tm 2 2 = tm 4 := rs_trk_eq tm 2
  have t3 : rs_trk tm 2 3 = tm 3 := rs_trk_eq tm 3
  have t4 : rs_trk tm 2 4 = tm 2 := rs_trk_eq tm 4
  have t5 : rs_trk tm 2 5 = tm 1 := rs_trk_eq tm 5
  simp only [Nat.reduceAdd] at c2 c3 c4 c5 c6 b2 b3 b4 b5 b6
  have h : k = 1 ∨ k = 2 ∨ k = 3 ∨ k = 4 ∨ k = 5 ∨ k = 6 := by omega
  rcases h with rfl | rfl | rfl | rfl | rfl | rfl <;> simp only [Nat.reduceSub] <;> omega
/-- the knots, turned -/
theorem rs_t_tr (g : Nat) (tm : Nat → Nat) {i : Nat} (hi : i ≤ rs_cu g tm 6 + g) : rs_t g (rs_trk tm 2) i = 6 - rs_t g tm (rs_cu g tm 6 + g - i) := by
  have t6 := rs_t6 g tm (rs_cu g tm 6 + g - i)
  have key : ∀ k, 1 ≤ k → k ≤ 6 → (k ≤ 6 - rs_t g tm (rs_cu g tm 6 + g - i) ↔ rs_cu g (rs_trk tm 2) k ≤ i) := fun k h1 h6 => by
    have e := rs_cu_tr g tm k h1 h6
    have h := rs_val_k (rs_cu_asc g tm) (k := 7 - k) (by omega) (by omega) (rs_cu g tm 6 + g - i)
    have h' : 7 - k ≤ rs_t g tm (rs_cu g tm 6 + g - i) ↔ rs_cu g tm (7 - k) ≤ rs_cu g tm 6 + g - i := h
    have g1 : rs_cu g tm 1 = g + 1 := rfl
    have g2 : rs_cu g tm 1 ≤ rs_cu g tm (7 - k) := rs_cu_mono g tm (by omega)
    omega
  exact (rs_val_eq (rs_cu_asc g (rs_trk tm 2)) (key 1 (by omega) (by omega)) (key 2 (by omega) (by omega)) (key 3 (by omega) (by omega)) (key 4 (by omega) (by omega)) (key 5 (by omega) (by omega)) (key 6 (by omega) (by omega)) (by omega)).symm
theorem rs_nu_rev {g : Nat} (hg : 1 ≤ g) (hg3 : g ≤ 3) (b : Nat → Int) (F : Nat → Int) : rs_nu g b (F g) (F (g - 1)) (F (g - 2)) = rs_nu g b (F 1) (F 2) (F 3) := by
  have h : g = 1 ∨ g = 2 ∨ g = 3 := by omega
  rcases h with rfl | rfl | rfl
  · rfl
  · rw [rs_nu2, rs_nu2]; grind
  · rw [rs_nu3, rs_nu3]; grind
theorem rs_PI_tr {g : Nat} {tm : Nat → Nat} {a : Nat → Nat → Nat → Int} (hP : rs_PI g tm a) : rs_PI g (rs_trk tm 2) (rs_ra a) := by
  obtain ⟨⟨hg, hg3⟩, htm, ⟨h0, h6⟩, hA, hp⟩ := hP
  refine ⟨⟨hg, hg3⟩, fun k => ?_, ⟨?_, fun k hk => ?_⟩, fun ax hax => ?_, fun j hj m hm => ?_⟩
  · rw [rs_trk_eq]; split <;> exact htm _
  · exact (rs_trk_eq tm 0).trans h0
  · rw [rs_trk_eq, if_neg (by omega)]; exact h6 k hk
  · obtain ⟨hs, hd, hv, hb⟩ := hA ax hax
    refine ⟨fun k h1 h5 d hd4 hz => ?_, fun j => ⟨fun h2 => ?_, fun h1 => ?_⟩, fun j => ⟨⟨?_, ?_⟩, fun h2 => ?_⟩, fun j hj m hm => ?_⟩
    · show rs_sh (rs_ng (rs_sh (a ax (5 - (k - 1))))) d = rs_ng (rs_sh (a ax (5 - k))) d
      rw [rs_sh_ng _ hd4, show 5 - (k - 1) = 6 - k by omega]
      rw [rs_trk_eq, if_pos (show 1 ≤ k ∧ k ≤ 5 from ⟨h1, h5⟩)] at hz
      have := hs (6 - k) (by omega) (by omega) d hd4 hz
      rw [show 6 - k - 1 = 5 - k by omega] at this
      unfold rs_ng
      rw [this]
    · show rs_ng (rs_sh (a ax (5 - j))) 3 = 0
      rw [rs_ng3, rs_sh3, (hd _).1 h2]; rfl
    · show rs_ng (rs_sh (a ax (5 - j))) 2 = 0
      rw [rs_ng2, rs_sh2, (hd _).1 (by omega), (hd _).2 h1]; rfl
    · show 3 ∣ rs_ng (rs_sh (a ax (5 - j))) 1
      rw [rs_ng1, rs_sh1]
      have := (hv (5 - j)).1
      omega
    · show 3 ∣ rs_ng (rs_sh (a ax (5 - j))) 2
      rw [rs_ng2, rs_sh2]
      have := (hv (5 - j)).1
      omega
    · show 2 ∣ rs_ng (rs_sh (a ax (5 - j))) 1
      rw [rs_ng1, rs_sh1, (hd _).1 h2]
      have := (hv (5 - j)).2 h2
      omega
    · show _ ≤ rs_be (rs_ng (rs_sh (a ax (5 - j)))) m ∧ rs_be (rs_ng (rs_sh (a ax (5 - j)))) m ≤ _
      rw [rs_be_ng _ hm]
      exact hb (5 - j) (by omega) (3 - m) (by omega)
  · show 0 < rs_be (rs_ng (rs_sh (a 2 (5 - j)))) m
    rw [rs_be_ng _ hm]
    exact hp (5 - j) (by omega) (3 - m) (by omega)
theorem rs_pz_tr {pz : Nat → Int64} {a : Nat → Nat → Nat → Int} (hz : rs_pzI pz a) : rs_pzI (rs_rvk pz (24 * 3)) (rs_ra a) := by
  intro ax j d hax hj hd
  show (if 24 * ax + 4 * j + d < 24 * 3 then _ else _) = lI (rs_ng (rs_sh (a ax (5 - j))) d)
  rw [if_pos (by omega), show (24 * ax + 4 * j + d) / 24 = ax by omega, show (24 * ax + 4 * j + d) % 24 = 4 * j + d by omega]
  unfold rs_rv rs_ng
  rw [show (4 * j + d) % 4 = d by omega, show (4 * j + d) / 4 = j by omega, rs_su_sh hz hax (by omega) hd]
  by_cases e : d % 2 = 0
  · rw [if_pos e, if_pos e]
  · rw [if_neg e, if_neg e, rs_neg]
/-- the class's curve, turned -/
theorem rs_CI_tr {g n : Nat} {tm kn kn2 : Nat → Nat} {a : Nat → Nat → Nat → Int} {rz rz2 : Nat → Nat → Int64} (hP : rs_PI g tm a) (hC : rs_CI g tm a n kn rz) (hk2 : ∀ j, j < n + g + 1 → kn2 j = 6 - kn (n + g - j)) (h6 : ∀ j, kn2 j ≤ 6) (hr2 : ∀ ax i, ax < 3 → i < n → rz2 ax i = rz ax (n - 1 - i)) : rs_CI g (rs_trk tm 2) (rs_ra a) n kn2 rz2 := by
  have hP2 := rs_PI_tr hP
  obtain ⟨⟨hg, hg3⟩, htm, -, hA, hp⟩ := hP
  obtain ⟨hn, hk, hk6, hr⟩ := hC
  have hn2 : n = rs_cu g (rs_trk tm 2) 6 := by
    have := rs_cu_tr g tm 6 (by omega) (by omega)
    have c1 : rs_cu g tm 1 = g + 1 := rfl
    simp only [Nat.reduceSub] at this
    omega
  refine ⟨hn2, fun i hi => ?_, h6, fun ax i hax hi => ?_⟩
  · rw [hk2 i hi, hk _ (by omega), rs_t_tr g tm (by omega), hn]
  · obtain ⟨hs, hd, hv, hb⟩ := hA ax hax
    obtain ⟨hs2, hd2, hv2, hb2⟩ := hP2.2.2.2.1 ax hax
    rw [hr2 ax i hax hi, hr ax _ hax (by omega)]
    refine congrArg lI (rs_can hg ?_)
    rw [← rs_ct_cc hg hg3 hv, ← rs_ct_cc hg hg3 hv2]
    obtain ⟨l1, l2⟩ := rs_t_lt htm (i := n - 1 - i) (by omega)
    have T0 : rs_t g (rs_trk tm 2) i = 6 - rs_t g tm (n - 1 - i + g + 1) := by
      rw [rs_t_tr g tm (by omega)]
      exact congrArg (fun x => 6 - rs_t g tm x) (by omega)
    have Tq : ∀ q, q ≤ g + 1 → rs_t g (rs_trk tm 2) (i + q) = 6 - rs_t g tm (n - 1 - i + (g + 1 - q)) := fun q hq => by
      rw [rs_t_tr g tm (by omega)]
      exact congrArg (fun x => 6 - rs_t g tm x) (by omega)
    have t6 := rs_t6 g tm (n - 1 - i + g + 1)
    have any := rs_ct_any hg hg3 htm (Nat.le_refl 5) hs hd (i := n - 1 - i) (j := rs_t g tm (n - 1 - i + g + 1) - 1) (by omega) (by omega) (by omega)
    rw [← any]
    unfold rs_ct
    rw [T0]
    show _ = rs_nu g (rs_ng (rs_sh (a ax (5 - (6 - rs_t g tm (n - 1 - i + g + 1)))))) _ _ _
    rw [rs_nu_ng hg hg3 (hd _), show 5 - (6 - rs_t g tm (n - 1 - i + g + 1)) = rs_t g tm (n - 1 - i + g + 1) - 1 by omega]
    rw [← rs_nu_rev hg hg3 _ (fun q => (rs_t g tm (n - 1 - i + q) : Int) - ((rs_t g tm (n - 1 - i + g + 1) - 1 : Nat) : Int))]
    have ev : ∀ q, q ≤ g + 1 → (1 : Int) - (((rs_t g (rs_trk tm 2) (i + q) : Nat) : Int) - ((6 - rs_t g tm (n - 1 - i + g + 1) : Nat) : Int)) = ((rs_t g tm (n - 1 - i + (g + 1 - q)) : Nat) : Int) - ((rs_t g tm (n - 1 - i + g + 1) - 1 : Nat) : Int) := fun q hq => by
      have a1 := Tq q hq
      have a2 := rs_t6 g tm (n - 1 - i + (g + 1 - q))
      omega
    have hgc : g = 1 ∨ g = 2 ∨ g = 3 := by omega
    rcases hgc with rfl | rfl | rfl
    · rw [rs_nu1, rs_nu1, ev 1 (by omega)]
    · rw [rs_nu2, rs_nu2, ev 1 (by omega), ev 2 (by omega)]
    · rw [rs_nu3, rs_nu3, ev 1 (by omega), ev 2 (by omega), ev 3 (by omega)]
