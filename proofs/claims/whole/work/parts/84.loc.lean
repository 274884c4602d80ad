/-! The place of a parameter. -/
theorem rs_fl {x y q : Int} (hy : 0 < y) (h1 : q * y ≤ x) (h2 : x < q * y + y) : x / y = q := by
  have h3 : x = (x - q * y) + q * y := by omega
  rw [h3, Int.add_mul_ediv_right _ _ (by omega), Int.ediv_eq_zero_of_lt (by omega) (by omega)]
  omega
/-- the quotient towards zero, and the floor -/
theorem rs_tfl {x y : Int} (hy : 0 < y) : (x.tdiv y * y ≤ x ∧ x / y = x.tdiv y ∧ (x < 0 → x.tdiv y * y = x)) ∨ (x < 0 ∧ ¬ x.tdiv y * y ≤ x ∧ x / y = x.tdiv y - 1 ∧ ¬ x.tdiv y * y = x) := by
  have e := Int.mul_tdiv_add_tmod x y
  have ec : y * x.tdiv y = x.tdiv y * y := Int.mul_comm _ _
  rw [ec] at e
  by_cases h : 0 ≤ x
  · left
    have h1 := Int.tmod_nonneg y h
    have h2 := Int.tmod_lt_of_pos x hy
    exact ⟨by omega, rs_fl hy (by omega) (by omega), fun z => by omega⟩
  · have hm : (-x).tmod y = -(x.tmod y) := Int.neg_tmod x y
    have h1 := Int.tmod_nonneg y (a := -x) (by omega)
    have h2 := Int.tmod_lt_of_pos (-x) hy
    by_cases e0 : x.tmod y = 0
    · left
      exact ⟨by omega, rs_fl hy (by omega) (by omega), fun _ => by omega⟩
    · right
      refine ⟨by omega, by omega, rs_fl hy ?_ ?_, by omega⟩
      · rw [Int.sub_mul]; omega
      · rw [Int.sub_mul]; omega
theorem rs_xor {x y : Int64} (hy : 0 ≤ y) : (x ^^^ y) < 0 ↔ x < 0 := by
  have m : ∀ z : Int64, z < 0 ↔ z.toBitVec.msb = true := fun z => by
    rw [Int64.lt_iff_toInt_lt, ← Int64.toInt_toBitVec, BitVec.msb_eq_toInt]
    simp
  rw [m, m, Int64.toBitVec_xor, BitVec.msb_xor]
  have : y.toBitVec.msb = false := by
    have h : ¬ y.toBitVec.msb = true := fun z => Int64.not_lt.mpr hy ((m y).2 z)
    simpa using h
  rw [this]
  simp
theorem rs_tb {x y : Int} (hy : 0 < y) {B : Int} (h1 : -B ≤ x) (h2 : x ≤ B) : -B ≤ x.tdiv y ∧ x.tdiv y ≤ B := by
  have h := Int.natAbs_tdiv_le_natAbs x y
  omega
theorem rs_fd_fl {x y : Int} (hy : 0 < y) (hy2 : y < 2 ^ 62) (h1 : -2 ^ 62 < x) (h2 : x < 2 ^ 62) : rs_fd (lI x) (lI y) = lI (x / y) := by
  have hx : (lI x ^^^ lI y) < 0 ↔ x < 0 := by
    rw [rs_xor ((rs_le (x := 0) (by omega) (by omega) (by omega) (by omega)).2 (by omega))]
    exact rs_lt (y := 0) (by omega) (by omega) (by omega) (by omega)
  have hb := rs_tb (x := x) hy (B := 2 ^ 62) (by omega) (by omega)
  have hm : x.tdiv y * y = x ∨ ¬ x.tdiv y * y = x := Classical.em _
  have e1 := Int.mul_tdiv_add_tmod x y
  have e2 : y * x.tdiv y = x.tdiv y * y := Int.mul_comm _ _
  rw [e2] at e1
  have e3 : -2 ^ 62 < x.tmod y ∧ x.tmod y < 2 ^ 62 := by
    have h := Int.natAbs_tmod x y
    have h5 := Nat.mod_lt x.natAbs (y := y.natAbs) (by omega)
    omega
  unfold rs_fd
  rw [rs_div (by omega) (by omega) (by omega) (by omega), rs_mul]
  have hq : lI (x.tdiv y * y) = lI x ↔ x.tdiv y * y = x := rs_eq (by omega) (by omega) (by omega) (by omega)
  rcases rs_tfl (x := x) hy with ⟨a1, a2, a3⟩ | ⟨a1, a2, a3, a4⟩
  · rw [if_neg (fun z => z.2 (hq.2 (a3 (hx.1 z.1)))), a2]
  · rw [if_pos ⟨hx.2 a1, fun z => a4 (hq.1 z)⟩, a3]
    exact rs_sub' _ 1
theorem rs_md_fl {x y : Int} (hy : 0 < y) (hy2 : y < 2 ^ 62) (h1 : -2 ^ 62 < x) (h2 : x < 2 ^ 62) : (if lI x / lI y * lI y ≤ lI x then (lI x / lI y).toInt32 else (lI x / lI y - 1).toInt32) = (lI (x / y)).toInt32 := by
  have hb := rs_tb (x := x) hy (B := 2 ^ 62) (by omega) (by omega)
  have e1 := Int.mul_tdiv_add_tmod x y
  have e2 : y * x.tdiv y = x.tdiv y * y := Int.mul_comm _ _
  rw [e2] at e1
  have e3 : -2 ^ 62 < x.tmod y ∧ x.tmod y < 2 ^ 62 := by
    have h := Int.natAbs_tmod x y
    have h5 := Nat.mod_lt x.natAbs (y := y.natAbs) (by omega)
    omega
  rw [rs_div (by omega) (by omega) (by omega) (by omega), rs_mul]
  have hq : lI (x.tdiv y * y) ≤ lI x ↔ x.tdiv y * y ≤ x := rs_le (by omega) (by omega) (by omega) (by omega)
  rcases rs_tfl (x := x) hy with ⟨a1, a2, a3⟩ | ⟨a1, a2, a3, a4⟩
  · rw [if_pos (hq.2 a1), a2]
  · rw [if_neg (fun z => a2 (hq.1 z)), a3]
    exact congrArg Int64.toInt32 (rs_sub' _ 1)
/-- the piece's value in 216000ths -/
def rs_pn (b : Nat → Int) (w : Int) : Int := ((b 3 * w + 60 * b 2) * w + 3600 * b 1) * w + 216000 * b 0
theorem rs_pa_pn {pz : Nat → Int64} {a : Nat → Nat → Nat → Int} (hz : rs_pzI pz a) {ax J w : Nat} (hax : ax < 3) (hJ : J ≤ 5) : rs_pa pz ax J (lN w) = lI (rs_pn (a ax J) w) := by
  unfold rs_pa
  rw [hz ax J 3 hax (by omega) (by omega), hz ax J 2 hax (by omega) (by omega), hz ax J 1 hax (by omega) (by omega), show 24 * ax + 4 * J = 24 * ax + 4 * J + 0 by rfl, hz ax J 0 hax (by omega) (by omega), rs_lN, show (60 : Int64) = lI 60 by rfl, show (3600 : Int64) = lI 3600 by rfl, show (216000 : Int64) = lI 216000 by rfl]
  simp only [rs_mul, rs_add]
  rfl
theorem rs_pn_be (b : Nat → Int) (w : Int) : 3 * rs_pn b w = rs_be b 0 * ((60 - w) * (60 - w) * (60 - w)) + 3 * (rs_be b 1 * ((60 - w) * (60 - w) * w)) + 3 * (rs_be b 2 * ((60 - w) * w * w)) + rs_be b 3 * (w * w * w) := by
  unfold rs_pn
  show _ = 3 * b 0 * ((60 - w) * (60 - w) * (60 - w)) + 3 * ((3 * b 0 + b 1) * ((60 - w) * (60 - w) * w)) + 3 * ((3 * b 0 + 2 * b 1 + b 2) * ((60 - w) * w * w)) + 3 * (b 0 + b 1 + b 2 + b 3) * (w * w * w)
  grind
theorem rs_mm {a b c d : Int} (h0 : 0 ≤ a) (h1 : a ≤ b) (h2 : 0 ≤ c) (h3 : c ≤ d) : 0 ≤ a * c ∧ a * c ≤ b * d := ⟨Int.mul_nonneg h0 h2, Int.mul_le_mul h1 h3 h2 (by omega)⟩
theorem rs_bern {w : Int} (h0 : 0 ≤ w) (h6 : w ≤ 60) : 0 ≤ (60 - w) * (60 - w) * (60 - w) ∧ 0 ≤ (60 - w) * (60 - w) * w ∧ 0 ≤ (60 - w) * w * w ∧ 0 ≤ w * w * w ∧ (60 - w) * (60 - w) * (60 - w) + 3 * ((60 - w) * (60 - w) * w) + 3 * ((60 - w) * w * w) + w * w * w = 216000 := by
  have hs : 0 ≤ 60 - w := by omega
  refine ⟨?_, ?_, ?_, ?_, by grind⟩
  · exact Int.mul_nonneg (Int.mul_nonneg hs hs) hs
  · exact Int.mul_nonneg (Int.mul_nonneg hs hs) h0
  · exact Int.mul_nonneg (Int.mul_nonneg hs h0) h0
  · exact Int.mul_nonneg (Int.mul_nonneg h0 h0) h0
theorem rs_cvx {B e c : Int} (h1 : -B ≤ e) (h2 : e ≤ B) (hc : 0 ≤ c) : -(B * c) ≤ e * c ∧ e * c ≤ B * c := by
  have a := Int.mul_le_mul_of_nonneg_right h1 hc
  have b := Int.mul_le_mul_of_nonneg_right h2 hc
  rw [Int.neg_mul] at a
  exact ⟨a, b⟩
theorem rs_pn_b {b : Nat → Int} (h : ∀ m, m < 4 → -10368000000 ≤ rs_be b m ∧ rs_be b m ≤ 10368000000) {w : Int} (h0 : 0 ≤ w) (h6 : w ≤ 60) : -746496000000000 ≤ rs_pn b w ∧ rs_pn b w ≤ 746496000000000 := by
  have e := rs_pn_be b w
  obtain ⟨q0, q1, q2, q3, q4⟩ := rs_bern h0 h6
  have k0 := rs_cvx (h 0 (by omega)).1 (h 0 (by omega)).2 q0
  have k1 := rs_cvx (h 1 (by omega)).1 (h 1 (by omega)).2 q1
  have k2 := rs_cvx (h 2 (by omega)).1 (h 2 (by omega)).2 q2
  have k3 := rs_cvx (h 3 (by omega)).1 (h 3 (by omega)).2 q3
  omega
theorem rs_pn_p {b : Nat → Int} (h : ∀ m, m < 4 → 0 < rs_be b m) {w : Int} (h0 : 0 ≤ w) (h6 : w ≤ 60) : 0 < rs_pn b w := by
  have e := rs_pn_be b w
  obtain ⟨q0, q1, q2, q3, q4⟩ := rs_bern h0 h6
  have k0 := Int.mul_le_mul_of_nonneg_right (show 1 ≤ rs_be b 0 by have := h 0 (by omega); omega) q0
  have k1 := Int.mul_le_mul_of_nonneg_right (show 1 ≤ rs_be b 1 by have := h 1 (by omega); omega) q1
  have k2 := Int.mul_le_mul_of_nonneg_right (show 1 ≤ rs_be b 2 by have := h 2 (by omega); omega) q2
  have k3 := Int.mul_le_mul_of_nonneg_right (show 1 ≤ rs_be b 3 by have := h 3 (by omega); omega) q3
  omega
def rs_s60 (g : Nat) : Int := if g = 1 then 3600 else if g = 2 then 60 else 1
theorem rs_s60_b (g : Nat) : 0 < rs_s60 g := by
  unfold rs_s60
  split
  · decide
  · split <;> decide
/-- the class's scale against the model's -/
theorem rs_pn_bh {g : Nat} {b : Nat → Int} (hg : 1 ≤ g) (hg3 : g ≤ 3) (hv : rs_dv g b) (hd : (g ≤ 2 → b 3 = 0) ∧ (g ≤ 1 → b 2 = 0)) (w : Int) : rs_pn b w = rs_s60 g * rs_bh g (rs_al g b) 60 w 60 w 60 w := by
  obtain ⟨⟨h1, h2⟩, h3⟩ := hv
  unfold rs_pn
  have hgc : g = 1 ∨ g = 2 ∨ g = 3 := by omega
  rcases hgc with rfl | rfl | rfl
  · rw [hd.1 (by omega), hd.2 (by omega)]
    show _ = 3600 * (b 0 * 60 + b 1 * w)
    grind
  · rw [hd.1 (by omega)]
    have e : b 1 = 2 * (b 1 / 2) := (Int.mul_ediv_cancel' (h3 (by omega))).symm
    show _ = 60 * (b 0 * (60 * 60) + b 1 / 2 * (w * 60 + 60 * w) + b 2 * (w * w))
    generalize b 1 / 2 = c at *
    grind
  · have e1 : b 1 = 3 * (b 1 / 3) := (Int.mul_ediv_cancel' h1).symm
    have e2 : b 2 = 3 * (b 2 / 3) := (Int.mul_ediv_cancel' h2).symm
    show _ = 1 * (b 0 * (60 * 60 * 60) + b 1 / 3 * (w * 60 * 60 + 60 * w * 60 + 60 * 60 * w) + b 2 / 3 * (w * w * 60 + w * 60 * w + 60 * w * w) + b 3 * (w * w * w))
    generalize b 1 / 3 = c at *
    generalize b 2 / 3 = f at *
    grind
/-- one coordinate -/
theorem rs_loc_eq {g n : Nat} {tm kn : Nat → Nat} {a : Nat → Nat → Nat → Int} {rz : Nat → Nat → Int64} {pz : Nat → Int64} (hP : rs_PI g tm a) (hC : rs_CI g tm a n kn rz) (hz : rs_pzI pz a) {u ax : Nat} (hax : ax < 3) (hu : u ≤ 360) :
    rs_th (rs_bl kn g n rz (fun _ => u) ax (rs_sp kn g u (n - (g + 1))) g g) (rs_bl kn g n rz (fun _ => u) 2 (rs_sp kn g u (n - (g + 1))) g g) = rs_loc pz ax u ∧ rs_pa pz 2 (rs_lj u) (lN (u - 60 * rs_lj u)) ≠ 0 := by
  have hP0 := hP
  have hC0 := hC
  obtain ⟨⟨hg, hg3⟩, htm, -, hA, hpos⟩ := hP
  obtain ⟨hs, hd, hv, hb⟩ := hA ax hax
  obtain ⟨-, hd2, hv2, hb2⟩ := hA 2 (by omega)
  obtain ⟨hn, hk, hk6, hr⟩ := hC
  have c1 : rs_cu g tm 1 = g + 1 := rfl
  have m0 : rs_cu g tm 1 ≤ rs_cu g tm 6 := rs_cu_mono g tm (by omega)
  obtain ⟨j1, j2, j3⟩ := rs_lj_le hu
  have hsp : rs_sp kn g u (n - (g + 1)) = rs_sp (rs_t g tm) g u (rs_cu g tm 6 - (g + 1)) := by
    rw [rs_sp_cg (kv := rs_t g tm) _ (fun j hj => hk j (by omega)), hn]
  obtain ⟨s1, s2, s3, s4, s5, s6⟩ := rs_sp_t (g := g) (tm := tm) hu
  rw [hsp]
  generalize rs_sp (rs_t g tm) g u (rs_cu g tm 6 - (g + 1)) = r at *
  have t6 : rs_t g tm (rs_cu g tm 6) = 6 := by
    have h := rs_val_k (rs_cu_asc g tm) (k := 6) (by omega) (by omega) (rs_cu g tm 6)
    have h' : 6 ≤ rs_t g tm (rs_cu g tm 6) ↔ rs_cu g tm 6 ≤ rs_cu g tm 6 := h
    have := rs_t6 g tm (rs_cu g tm 6)
    omega
  have hJ1 : rs_t g tm r ≤ rs_lj u ∧ rs_lj u < rs_t g tm (r + 1) := by
    by_cases e : u = 360
    · rw [s6 e, t6]
      have : rs_lj u = 5 := if_pos e
      omega
    · have : rs_lj u = u / 60 := if_neg e
      omega
  have hw : g = 3 → ∀ v : Nat, 60 * rs_lj u ≤ (fun _ : Nat => u) v + 60 ∧ (fun _ : Nat => u) v ≤ 60 * rs_lj u + 60 := fun _ v => by
    show 60 * rs_lj u ≤ u + 60 ∧ u ≤ 60 * rs_lj u + 60
    omega
  have B := rs_bl_bh hP0 hC0 (ar := fun _ => u) (r := r) (J := rs_lj u) hax s1 (by omega) hJ1.1 hJ1.2 (fun _ => hu) hw
  have B2 := rs_bl_bh hP0 hC0 (ar := fun _ => u) (ax := 2) (r := r) (J := rs_lj u) (by omega) s1 (by omega) hJ1.1 hJ1.2 (fun _ => hu) hw
  rw [B, B2]
  have ew : (u : Int) - 60 * rs_lj u = ((u - 60 * rs_lj u : Nat) : Int) := by omega
  rw [ew]
  unfold rs_loc
  rw [rs_pa_pn hz hax j1, rs_pa_pn hz (by omega) j1]
  have p1 := rs_pn_b (hb (rs_lj u) (by omega)) (w := ((u - 60 * rs_lj u : Nat) : Int)) (by omega) (by omega)
  have p2 := rs_pn_b (hb2 (rs_lj u) (by omega)) (w := ((u - 60 * rs_lj u : Nat) : Int)) (by omega) (by omega)
  have p3 := rs_pn_p (hpos (rs_lj u) (by omega)) (w := ((u - 60 * rs_lj u : Nat) : Int)) (by omega) (by omega)
  have e1 := rs_pn_bh hg hg3 (hv (rs_lj u)) (hd _) ((u - 60 * rs_lj u : Nat) : Int)
  have e2 := rs_pn_bh hg hg3 (hv2 (rs_lj u)) (hd2 _) ((u - 60 * rs_lj u : Nat) : Int)
  generalize rs_bh g (rs_al g (a ax (rs_lj u))) 60 ((u - 60 * rs_lj u : Nat) : Int) 60 ((u - 60 * rs_lj u : Nat) : Int) 60 ((u - 60 * rs_lj u : Nat) : Int) = X at *
  generalize rs_bh g (rs_al g (a 2 (rs_lj u))) 60 ((u - 60 * rs_lj u : Nat) : Int) 60 ((u - 60 * rs_lj u : Nat) : Int) 60 ((u - 60 * rs_lj u : Nat) : Int) = Y at *
  generalize rs_pn (a ax (rs_lj u)) ((u - 60 * rs_lj u : Nat) : Int) = N at *
  generalize rs_pn (a 2 (rs_lj u)) ((u - 60 * rs_lj u : Nat) : Int) = M at *
  have s0 := rs_s60_b g
  have hs60 : rs_s60 g = 3600 ∨ rs_s60 g = 60 ∨ rs_s60 g = 1 := by
    unfold rs_s60
    split
    · exact Or.inl rfl
    · split
      · exact Or.inr (Or.inl rfl)
      · exact Or.inr (Or.inr rfl)
  generalize rs_s60 g = S at *
  have hY : 0 < Y := by rcases hs60 with rfl | rfl | rfl <;> omega
  have hX : -746496000000000 ≤ X ∧ X ≤ 746496000000000 ∧ Y ≤ 746496000000000 := by rcases hs60 with rfl | rfl | rfl <;> omega
  have hq : 1000 * N / M = 1000 * X / Y := by
    rw [e1, e2, show 1000 * (S * X) = S * (1000 * X) by rw [← Int.mul_assoc, ← Int.mul_assoc, Int.mul_comm 1000 S], Int.mul_ediv_mul_of_pos _ _ s0]
  rw [show (1000 : Int64) = lI 1000 by rfl, rs_mul]
  refine ⟨?_, fun z => by
    have := (rs_eq0 (by omega) (by omega)).1 z
    omega⟩
  rw [rs_md_fl p3 (by omega) (by omega) (by omega)]
  unfold rs_th
  rw [if_neg (fun z => by
    have := (rs_eq0 (by omega) (by omega)).1 z
    omega), show (1000 : Int64) = lI 1000 by rfl, rs_mul, rs_fd_fl hY (by omega) (by omega) (by omega), hq]
