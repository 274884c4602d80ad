/-! The draft. -/
theorem rs_cn_cg {dn dm : Nat → Nat} {k : Nat} : ∀ q, (∀ i, i < q → dn i = dm i) → rs_cn dn k q = rs_cn dm k q
  | 0, _ => rfl
  | q + 1, h => by
    show (if dn q = k then rs_cn dn k q + 1 else rs_cn dn k q) = if dm q = k then rs_cn dm k q + 1 else rs_cn dm k q
    rw [h q (by omega), rs_cn_cg q (fun i hi => h i (by omega))]
/-- how many are below k -/
def rs_lw (dn : Nat → Nat) (k : Nat) : Nat → Nat
  | 0 => 0
  | q + 1 => if dn q < k then rs_lw dn k q + 1 else rs_lw dn k q
theorem rs_lw_le (dn : Nat → Nat) (k : Nat) : ∀ q, rs_lw dn k q ≤ q
  | 0 => Nat.le_refl _
  | q + 1 => by
    have := rs_lw_le dn k q
    unfold rs_lw
    split <;> omega
theorem rs_lw_s (dn : Nat → Nat) (k : Nat) : ∀ q, rs_lw dn (k + 1) q = rs_lw dn k q + rs_cn dn k q
  | 0 => rfl
  | q + 1 => by
    have ih := rs_lw_s dn k q
    unfold rs_lw rs_cn
    by_cases h : dn q = k
    · rw [if_pos (by omega), if_neg (by omega), if_pos h, ih]; omega
    · by_cases h2 : dn q < k
      · rw [if_pos (by omega), if_pos h2, if_neg h, ih]; omega
      · rw [if_neg (by omega), if_neg h2, if_neg h, ih]
theorem rs_lw_i {dn : Nat → Nat} {k : Nat} : ∀ d, (∀ p q, p ≤ q → q < d → dn p ≤ dn q) → ∀ q, q < d → (dn q < k ↔ q < rs_lw dn k d)
  | 0, _, q, h => absurd h (Nat.not_lt_zero _)
  | d + 1, hs, q, h => by
    have ih := rs_lw_i (k := k) d (fun p q h1 h2 => hs p q h1 (by omega))
    have hl := rs_lw_le dn k d
    show dn q < k ↔ q < if dn d < k then rs_lw dn k d + 1 else rs_lw dn k d
    by_cases e : dn d < k
    · rw [if_pos e]
      have all : rs_lw dn k d = d := by
        by_cases z : rs_lw dn k d = d
        · exact z
        · have h3 := ih (rs_lw dn k d) (by omega)
          have h4 := hs (rs_lw dn k d) d (by omega) (by omega)
          omega
      have h5 := hs q d (by omega) (by omega)
      omega
    · rw [if_neg e]
      by_cases z : q = d
      · subst z
        omega
      · exact ih q (by omega)
theorem rs_lw_1 {dn : Nat → Nat} : ∀ d, (∀ q, q < d → 1 ≤ dn q) → rs_lw dn 1 d = 0
  | 0, _ => rfl
  | d + 1, h => by
    have := h d (by omega)
    show (if dn d < 1 then _ else _) = _
    rw [if_neg (by omega)]
    exact rs_lw_1 d (fun q hq => h q (by omega))
theorem rs_lw_6 {dn : Nat → Nat} : ∀ d, (∀ q, q < d → dn q ≤ 5) → rs_lw dn 6 d = d
  | 0, _ => rfl
  | d + 1, h => by
    have := h d (by omega)
    show (if dn d < 6 then _ else _) = _
    rw [if_pos (by omega), rs_lw_6 d (fun q hq => h q (by omega))]
theorem rs_cu_lw {g d : Nat} {dn : Nat → Nat} (h : ∀ q, q < d → 1 ≤ dn q) : ∀ k, 1 ≤ k → rs_cu g (fun x => rs_cn dn x d) k = g + 1 + rs_lw dn k d
  | 0, h1 => absurd h1 (by omega)
  | 1, _ => by rw [rs_lw_1 d h]; rfl
  | k + 2, _ => by
    show rs_cu g (fun x => rs_cn dn x d) (k + 1) + rs_cn dn (k + 1) d = _
    have e : rs_lw dn (k + 2) d = rs_lw dn (k + 1) d + rs_cn dn (k + 1) d := rs_lw_s dn (k + 1) d
    rw [rs_cu_lw h (k + 1) (by omega), e]; omega
theorem rs_cn_0 {dn : Nat → Nat} {k : Nat} : ∀ d, (∀ q, q < d → dn q ≠ k) → rs_cn dn k d = 0
  | 0, _ => rfl
  | d + 1, h => by
    show (if dn d = k then _ else _) = _
    rw [if_neg (h d (by omega))]
    exact rs_cn_0 d (fun q hq => h q (by omega))
theorem rs_cn_a {dn : Nat → Nat} {k m : Nat} : ∀ r, rs_cn dn k (m + r) ≤ rs_cn dn k m + r
  | 0 => Nat.le_refl _
  | r + 1 => by
    have := rs_cn_a (dn := dn) (k := k) (m := m) r
    show (if dn (m + r) = k then rs_cn dn k (m + r) + 1 else rs_cn dn k (m + r)) ≤ _
    split <;> omega
theorem rs_cn_e {dn : Nat → Nat} {k m : Nat} : ∀ r, (∀ q, m ≤ q → q < m + r → dn q = k) → rs_cn dn k (m + r) = rs_cn dn k m + r
  | 0, _ => rfl
  | r + 1, h => by
    show (if dn (m + r) = k then rs_cn dn k (m + r) + 1 else rs_cn dn k (m + r)) = _
    rw [if_pos (h _ (by omega) (by omega)), rs_cn_e r (fun q h1 h2 => h q h1 (by omega))]; omega
/-- a draft as both sides keep it -/
def rs_DI (dd dc di : Nat) (xs ys wt : Nat → Int32) (inn : Nat → Nat) : Prop := (dd ≤ 3 ∧ dc ≤ 19 ∧ di ≤ 15 ∧ ∀ q, inn q ≤ 6) ∧ (0 < dd → (∀ i, i < dc → (-1000 ≤ (xs i).toInt ∧ (xs i).toInt ≤ 1000) ∧ (-1000 ≤ (ys i).toInt ∧ (ys i).toInt ≤ 1000) ∧ 1 ≤ (wt i).toInt ∧ (wt i).toInt ≤ 16) ∧ (∀ q, q < di → 1 ≤ inn q ∧ inn q ≤ 5) ∧ (∀ p q, p ≤ q → q < di → inn p ≤ inn q) ∧ ∀ k, rs_cn inn k di ≤ dd)
/-- a knot is taken on both sides or on none -/
theorem rs_okk_iff {dd dc di k : Nat} {xs ys wt : Nat → Int32} {inn : Nat → Nat} (h : rs_DI dd dc di xs ys wt inn) (h1 : 1 ≤ k) (h5 : k ≤ 5) : rs_okk dd di inn k ↔ rs_okm dd di inn k := by
  constructor
  · rintro ⟨k1, k2, k3, k4⟩
    obtain ⟨-, b2, b3, b4⟩ := h.2 k1
    have all : ∀ q, q < di → inn q ≤ k := fun q hq => by
      rcases k3 with e | e
      · omega
      · have := b3 q (di - 1) (by omega) (by omega)
        omega
    refine ⟨k1, all, ?_⟩
    by_cases e : di < dd
    · have := rs_cn_le inn k di
      omega
    · have ne : ¬ inn (di - dd) = k := by
        rcases k4 with z | z
        · exact absurd z e
        · exact z
      have c0 := rs_cn_0 (dn := inn) (k := k) (di - dd + 1) (fun q hq => by
        have a1 := b3 q (di - dd) (by omega) (by omega)
        have a2 := all (di - dd) (by omega)
        omega)
      have ca := rs_cn_a (dn := inn) (k := k) (m := di - dd + 1) (dd - 1)
      rw [show di - dd + 1 + (dd - 1) = di by omega] at ca
      omega
  · rintro ⟨k1, k2, k3⟩
    obtain ⟨⟨c3, -, -, -⟩, hh⟩ := h
    obtain ⟨-, b2, b3, b4⟩ := hh k1
    refine ⟨k1, ?_, ?_, ?_⟩
    · have l6 := rs_lw_6 (dn := inn) di (fun q hq => (b2 q hq).2)
      have l1 := rs_lw_1 (dn := inn) di (fun q hq => (b2 q hq).1)
      have s1 := rs_lw_s inn 1 di
      have s2 := rs_lw_s inn 2 di
      have s3 := rs_lw_s inn 3 di
      have s4 := rs_lw_s inn 4 di
      have s5 := rs_lw_s inn 5 di
      have t1 := b4 1
      have t2 := b4 2
      have t3 := b4 3
      have t4 := b4 4
      have t5 := b4 5
      simp only [Nat.reduceAdd] at s1 s2 s3 s4 s5
      have hk : k = 1 ∨ k = 2 ∨ k = 3 ∨ k = 4 ∨ k = 5 := by omega
      rcases hk with rfl | rfl | rfl | rfl | rfl <;> omega
    · by_cases e : di = 0
      · exact Or.inl e
      · exact Or.inr (k2 _ (by omega))
    · by_cases e : di < dd
      · exact Or.inl e
      · refine Or.inr (fun z => ?_)
        have ce := rs_cn_e (dn := inn) (k := k) (m := di - dd) dd (fun q q1 q2 => by
          have a1 := b3 (di - dd) q q1 (by omega)
          have a2 := k2 q (by omega)
          omega)
        rw [show di - dd + dd = di by omega] at ce
        omega
theorem rs_DI_k {dd dc di k : Nat} {xs ys wt : Nat → Int32} {inn : Nat → Nat} (h : rs_DI dd dc di xs ys wt inn) (h1 : 1 ≤ k) (h5 : k ≤ 5) (hk : rs_okk dd di inn k) : rs_DI dd dc (di + 1) xs ys wt (rs_up inn di k) := by
  obtain ⟨k1, k2, k3⟩ := (rs_okk_iff h h1 h5).1 hk
  obtain ⟨⟨c3, c19, c15, c6⟩, hh⟩ := h
  obtain ⟨b1, b2, b3, b4⟩ := hh k1
  refine ⟨⟨c3, c19, hk.2.1, fun q => ?_⟩, fun _ => ⟨b1, fun q hq => ?_, fun p q hpq hq => ?_, fun x => ?_⟩⟩
  · by_cases e : q = di
    · rw [e, rs_up_s]; omega
    · rw [rs_up_n e]; exact c6 q
  · by_cases e : q = di
    · rw [e, rs_up_s]; exact ⟨h1, h5⟩
    · rw [rs_up_n e]; exact b2 q (by omega)
  · by_cases e : q = di
    · by_cases e2 : p = di
      · rw [e, e2]; exact Nat.le_refl _
      · rw [e, rs_up_s, rs_up_n e2]; exact k2 p (by omega)
    · rw [rs_up_n e, rs_up_n (by omega)]
      exact b3 p q hpq (by omega)
  · have e : rs_cn (rs_up inn di k) x di = rs_cn inn x di := rs_cn_cg di (fun i hi => rs_up_n (by omega))
    show (if rs_up inn di k di = x then rs_cn (rs_up inn di k) x di + 1 else rs_cn (rs_up inn di k) x di) ≤ dd
    rw [rs_up_s, e]
    by_cases z : k = x
    · rw [if_pos z, ← z]; omega
    · rw [if_neg z]; exact b4 x
theorem rs_isc_i {x : Int32} (h : rs_isc x) : -1000 ≤ x.toInt ∧ x.toInt ≤ 1000 := by
  obtain ⟨h1, h2⟩ := h
  have a := Int32.not_lt.mp h1
  have b := Int32.not_lt.mp h2
  rw [Int32.le_iff_toInt_le] at a b
  exact ⟨a, b⟩
theorem rs_DI_p {dd dc di : Nat} {xs ys wt : Nat → Int32} {inn : Nat → Nat} {x y w : Int32} (h : rs_DI dd dc di xs ys wt inn) (hp : rs_okp dd dc x y w) : rs_DI dd (dc + 1) di (upd xs dc x) (upd ys dc y) (upd wt dc w) inn := by
  obtain ⟨p1, p2, p3, p4, p5, p6⟩ := hp
  obtain ⟨⟨c3, c19, c15, c6⟩, hh⟩ := h
  obtain ⟨b1, b2, b3, b4⟩ := hh p1
  refine ⟨⟨c3, by omega, c15, c6⟩, fun _ => ⟨fun i hi => ?_, b2, b3, b4⟩⟩
  by_cases e : i = dc
  · subst e
    rw [pk_us, pk_us, pk_us]
    have a := Int32.not_lt.mp p5
    rw [Int32.le_iff_toInt_le] at a p6
    exact ⟨rs_isc_i p3, rs_isc_i p4, a, p6⟩
  · rw [pk_un e, pk_un e, pk_un e]
    exact b1 i (by omega)
theorem rs_DI_b {dd dc di g : Nat} {xs ys wt : Nat → Int32} {inn : Nat → Nat} (h : rs_DI dd dc di xs ys wt inn) (hg : g ≤ 3) : rs_DI g 0 0 xs ys wt inn := by
  refine ⟨⟨hg, by omega, by omega, h.1.2.2.2⟩, fun _ => ⟨fun i hi => absurd hi (by omega), fun q hq => absurd hq (by omega), fun p q _ hq => absurd hq (by omega), fun k => ?_⟩⟩
  show 0 ≤ g
  omega
theorem rs_DI_0 {dd dc di : Nat} {xs ys wt : Nat → Int32} {inn : Nat → Nat} (h : rs_DI dd dc di xs ys wt inn) : rs_DI 0 dc di xs ys wt inn := ⟨⟨by omega, h.1.2⟩, fun z => absurd z (by omega)⟩
/-- the drafted curve, on the class's side -/
theorem rs_CI_fin {dd dc di : Nat} {xs ys wt : Nat → Int32} {inn kn : Nat → Nat} {rz : Nat → Nat → Int64} (h : rs_DI dd dc di xs ys wt inn) (hd : 0 < dd) (hc : dd + 1 ≤ dc) (hi : di = dc - dd - 1) (h0 : ∀ j, j ≤ dd → kn j = 0) (h6 : ∀ j, j ≤ dd → kn (dc + j) = 6) (hin : ∀ i, i < di → kn (dd + 1 + i) = inn i) (hk : ∀ j, kn j ≤ 6) (hr : rs_F (rs_cF xs ys wt) rz dc 0) :
    rs_JJ dd (fun ax => rs_A dd (fun x => rs_cn inn x di) (rs_dI xs ys wt ax)) (fun x => rs_cn inn x di) dc kn rz ∧ dc = rs_cu dd (fun x => rs_cn inn x di) 6 := by
  obtain ⟨⟨c3, c19, c15, c6⟩, hh⟩ := h
  obtain ⟨b1, b2, b3, b4⟩ := hh hd
  have cu := fun k h1 => rs_cu_lw (g := dd) (d := di) (dn := inn) (fun q hq => (b2 q hq).1) k h1
  have l6 := rs_lw_6 (dn := inn) di (fun q hq => (b2 q hq).2)
  have n6 : dc = rs_cu dd (fun x => rs_cn inn x di) 6 := by
    rw [cu 6 (by omega), l6]; omega
  have hP : rs_PI dd (fun x => rs_cn inn x di) (fun ax => rs_A dd (fun x => rs_cn inn x di) (rs_dI xs ys wt ax)) := by
    refine rs_PI_fin hd c3 b4 (rs_cn_0 di (fun q hq => by have := b2 q hq; omega)) (fun k hk => rs_cn_0 di (fun q hq => by have := b2 q hq; omega)) (fun ax i hax hi2 => ?_) (fun i hi2 => ?_)
    · obtain ⟨q1, q2, q3, q4⟩ := b1 i (by omega)
      unfold rs_dI
      have m1 := rs_absmul (a := (xs i).toInt) (b := (wt i).toInt) (A := 1000) (B := 16) (by omega) (by omega) (by omega) (by omega)
      have m2 := rs_absmul (a := (ys i).toInt) (b := (wt i).toInt) (A := 1000) (B := 16) (by omega) (by omega) (by omega) (by omega)
      split
      · omega
      · split <;> omega
    · obtain ⟨q1, q2, q3, q4⟩ := b1 i (by omega)
      exact q3
  refine ⟨⟨hP, n6, fun i hi2 => ?_, hk, fun ax i hax hi2 => ?_⟩, n6⟩
  · by_cases e1 : i ≤ dd
    · rw [h0 i e1, rs_tg e1]
    · by_cases e2 : dc ≤ i
      · have := h6 (i - dc) (by omega)
        rw [show dc + (i - dc) = i by omega] at this
        rw [this, rs_tn (by omega)]
      · have := hin (i - (dd + 1)) (by omega)
        rw [show dd + 1 + (i - (dd + 1)) = i by omega] at this
        rw [this]
        have lw := fun k => rs_lw_i (dn := inn) (k := k) di b3 (i - (dd + 1)) (by omega)
        have key : ∀ k, 1 ≤ k → k ≤ 6 → (k ≤ inn (i - (dd + 1)) ↔ rs_cu dd (fun x => rs_cn inn x di) k ≤ i) := fun k k1 k6 => by
          rw [cu k k1]
          have := lw k
          omega
        exact rs_val_eq (rs_cu_asc _ _) (key 1 (by omega) (by omega)) (key 2 (by omega) (by omega)) (key 3 (by omega) (by omega)) (key 4 (by omega) (by omega)) (key 5 (by omega) (by omega)) (key 6 (by omega) (by omega)) (c6 _)
  · rw [hr.get hax hi2, rs_cF_l]
    refine congrArg lI ?_
    rw [rs_A_cc hd c3 b4 (by omega)]
/-- the drafted curve, on the model's side -/
theorem rs_pz_fin {g : Nat} {tm tk : Nat → Nat} {pz : Nat → Int64} {dx dy dw : Nat → Int32} (hg : 1 ≤ g) (hg3 : g ≤ 3) (ht : ∀ i, i < rs_cu g tm 6 + (g + 1) → tk i = rs_val (rs_cu g tm) i) (hV : rs_PV (fun i b f => rs_pv tk g (rs_cu g tm 6) dx dy dw i b f) pz 6) : rs_pzI pz (fun ax => rs_A g tm (rs_dI dx dy dw ax)) := by
  intro ax j e hax hj he
  rw [hV ax j e hax hj he, ← rs_pv_A hg hg3 hj he]
  have c1 : rs_cu g tm 1 = g + 1 := rfl
  have m0 : rs_cu g tm 1 ≤ rs_cu g tm 6 := rs_cu_mono g tm (by omega)
  have hms : rs_ms tk g (60 * j) (rs_cu g tm 6 - g) = rs_ms (rs_t g tm) g (60 * j) (rs_cu g tm 6 - g) := by
    rw [show rs_cu g tm 6 - g = rs_cu g tm 6 - (g + 1) + 1 by omega, rs_ms_sp, rs_ms_sp]
    exact rs_sp_cg _ (fun i hi => ht i (by omega))
  have hlt := rs_ms_lt (rs_t g tm) g (60 * j) (j := rs_cu g tm 6 - g) (by omega)
  show rs_pv tk g (rs_cu g tm 6) dx dy dw j ax e = _
  unfold rs_pv
  rw [hms]
  generalize rs_ms (rs_t g tm) g (60 * j) (rs_cu g tm 6 - g) = R at *
  have e1 : ∀ x, rs_pl tk j R g x = rs_pl (rs_t g tm) j R g x := fun x => rs_pl_cg g x (fun i hi => ht i (by omega))
  rw [funext e1]
