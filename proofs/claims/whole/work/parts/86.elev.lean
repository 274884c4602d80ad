/-! The degree raised. -/
/-- how many numbers below k are knots -/
def rs_D (tm : Nat → Nat) : Nat → Nat
  | 0 => 0
  | 1 => 1
  | k + 2 => rs_D tm (k + 1) + (if tm (k + 1) = 0 then 0 else 1)
theorem rs_D_s (tm : Nat → Nat) {k : Nat} (h : 1 ≤ k) : rs_D tm (k + 1) = rs_D tm k + (if tm k = 0 then 0 else 1) := by
  obtain ⟨j, rfl⟩ : ∃ j, k = j + 1 := ⟨k - 1, by omega⟩
  rfl
theorem rs_elk_v (tm : Nat → Nat) {k : Nat} (h1 : 1 ≤ k) (h5 : k ≤ 5) : rs_elk tm 6 k = if tm k = 0 then 0 else tm k + 1 := if_pos ⟨h1, by omega⟩
theorem rs_cu_el (g : Nat) (tm : Nat → Nat) : ∀ k, k ≤ 6 → rs_cu (g + 1) (rs_elk tm 6) k = rs_cu g tm k + rs_D tm k
  | 0, _ => rfl
  | 1, _ => rfl
  | k + 2, h => by
    show rs_cu (g + 1) (rs_elk tm 6) (k + 1) + rs_elk tm 6 (k + 1) = rs_cu g tm (k + 1) + tm (k + 1) + (rs_D tm (k + 1) + (if tm (k + 1) = 0 then 0 else 1))
    rw [rs_cu_el g tm (k + 1) (by omega), rs_elk_v tm (by omega) (by omega)]
    by_cases e : tm (k + 1) = 0
    · rw [if_pos e, if_pos e]; omega
    · rw [if_neg e, if_neg e]; omega
theorem rs_D_gap (tm : Nat → Nat) {v : Nat} : ∀ w, v + 1 ≤ w → (∀ k, v < k → k < w → tm k = 0) → rs_D tm w = rs_D tm (v + 1)
  | 0, h, _ => absurd h (by omega)
  | w + 1, h, hz => by
    by_cases e : v + 1 = w + 1
    · rw [e]
    · rw [rs_D_s tm (by omega), hz w (by omega) (by omega), if_pos rfl, Nat.add_zero]
      exact rs_D_gap tm w (by omega) (fun k h1 h2 => hz k h1 (by omega))
/-- the number at x is a knot -/
theorem rs_D_at {g : Nat} {tm : Nat → Nat} {x : Nat} (h6 : rs_t g tm x ≤ 5) : rs_D tm (rs_t g tm x + 1) = rs_D tm (rs_t g tm x) + 1 ∧ x < rs_cu g tm (rs_t g tm x + 1) ∧ rs_cu g tm (rs_t g tm x) ≤ x := by
  have hc := rs_cu_asc g tm
  have hb := rs_val_k hc (k := rs_t g tm x + 1) (by omega) (by omega) x
  have hb' : rs_t g tm x + 1 ≤ rs_t g tm x ↔ rs_cu g tm (rs_t g tm x + 1) ≤ x := hb
  have hlt : x < rs_cu g tm (rs_t g tm x + 1) := by omega
  by_cases e : rs_t g tm x = 0
  · rw [e] at hlt ⊢
    exact ⟨rfl, hlt, Nat.zero_le _⟩
  · have ha := rs_val_k hc (k := rs_t g tm x) (by omega) (by omega) x
    have ha' : rs_t g tm x ≤ rs_t g tm x ↔ rs_cu g tm (rs_t g tm x) ≤ x := ha
    have hs := rs_cu_s g tm (k := rs_t g tm x) (by omega)
    refine ⟨?_, hlt, by omega⟩
    rw [rs_D_s tm (by omega), if_neg (by omega)]
theorem rs_rf_eq {g : Nat} {tm : Nat → Nat} : ∀ x, x < rs_cu g tm 6 + g + 1 → rs_rf (rs_t g tm) (rs_cu g tm 6 + g + 1) x = x + rs_D tm (rs_t g tm x)
  | 0, _ => by
    rw [rs_tg (Nat.zero_le _)]; rfl
  | x + 1, h => by
    have ih := rs_rf_eq (g := g) (tm := tm) x (by omega)
    have hc := rs_cu_asc g tm
    have hm : rs_t g tm x ≤ rs_t g tm (x + 1) := rs_val_mono hc (Nat.le_succ _)
    have h6 := rs_t6 g tm (x + 1)
    show (if x + 1 = rs_cu g tm 6 + g + 1 ∨ rs_t g tm x < rs_t g tm (x + 1) then _ else _) = _
    by_cases hl : rs_t g tm x < rs_t g tm (x + 1)
    · rw [if_pos (Or.inr hl), ih]
      obtain ⟨d1, d2, d3⟩ := rs_D_at (g := g) (tm := tm) (x := x) (by omega)
      rw [rs_D_gap tm (v := rs_t g tm x) (rs_t g tm (x + 1)) (by omega) (fun k k1 k2 => ?_), d1]
      · omega
      · have ha := rs_val_k hc (k := k) (by omega) (by omega) x
        have ha' : k ≤ rs_t g tm x ↔ rs_cu g tm k ≤ x := ha
        have hb := rs_val_k hc (k := k + 1) (by omega) (by omega) (x + 1)
        have hb' : k + 1 ≤ rs_t g tm (x + 1) ↔ rs_cu g tm (k + 1) ≤ x + 1 := hb
        have hs := rs_cu_s g tm (k := k) (by omega)
        omega
    · rw [if_neg (by omega), ih, show rs_t g tm (x + 1) = rs_t g tm x by omega]
      omega
theorem rs_rf_all {g : Nat} {tm : Nat → Nat} : rs_rf (rs_t g tm) (rs_cu g tm 6 + g + 1) (rs_cu g tm 6 + g + 1) = rs_cu (g + 1) (rs_elk tm 6) 6 + (g + 1) + 1 := by
  show (if rs_cu g tm 6 + g + 1 = rs_cu g tm 6 + g + 1 ∨ _ then _ else _) = _
  rw [if_pos (Or.inl rfl), rs_rf_eq _ (by omega), rs_tn (by omega), rs_cu_el g tm 6 (by omega)]
  omega
theorem rs_rf_cg {kn kv : Nat → Nat} {tot : Nat} (h : ∀ i, i < tot → kn i = kv i) : ∀ i, i ≤ tot → rs_rf kn tot i = rs_rf kv tot i
  | 0, _ => rfl
  | i + 1, hi => by
    show (if i + 1 = tot ∨ kn i < kn (i + 1) then rs_rf kn tot i + 2 else rs_rf kn tot i + 1) = if i + 1 = tot ∨ kv i < kv (i + 1) then rs_rf kv tot i + 2 else rs_rf kv tot i + 1
    rw [rs_rf_cg h i (by omega), h i (by omega)]
    by_cases e : i + 1 = tot
    · rw [if_pos (Or.inl e), if_pos (Or.inl e)]
    · rw [h (i + 1) (by omega)]
theorem rs_rf_sur (kn : Nat → Nat) (tot : Nat) : ∀ i y, y < rs_rf kn tot i → ∃ x, x < i ∧ (y = rs_rf kn tot x ∨ (y = rs_rf kn tot x + 1 ∧ (x + 1 = tot ∨ kn x < kn (x + 1))))
  | 0, y, h => absurd h (Nat.not_lt_zero _)
  | i + 1, y, h => by
    by_cases hy : y < rs_rf kn tot i
    · obtain ⟨x, h1, h2⟩ := rs_rf_sur kn tot i y hy
      exact ⟨x, by omega, h2⟩
    · by_cases hl : i + 1 = tot ∨ kn i < kn (i + 1)
      · have e : rs_rf kn tot (i + 1) = rs_rf kn tot i + 2 := if_pos hl
        refine ⟨i, by omega, ?_⟩
        by_cases e2 : y = rs_rf kn tot i
        · exact Or.inl e2
        · exact Or.inr ⟨by omega, hl⟩
      · have e : rs_rf kn tot (i + 1) = rs_rf kn tot i + 1 := if_neg hl
        exact ⟨i, by omega, Or.inl (by omega)⟩
/-- the raised knots, at the places of a knot -/
theorem rs_t_el {g : Nat} {tm : Nat → Nat} {x y : Nat} (h1 : x + rs_D tm (rs_t g tm x) ≤ y) (h2 : y ≤ x + rs_D tm (rs_t g tm x) + 1) : rs_t (g + 1) (rs_elk tm 6) y = rs_t g tm x := by
  have hc' := rs_cu_asc (g + 1) (rs_elk tm 6)
  have hc := rs_cu_asc g tm
  have h6 := rs_t6 g tm x
  have h6' := rs_t6 (g + 1) (rs_elk tm 6) y
  have lo : rs_t g tm x ≤ rs_t (g + 1) (rs_elk tm 6) y := by
    by_cases e : rs_t g tm x = 0
    · omega
    · have ha := rs_val_k hc (k := rs_t g tm x) (by omega) (by omega) x
      have ha' : rs_t g tm x ≤ rs_t g tm x ↔ rs_cu g tm (rs_t g tm x) ≤ x := ha
      have hb := rs_val_k hc' (k := rs_t g tm x) (by omega) (by omega) y
      have hb' : rs_t g tm x ≤ rs_t (g + 1) (rs_elk tm 6) y ↔ rs_cu (g + 1) (rs_elk tm 6) (rs_t g tm x) ≤ y := hb
      have hce := rs_cu_el g tm (rs_t g tm x) (by omega)
      omega
  by_cases e6 : rs_t g tm x = 6
  · omega
  · obtain ⟨d1, d2, d3⟩ := rs_D_at (g := g) (tm := tm) (x := x) (by omega)
    have hb := rs_val_k hc' (k := rs_t g tm x + 1) (by omega) (by omega) y
    have hb' : rs_t g tm x + 1 ≤ rs_t (g + 1) (rs_elk tm 6) y ↔ rs_cu (g + 1) (rs_elk tm 6) (rs_t g tm x + 1) ≤ y := hb
    have hce := rs_cu_el g tm (rs_t g tm x + 1) (by omega)
    omega
theorem rs_kel {g n : Nat} {tm kn kn2 : Nat → Nat} (hn : n = rs_cu g tm 6) (hk : ∀ i, i < n + g + 1 → kn i = rs_t g tm i) (hK : rs_RK kn (n + g + 1) kn2 (n + g + 1)) : rs_rf kn (n + g + 1) (n + g + 1) = rs_cu (g + 1) (rs_elk tm 6) 6 + (g + 1) + 1 ∧ ∀ y, y < rs_cu (g + 1) (rs_elk tm 6) 6 + (g + 1) + 1 → kn2 y = rs_t (g + 1) (rs_elk tm 6) y := by
  have hcg : ∀ i, i ≤ n + g + 1 → rs_rf kn (n + g + 1) i = rs_rf (rs_t g tm) (n + g + 1) i := rs_rf_cg hk
  have e0 : rs_rf kn (n + g + 1) (n + g + 1) = rs_cu (g + 1) (rs_elk tm 6) 6 + (g + 1) + 1 := by
    rw [hcg _ (Nat.le_refl _), hn]
    exact rs_rf_all
  refine ⟨e0, fun y hy => ?_⟩
  rw [← e0] at hy
  obtain ⟨x, hx, hv⟩ := rs_rf_sur kn (n + g + 1) (n + g + 1) y hy
  obtain ⟨k1, k2⟩ := hK x hx
  have ex : rs_rf kn (n + g + 1) x = x + rs_D tm (rs_t g tm x) := by
    rw [hcg _ (by omega), hn]
    exact rs_rf_eq x (by omega)
  rcases hv with e | ⟨e, hl⟩
  · rw [e, k1, hk x hx, rs_t_el (g := g) (tm := tm) (x := x) (by omega) (by omega)]
  · rw [e, k2 hl, hk x hx, rs_t_el (g := g) (tm := tm) (x := x) (by omega) (by omega)]
theorem rs_PI_el {g : Nat} {tm : Nat → Nat} {a : Nat → Nat → Nat → Int} (hP : rs_PI g tm a) (h2 : g ≤ 2) : rs_PI (g + 1) (rs_elk tm 6) a := by
  obtain ⟨⟨hg, hg3⟩, htm, ⟨h0, h6⟩, hA, hp⟩ := hP
  refine ⟨⟨by omega, by omega⟩, fun k => ?_, ⟨?_, fun k hk => ?_⟩, fun ax hax => ?_, hp⟩
  · have := htm k
    unfold rs_elk
    split
    · split <;> omega
    · omega
  · exact h0
  · show (if 1 ≤ k ∧ k < 6 then _ else _) = 0
    rw [if_neg (by omega)]; exact h6 k hk
  · obtain ⟨hs, hd, hv, hb⟩ := hA ax hax
    refine ⟨fun k h1 h5 d hd4 hz => hs k h1 h5 d hd4 ?_, fun j => ⟨fun z => (hd j).1 (by omega), fun z => (hd j).2 (by omega)⟩, fun j => ⟨(hv j).1, fun z => (hv j).2 (by omega)⟩, hb⟩
    rw [rs_elk_v tm h1 h5] at hz
    by_cases e : tm k = 0
    · rw [if_pos e]; exact hd4
    · rw [if_neg e]
      rw [if_neg e, if_neg (by omega)] at hz
      omega
theorem rs_cc_b2 {g : Nat} {tm : Nat → Nat} {b : Nat → Nat → Int} (hg : 1 ≤ g) (hg3 : g ≤ 3) (hb : rs_bd b) {i : Nat} (hi : rs_t g tm i ≤ 5) : -20000000000000 ≤ rs_cc g tm b i ∧ rs_cc g tm b i ≤ 20000000000000 := by
  obtain ⟨b0, b1, b2, b3⟩ := rs_al_b hg hg3 (hb (rs_t g tm i) (by omega))
  unfold rs_cc
  have e1 := rs_t6 g tm (i + 1)
  have e2 := rs_t6 g tm (i + 2)
  have e3 := rs_t6 g tm (i + 3)
  have x1 : -6 ≤ (rs_t g tm (i + 1) : Int) - rs_t g tm i ∧ (rs_t g tm (i + 1) : Int) - rs_t g tm i ≤ 6 := by omega
  have x2 : -6 ≤ (rs_t g tm (i + 2) : Int) - rs_t g tm i ∧ (rs_t g tm (i + 2) : Int) - rs_t g tm i ≤ 6 := by omega
  have x3 : -6 ≤ (rs_t g tm (i + 3) : Int) - rs_t g tm i ∧ (rs_t g tm (i + 3) : Int) - rs_t g tm i ≤ 6 := by omega
  generalize (rs_t g tm (i + 1) : Int) - rs_t g tm i = x at *
  generalize (rs_t g tm (i + 2) : Int) - rs_t g tm i = y at *
  generalize (rs_t g tm (i + 3) : Int) - rs_t g tm i = z at *
  have xy := rs_absmul x1.1 x1.2 x2.1 x2.2
  have xz := rs_absmul x1.1 x1.2 x3.1 x3.2
  have yz := rs_absmul x2.1 x2.2 x3.1 x3.2
  have xyz := rs_absmul xy.1 xy.2 x3.1 x3.2
  have h : g = 1 ∨ g = 2 ∨ g = 3 := by omega
  rcases h with rfl | rfl | rfl
  · show _ ≤ _ + _ * x ∧ _ + _ * x ≤ _
    have p1 := rs_absmul b1.1 b1.2 x1.1 x1.2
    omega
  · show _ ≤ _ + _ * (x + y) + _ * (x * y) ∧ _ + _ * (x + y) + _ * (x * y) ≤ _
    have p1 := rs_absmul (b := x + y) (B := 12) b1.1 b1.2 (by omega) (by omega)
    have p2 := rs_absmul b2.1 b2.2 xy.1 xy.2
    omega
  · show _ ≤ _ + _ * (x + y + z) + _ * (x * y + x * z + y * z) + _ * (x * y * z) ∧ _ + _ * (x + y + z) + _ * (x * y + x * z + y * z) + _ * (x * y * z) ≤ _
    have p1 := rs_absmul (b := x + y + z) (B := 18) b1.1 b1.2 (by omega) (by omega)
    have p2 := rs_absmul (b := x * y + x * z + y * z) (B := 108) b2.1 b2.2 (by omega) (by omega)
    have p3 := rs_absmul b3.1 b3.2 xyz.1 xyz.2
    omega
/-- the class's curve, raised -/
theorem rs_CI_el {g n : Nat} {tm kn kn2 : Nat → Nat} {a : Nat → Nat → Nat → Int} {rz rz2 : Nat → Nat → Int64} (hP : rs_PI g tm a) (hC : rs_CI g tm a n kn rz) (h2 : g ≤ 2) (hK : rs_RK kn (n + g + 1) kn2 (n + g + 1)) (h6 : ∀ j, kn2 j ≤ 6) (hr2 : ∀ ax i, ax < 3 → i < rs_rf kn (n + g + 1) (n + g + 1) - (g + 1) - 1 → rz2 ax i = rs_rai kn g n rz kn2 ax i) : rs_CI (g + 1) (rs_elk tm 6) a (rs_rf kn (n + g + 1) (n + g + 1) - (g + 1) - 1) kn2 rz2 := by
  have hP2 := rs_PI_el hP h2
  have hP0 := hP
  have hC0 := hC
  obtain ⟨⟨hg, hg3⟩, htm, -, hA, hp⟩ := hP
  obtain ⟨hn, hk, hk6, hr⟩ := hC
  obtain ⟨k1, k2⟩ := rs_kel hn hk hK
  rw [k1, show rs_cu (g + 1) (rs_elk tm 6) 6 + (g + 1) + 1 - (g + 1) - 1 = rs_cu (g + 1) (rs_elk tm 6) 6 by omega] at hr2 ⊢
  refine ⟨rfl, k2, h6, fun ax i hax hi => ?_⟩
  rw [hr2 ax i hax hi]
  obtain ⟨hs, hd, hv, hb⟩ := hA ax hax
  obtain ⟨-, -, hv2, -⟩ := hP2.2.2.2.1 ax hax
  obtain ⟨-, l2⟩ := rs_t_lt hP2.2.1 hi
  have c1 : rs_cu g tm 1 = g + 1 := rfl
  have m0 : rs_cu g tm 1 ≤ rs_cu g tm 6 := rs_cu_mono g tm (by omega)
  have K0 := k2 i (by omega)
  have K1 := k2 (i + 1) (by omega)
  have K2 := k2 (i + 2) (by omega)
  have hcb := rs_cc_b2 (tm := rs_elk tm 6) (g := g + 1) (by omega) (by omega) hb l2
  have hnu := rs_nu_bu (g := g + 1) (by omega) (by omega) (hv2 (rs_t (g + 1) (rs_elk tm 6) i)) ((rs_t (g + 1) (rs_elk tm 6) (i + 1) : Int) - rs_t (g + 1) (rs_elk tm 6) i) ((rs_t (g + 1) (rs_elk tm 6) (i + 2) : Int) - rs_t (g + 1) (rs_elk tm 6) i) ((rs_t (g + 1) (rs_elk tm 6) (i + 3) : Int) - rs_t (g + 1) (rs_elk tm 6) i)
  change _ = ((g + 1 : Nat) : Int) * rs_cc (g + 1) (rs_elk tm 6) (a ax) i at hnu
  have hsp : rs_sp kn g (60 * kn2 i) (n - (g + 1)) = rs_sp (rs_t g tm) g (60 * rs_t (g + 1) (rs_elk tm 6) i) (rs_cu g tm 6 - (g + 1)) := by
    rw [K0, rs_sp_cg (kv := rs_t g tm) _ (fun j hj => hk j (by omega)), hn]
  obtain ⟨s1, s2, s3, s4, s5, s6⟩ := rs_sp_t (g := g) (tm := tm) (u := 60 * rs_t (g + 1) (rs_elk tm 6) i) (by omega)
  unfold rs_rai
  rw [hsp]
  generalize rs_sp (rs_t g tm) g (60 * rs_t (g + 1) (rs_elk tm 6) i) (rs_cu g tm 6 - (g + 1)) = r at *
  have us6 : ∀ v q, rs_us kn2 i v q ≤ 360 := fun v q => by
    have := h6 (i + (if q < v then q + 1 else q + 2))
    unfold rs_us
    omega
  have B : ∀ v, rs_bl kn g n rz (rs_us kn2 i v) ax r g g = lI (rs_bh g (rs_al g (a ax (rs_t (g + 1) (rs_elk tm 6) i))) 60 ((rs_us kn2 i v 0 : Int) - 60 * (rs_t (g + 1) (rs_elk tm 6) i : Nat)) 60 ((rs_us kn2 i v 1 : Int) - 60 * (rs_t (g + 1) (rs_elk tm 6) i : Nat)) 60 ((rs_us kn2 i v 2 : Int) - 60 * (rs_t (g + 1) (rs_elk tm 6) i : Nat))) := fun v =>
    rs_bl_bh hP0 hC0 hax s1 (by omega) (by omega) (by omega) (us6 v) (fun z => absurd z (by omega))
  generalize rs_cc (g + 1) (rs_elk tm 6) (a ax) i = C at *
  have hgc : g = 1 ∨ g = 2 := by omega
  rcases hgc with rfl | rfl
  · have d3 := (hd (rs_t 2 (rs_elk tm 6) i)).1 (by omega)
    have d2 := (hd (rs_t 2 (rs_elk tm 6) i)).2 (by omega)
    show rs_quo (0 + rs_bl kn 1 n rz (rs_us kn2 i 0) ax r 1 1 + rs_bl kn 1 n rz (rs_us kn2 i 1) ax r 1 1) (lI 2 * lI 60) = _
    rw [B 0, B 1, rs_bh1, rs_bh1, rs_0]
    have u0 : rs_us kn2 i 0 0 = 60 * rs_t 2 (rs_elk tm 6) (i + 2) := congrArg (60 * ·) K2
    have u1 : rs_us kn2 i 1 0 = 60 * rs_t 2 (rs_elk tm 6) (i + 1) := congrArg (60 * ·) K1
    rw [u0, u1, rs_add, rs_add, rs_mul]
    rw [rs_nu2] at hnu
    have key : (0 : Int) + (rs_al 1 (a ax (rs_t 2 (rs_elk tm 6) i)) 0 * 60 + rs_al 1 (a ax (rs_t 2 (rs_elk tm 6) i)) 1 * (((60 * rs_t 2 (rs_elk tm 6) (i + 2) : Nat) : Int) - 60 * (rs_t 2 (rs_elk tm 6) i : Nat))) + (rs_al 1 (a ax (rs_t 2 (rs_elk tm 6) i)) 0 * 60 + rs_al 1 (a ax (rs_t 2 (rs_elk tm 6) i)) 1 * (((60 * rs_t 2 (rs_elk tm 6) (i + 1) : Nat) : Int) - 60 * (rs_t 2 (rs_elk tm 6) i : Nat))) = 2 * 60 * C := by
      show (0 : Int) + (a ax (rs_t 2 (rs_elk tm 6) i) 0 * 60 + a ax (rs_t 2 (rs_elk tm 6) i) 1 * (((60 * rs_t 2 (rs_elk tm 6) (i + 2) : Nat) : Int) - 60 * (rs_t 2 (rs_elk tm 6) i : Nat))) + (a ax (rs_t 2 (rs_elk tm 6) i) 0 * 60 + a ax (rs_t 2 (rs_elk tm 6) i) 1 * (((60 * rs_t 2 (rs_elk tm 6) (i + 1) : Nat) : Int) - 60 * (rs_t 2 (rs_elk tm 6) i : Nat))) = 2 * 60 * C
      rw [Int.natCast_mul, Int.natCast_mul]
      grind
    rw [key]
    exact rs_quo_ex (by omega) (by omega) (by omega) (by omega) (by omega)
  · have d3 := (hd (rs_t 3 (rs_elk tm 6) i)).1 (by omega)
    have K3 := k2 (i + 3) (by omega)
    show rs_quo (0 + rs_bl kn 2 n rz (rs_us kn2 i 0) ax r 2 2 + rs_bl kn 2 n rz (rs_us kn2 i 1) ax r 2 2 + rs_bl kn 2 n rz (rs_us kn2 i 2) ax r 2 2) (lI 3 * lI 60 * lI 60) = _
    rw [B 0, B 1, B 2, rs_bh2, rs_bh2, rs_bh2, rs_0]
    have u00 : rs_us kn2 i 0 0 = 60 * rs_t 3 (rs_elk tm 6) (i + 2) := congrArg (60 * ·) K2
    have u01 : rs_us kn2 i 0 1 = 60 * rs_t 3 (rs_elk tm 6) (i + 3) := congrArg (60 * ·) K3
    have u10 : rs_us kn2 i 1 0 = 60 * rs_t 3 (rs_elk tm 6) (i + 1) := congrArg (60 * ·) K1
    have u11 : rs_us kn2 i 1 1 = 60 * rs_t 3 (rs_elk tm 6) (i + 3) := congrArg (60 * ·) K3
    have u20 : rs_us kn2 i 2 0 = 60 * rs_t 3 (rs_elk tm 6) (i + 1) := congrArg (60 * ·) K1
    have u21 : rs_us kn2 i 2 1 = 60 * rs_t 3 (rs_elk tm 6) (i + 2) := congrArg (60 * ·) K2
    rw [u00, u01, u10, u11, u20, u21, rs_add, rs_add, rs_add, rs_mul, rs_mul]
    rw [rs_nu3] at hnu
    simp only [Nat.reduceAdd] at hnu
    have e : a ax (rs_t 3 (rs_elk tm 6) i) 1 = 2 * (a ax (rs_t 3 (rs_elk tm 6) i) 1 / 2) := (Int.mul_ediv_cancel' ((hv _).2 (by omega))).symm
    have al0 : rs_al 2 (a ax (rs_t 3 (rs_elk tm 6) i)) 0 = a ax (rs_t 3 (rs_elk tm 6) i) 0 := rfl
    have al1 : rs_al 2 (a ax (rs_t 3 (rs_elk tm 6) i)) 1 = a ax (rs_t 3 (rs_elk tm 6) i) 1 / 2 := rfl
    have al2 : rs_al 2 (a ax (rs_t 3 (rs_elk tm 6) i)) 2 = a ax (rs_t 3 (rs_elk tm 6) i) 2 := rfl
    rw [al0, al1, al2]
    simp only [Int.natCast_mul]
    generalize a ax (rs_t 3 (rs_elk tm 6) i) 1 / 2 = c at *
    generalize a ax (rs_t 3 (rs_elk tm 6) i) 0 = f0 at *
    generalize a ax (rs_t 3 (rs_elk tm 6) i) 1 = f1 at *
    generalize a ax (rs_t 3 (rs_elk tm 6) i) 2 = f2 at *
    generalize a ax (rs_t 3 (rs_elk tm 6) i) 3 = f3 at *
    generalize ((rs_t 3 (rs_elk tm 6) i : Nat) : Int) = T0 at *
    generalize ((rs_t 3 (rs_elk tm 6) (i + 1) : Nat) : Int) = T1 at *
    generalize ((rs_t 3 (rs_elk tm 6) (i + 2) : Nat) : Int) = T2 at *
    generalize ((rs_t 3 (rs_elk tm 6) (i + 3) : Nat) : Int) = T3 at *
    subst e
    subst d3
    refine Eq.trans (congrArg (fun x => rs_quo (lI x) (lI (3 * 60 * 60))) (a₂ := 3 * 60 * 60 * C) ?_) (rs_quo_ex (by omega) (by omega) (by omega) (by omega) (by omega))
    grind
