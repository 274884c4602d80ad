/-! A drafted curve: the model's pieces stand for the class's control points. -/
/-- a piece's coefficients, from its blossom -/
def rs_ua (g : Nat) (b : Nat → Int) (e : Nat) : Int :=
  match g, e with
  | 1, 0 => 3600 * b 0
  | 1, 1 => 3600 * b 1
  | 1, _ => 0
  | 2, 0 => 60 * b 0
  | 2, 1 => 60 * (2 * b 1)
  | 2, 2 => 60 * b 2
  | 2, _ => 0
  | _, 0 => b 0
  | _, 1 => 3 * b 1
  | _, 2 => 3 * b 2
  | _, _ => b 3
theorem rs_ua_al {g : Nat} (hg : 1 ≤ g) (hg3 : g ≤ 3) (b : Nat → Int) (x y z : Int) : rs_bu g (rs_al g (rs_ua g b)) x y z = rs_s60 g * rs_bu g b x y z := by
  have h : g = 1 ∨ g = 2 ∨ g = 3 := by omega
  rcases h with rfl | rfl | rfl
  · show 3600 * b 0 + 3600 * b 1 * x = 3600 * (b 0 + b 1 * x)
    grind
  · show 60 * b 0 + 60 * (2 * b 1) / 2 * (x + y) + 60 * b 2 * (x * y) = 60 * (b 0 + b 1 * (x + y) + b 2 * (x * y))
    rw [show 60 * (2 * b 1) / 2 = 60 * b 1 by omega]
    grind
  · show b 0 + 3 * b 1 / 3 * (x + y + z) + 3 * b 2 / 3 * (x * y + x * z + y * z) + b 3 * (x * y * z) = 1 * (b 0 + b 1 * (x + y + z) + b 2 * (x * y + x * z + y * z) + b 3 * (x * y * z))
    rw [show 3 * b 1 / 3 = b 1 by omega, show 3 * b 2 / 3 = b 2 by omega]
    grind
theorem rs_ua_dg {g : Nat} (hg : 1 ≤ g) (b : Nat → Int) : (g ≤ 2 → rs_ua g b 3 = 0) ∧ (g ≤ 1 → rs_ua g b 2 = 0) := by
  refine ⟨fun h2 => ?_, fun h1 => ?_⟩
  · have h : g = 1 ∨ g = 2 := by omega
    rcases h with rfl | rfl <;> rfl
  · have h : g = 1 := by omega
    subst h
    rfl
theorem rs_ua_dv {g : Nat} (hg : 1 ≤ g) (hg3 : g ≤ 3) (b : Nat → Int) : rs_dv g (rs_ua g b) := by
  have h : g = 1 ∨ g = 2 ∨ g = 3 := by omega
  rcases h with rfl | rfl | rfl
  · refine ⟨⟨?_, ?_⟩, fun _ => ?_⟩
    · show (3 : Int) ∣ 3600 * b 1
      omega
    · show (3 : Int) ∣ 0
      omega
    · show (2 : Int) ∣ 3600 * b 1
      omega
  · refine ⟨⟨?_, ?_⟩, fun _ => ?_⟩
    · show (3 : Int) ∣ 60 * (2 * b 1)
      omega
    · show (3 : Int) ∣ 60 * b 2
      omega
    · show (2 : Int) ∣ 60 * (2 * b 1)
      omega
  · refine ⟨⟨?_, ?_⟩, fun z => absurd z (by omega)⟩
    · show (3 : Int) ∣ 3 * b 1
      omega
    · show (3 : Int) ∣ 3 * b 2
      omega
/-- Bernstein's numbers lie between the control numbers -/
theorem rs_ua_be {g : Nat} {k c : Nat → Int} (hg : 1 ≤ g) (hg3 : g ≤ 3) (hk : rs_kw g k) {m M : Int} (hc : ∀ i, i ≤ g → m ≤ c i ∧ c i ≤ M) : ∀ x, x < 4 → 648000 * m ≤ rs_be (rs_ua g (rs_fb g k c)) x ∧ rs_be (rs_ua g (rs_fb g k c)) x ≤ 648000 * M := by
  intro x hx
  have f0 := rs_fz_m hg hg3 hk hc (s := 0) (t := 0) (w := 0) (by decide) (by decide) (by decide)
  have f1 := rs_fz_m hg hg3 hk hc (s := 1) (t := 0) (w := 0) (by decide) (by decide) (by decide)
  have f2 := rs_fz_m hg hg3 hk hc (s := 1) (t := 1) (w := 0) (by decide) (by decide) (by decide)
  have f3 := rs_fz_m hg hg3 hk hc (s := 1) (t := 1) (w := 1) (by decide) (by decide) (by decide)
  have b0 := rs_fb0 g k c
  have b1 := rs_fb1 g k c
  have b2 := rs_fb2 g k c
  have b3 := rs_fb3 g k c
  generalize rs_fb g k c = b at *
  generalize rs_fz g k c 0 0 0 = F0 at *
  generalize rs_fz g k c 1 0 0 = F1 at *
  generalize rs_fz g k c 1 1 0 = F2 at *
  generalize rs_fz g k c 1 1 1 = F3 at *
  have h : g = 1 ∨ g = 2 ∨ g = 3 := by omega
  have h4 : x = 0 ∨ x = 1 ∨ x = 2 ∨ x = 3 := by omega
  rcases h with rfl | rfl | rfl
  · rcases h4 with rfl | rfl | rfl | rfl
    · show _ ≤ 3 * (3600 * b 0) ∧ 3 * (3600 * b 0) ≤ _
      omega
    · show _ ≤ 3 * (3600 * b 0) + 3600 * b 1 ∧ 3 * (3600 * b 0) + 3600 * b 1 ≤ _
      omega
    · show _ ≤ 3 * (3600 * b 0) + 2 * (3600 * b 1) + 0 ∧ 3 * (3600 * b 0) + 2 * (3600 * b 1) + 0 ≤ _
      omega
    · show _ ≤ 3 * (3600 * b 0 + 3600 * b 1 + 0 + 0) ∧ 3 * (3600 * b 0 + 3600 * b 1 + 0 + 0) ≤ _
      omega
  · rcases h4 with rfl | rfl | rfl | rfl
    · show _ ≤ 3 * (60 * b 0) ∧ 3 * (60 * b 0) ≤ _
      omega
    · show _ ≤ 3 * (60 * b 0) + 60 * (2 * b 1) ∧ 3 * (60 * b 0) + 60 * (2 * b 1) ≤ _
      omega
    · show _ ≤ 3 * (60 * b 0) + 2 * (60 * (2 * b 1)) + 60 * b 2 ∧ 3 * (60 * b 0) + 2 * (60 * (2 * b 1)) + 60 * b 2 ≤ _
      omega
    · show _ ≤ 3 * (60 * b 0 + 60 * (2 * b 1) + 60 * b 2 + 0) ∧ 3 * (60 * b 0 + 60 * (2 * b 1) + 60 * b 2 + 0) ≤ _
      omega
  · rcases h4 with rfl | rfl | rfl | rfl
    · show _ ≤ 3 * b 0 ∧ 3 * b 0 ≤ _
      omega
    · show _ ≤ 3 * b 0 + 3 * b 1 ∧ 3 * b 0 + 3 * b 1 ≤ _
      omega
    · show _ ≤ 3 * b 0 + 2 * (3 * b 1) + 3 * b 2 ∧ 3 * b 0 + 2 * (3 * b 1) + 3 * b 2 ≤ _
      omega
    · show _ ≤ 3 * (b 0 + 3 * b 1 + 3 * b 2 + b 3) ∧ 3 * (b 0 + 3 * b 1 + 3 * b 2 + b 3) ≤ _
      omega
/-- the span of the piece j begins so -/
def rs_kz (g : Nat) (tm : Nat → Nat) (j q : Nat) : Int := (rs_t g tm (rs_cu g tm (j + 1) - 1 - g + q) : Int) - j
def rs_cz (g : Nat) (tm : Nat → Nat) (c : Nat → Int) (j q : Nat) : Int := c (rs_cu g tm (j + 1) - 1 - g + q)
def rs_A (g : Nat) (tm : Nat → Nat) (c : Nat → Int) (j e : Nat) : Int := if j < 6 then rs_ua g (rs_fb g (rs_kz g tm j) (rs_cz g tm c j)) e else 0
theorem rs_A_in {g : Nat} {tm : Nat → Nat} {c : Nat → Int} {j : Nat} (hj : j < 6) : rs_A g tm c j = rs_ua g (rs_fb g (rs_kz g tm j) (rs_cz g tm c j)) := by
  funext e
  exact if_pos hj
theorem rs_cu_g (g : Nat) (tm : Nat → Nat) (j : Nat) : g + 1 ≤ rs_cu g tm (j + 1) := by
  have h : rs_cu g tm 1 ≤ rs_cu g tm (j + 1) := rs_cu_mono g tm (by omega)
  exact h
theorem rs_kz_w {g : Nat} {tm : Nat → Nat} {j : Nat} (hj : j < 6) : rs_kw g (rs_kz g tm j) := by
  have hc := rs_cu_asc g tm
  have hg := rs_cu_g g tm j
  have lo : ∀ q, q ≤ g → rs_t g tm (rs_cu g tm (j + 1) - 1 - g + q) ≤ j := fun q hq => by
    have h := rs_val_k hc (k := j + 1) (by omega) (by omega) (rs_cu g tm (j + 1) - 1 - g + q)
    have h' : j + 1 ≤ rs_t g tm (rs_cu g tm (j + 1) - 1 - g + q) ↔ rs_cu g tm (j + 1) ≤ rs_cu g tm (j + 1) - 1 - g + q := h
    omega
  have hi : ∀ q, g < q → j + 1 ≤ rs_t g tm (rs_cu g tm (j + 1) - 1 - g + q) := fun q hq => by
    have h := rs_val_k hc (k := j + 1) (by omega) (by omega) (rs_cu g tm (j + 1) - 1 - g + q)
    have h' : j + 1 ≤ rs_t g tm (rs_cu g tm (j + 1) - 1 - g + q) ↔ rs_cu g tm (j + 1) ≤ rs_cu g tm (j + 1) - 1 - g + q := h
    omega
  refine ⟨fun q hq => ?_, fun q hq => ?_, fun p q hp hq => ?_⟩
  · have := lo q hq
    unfold rs_kz
    omega
  · have := hi q hq
    unfold rs_kz
    omega
  · have := rs_t6 g tm (rs_cu g tm (j + 1) - 1 - g + q)
    unfold rs_kz
    omega
theorem rs_s60g {g : Nat} (hg : 1 ≤ g) (hg3 : g ≤ 3) (x : Int) : rs_s60 g * (60 ^ g * x) = 216000 * x := by
  have h : g = 1 ∨ g = 2 ∨ g = 3 := by omega
  rcases h with rfl | rfl | rfl
  · show 3600 * (60 ^ 1 * x) = _
    omega
  · show 60 * (60 ^ 2 * x) = _
    omega
  · show 1 * (60 ^ 3 * x) = _
    omega
/-- the control numbers of a piece -/
theorem rs_A_c {g : Nat} {tm : Nat → Nat} {c : Nat → Int} (hg : 1 ≤ g) (hg3 : g ≤ 3) {j i : Nat} (hj : j < 6) (h1 : rs_cu g tm (j + 1) ≤ i + g + 1) (h2 : i < rs_cu g tm (j + 1)) : rs_bu g (rs_al g (rs_A g tm c j)) ((rs_t g tm (i + 1) : Int) - j) ((rs_t g tm (i + 2) : Int) - j) ((rs_t g tm (i + 3) : Int) - j) = 216000 * c i := by
  have hk := rs_kz_w (g := g) (tm := tm) hj
  have hgc := rs_cu_g g tm j
  rw [rs_A_in hj, rs_ua_al hg hg3, ← rs_fz_bu hg hg3 hk]
  have e := rs_fz_c (c := rs_cz g tm c j) hg hg3 hk (i + g + 1 - rs_cu g tm (j + 1)) (by omega)
  have k1 : ∀ q, rs_kz g tm j (i + g + 1 - rs_cu g tm (j + 1) + q) = (rs_t g tm (i + q) : Int) - j := fun q => by
    unfold rs_kz
    rw [show rs_cu g tm (j + 1) - 1 - g + (i + g + 1 - rs_cu g tm (j + 1) + q) = i + q by omega]
  have c1 : rs_cz g tm c j (i + g + 1 - rs_cu g tm (j + 1)) = c i := by
    unfold rs_cz
    rw [show rs_cu g tm (j + 1) - 1 - g + (i + g + 1 - rs_cu g tm (j + 1)) = i by omega]
  rw [k1, k1, k1, c1] at e
  rw [e]
  exact rs_s60g hg hg3 _
theorem rs_A_cc {g : Nat} {tm : Nat → Nat} {c : Nat → Int} (hg : 1 ≤ g) (hg3 : g ≤ 3) (htm : ∀ k, tm k ≤ g) {i : Nat} (hi : i < rs_cu g tm 6) : rs_cc g tm (rs_A g tm c) i = 216000 * c i := by
  have h5 := rs_val_5 hi
  have h5' : rs_t g tm i ≤ 5 := h5
  have hc := rs_cu_asc g tm
  have hb := rs_val_k hc (k := rs_t g tm i + 1) (by omega) (by omega) i
  have hb' : rs_t g tm i + 1 ≤ rs_t g tm i ↔ rs_cu g tm (rs_t g tm i + 1) ≤ i := hb
  refine rs_A_c hg hg3 (by omega) ?_ (by omega)
  by_cases e : rs_t g tm i = 0
  · rw [e]
    show g + 1 ≤ _
    omega
  · have ha := rs_val_k hc (k := rs_t g tm i) (by omega) (by omega) i
    have ha' : rs_t g tm i ≤ rs_t g tm i ↔ rs_cu g tm (rs_t g tm i) ≤ i := ha
    have hs := rs_cu_s g tm (k := rs_t g tm i) (by omega)
    have := htm (rs_t g tm i)
    omega
/-! The pieces fit. -/
theorem rs_el1 {p0 p1 l u : Int} (h : l < u) (e1 : p0 + p1 * l = 0) (e2 : p0 + p1 * u = 0) : p0 = 0 ∧ p1 = 0 := by
  have e3 : (u - l) * p1 = 0 := by grind
  have e4 : p1 = 0 := by
    rcases Int.mul_eq_zero.mp e3 with z | z
    · omega
    · exact z
  subst e4
  rw [Int.zero_mul] at e1
  omega
theorem rs_el2 {p0 p1 p2 l2 l1 u1 u2 : Int} (h1 : l1 < 0) (h2 : l2 < 0) (h3 : 0 < u1) (h4 : 0 < u2) (e1 : p0 + p1 * (l2 + l1) + p2 * (l2 * l1) = 0) (e2 : p0 + p1 * (l1 + u1) + p2 * (l1 * u1) = 0) (e3 : p0 + p1 * (u1 + u2) + p2 * (u1 * u2) = 0) : p0 = 0 ∧ p1 = 0 ∧ p2 = 0 := by
  have d1 : (u1 - l2) * (p1 + p2 * l1) = 0 := by grind
  have d2 : (u2 - l1) * (p1 + p2 * u1) = 0 := by grind
  have f1 : p1 + p2 * l1 = 0 := by
    rcases Int.mul_eq_zero.mp d1 with z | z
    · omega
    · exact z
  have f2 : p1 + p2 * u1 = 0 := by
    rcases Int.mul_eq_zero.mp d2 with z | z
    · omega
    · exact z
  obtain ⟨z1, z2⟩ := rs_el1 (by omega) f1 f2
  subst z1
  subst z2
  exact ⟨by grind, rfl, rfl⟩
theorem rs_el3 {p0 p1 p2 p3 l3 l2 l1 u1 u2 u3 : Int} (h1 : l1 < 0) (h2 : l2 < 0) (h2' : l3 < 0) (h3 : 0 < u1) (h4 : 0 < u2) (h4' : 0 < u3) (e1 : p0 + p1 * (l3 + l2 + l1) + p2 * (l3 * l2 + l3 * l1 + l2 * l1) + p3 * (l3 * l2 * l1) = 0) (e2 : p0 + p1 * (l2 + l1 + u1) + p2 * (l2 * l1 + l2 * u1 + l1 * u1) + p3 * (l2 * l1 * u1) = 0) (e3 : p0 + p1 * (l1 + u1 + u2) + p2 * (l1 * u1 + l1 * u2 + u1 * u2) + p3 * (l1 * u1 * u2) = 0) (e4 : p0 + p1 * (u1 + u2 + u3) + p2 * (u1 * u2 + u1 * u3 + u2 * u3) + p3 * (u1 * u2 * u3) = 0) : p0 = 0 ∧ p1 = 0 ∧ p2 = 0 ∧ p3 = 0 := by
  have d1 : (u1 - l3) * (p1 + p2 * (l2 + l1) + p3 * (l2 * l1)) = 0 := by
    have key : (p0 + p1 * (l2 + l1 + u1) + p2 * (l2 * l1 + l2 * u1 + l1 * u1) + p3 * (l2 * l1 * u1)) - (p0 + p1 * (l3 + l2 + l1) + p2 * (l3 * l2 + l3 * l1 + l2 * l1) + p3 * (l3 * l2 * l1)) = (u1 - l3) * (p1 + p2 * (l2 + l1) + p3 * (l2 * l1)) := by
      clear e1 e2 e3 e4
      grind
    rw [e2, e1] at key
    exact key.symm
  have d2 : (u2 - l2) * (p1 + p2 * (l1 + u1) + p3 * (l1 * u1)) = 0 := by
    have key : (p0 + p1 * (l1 + u1 + u2) + p2 * (l1 * u1 + l1 * u2 + u1 * u2) + p3 * (l1 * u1 * u2)) - (p0 + p1 * (l2 + l1 + u1) + p2 * (l2 * l1 + l2 * u1 + l1 * u1) + p3 * (l2 * l1 * u1)) = (u2 - l2) * (p1 + p2 * (l1 + u1) + p3 * (l1 * u1)) := by
      clear e1 e2 e3 e4
      grind
    rw [e3, e2] at key
    exact key.symm
  have d3 : (u3 - l1) * (p1 + p2 * (u1 + u2) + p3 * (u1 * u2)) = 0 := by
    have key : (p0 + p1 * (u1 + u2 + u3) + p2 * (u1 * u2 + u1 * u3 + u2 * u3) + p3 * (u1 * u2 * u3)) - (p0 + p1 * (l1 + u1 + u2) + p2 * (l1 * u1 + l1 * u2 + u1 * u2) + p3 * (l1 * u1 * u2)) = (u3 - l1) * (p1 + p2 * (u1 + u2) + p3 * (u1 * u2)) := by
      clear e1 e2 e3 e4
      grind
    rw [e4, e3] at key
    exact key.symm
  have f1 : p1 + p2 * (l2 + l1) + p3 * (l2 * l1) = 0 := by
    rcases Int.mul_eq_zero.mp d1 with z | z
    · omega
    · exact z
  have f2 : p1 + p2 * (l1 + u1) + p3 * (l1 * u1) = 0 := by
    rcases Int.mul_eq_zero.mp d2 with z | z
    · omega
    · exact z
  have f3 : p1 + p2 * (u1 + u2) + p3 * (u1 * u2) = 0 := by
    rcases Int.mul_eq_zero.mp d3 with z | z
    · omega
    · exact z
  obtain ⟨z1, z2, z3⟩ := rs_el2 h1 h2 h3 h4 f1 f2 f3
  subst z1
  subst z2
  subst z3
  exact ⟨by grind, rfl, rfl, rfl⟩
/-- d: the difference of two neighbours, at the knot k; x: the knots against k -/
theorem rs_fit {g m R : Nat} {d x : Nat → Int} (hg : 1 ≤ g) (hg3 : g ≤ 3) (hm : m ≤ g) (hR : g ≤ R) (hd : (g ≤ 2 → d 3 = 0) ∧ (g ≤ 1 → d 2 = 0)) (hl : ∀ q, q ≤ R → x q < 0) (hz : ∀ q, R < q → q ≤ R + m → x q = 0) (hu : ∀ q, R + m < q → 0 < x q)
    (H : ∀ i, R + m ≤ i + g → i ≤ R → rs_nu g d (x (i + 1)) (x (i + 2)) (x (i + 3)) = 0) : ∀ e, e < 4 → e < (if m = 0 then 4 else g - m + 1) → d e = 0 := by
  have hgc : g = 1 ∨ g = 2 ∨ g = 3 := by omega
  rcases hgc with rfl | rfl | rfl
  · have d3 := hd.1 (by omega)
    have d2 := hd.2 (by omega)
    have hmc : m = 0 ∨ m = 1 := by omega
    rcases hmc with rfl | rfl
    · have e1 := H (R - 1) (by omega) (by omega)
      have e2 := H R (by omega) (by omega)
      rw [rs_nu1, show R - 1 + 1 = R by omega] at e1
      rw [rs_nu1] at e2
      have l1 := hl R (by omega)
      have u1 := hu (R + 1) (by omega)
      obtain ⟨z0, z1⟩ := rs_el1 (by omega) e1 e2
      intro e he _
      have h4 : e = 0 ∨ e = 1 ∨ e = 2 ∨ e = 3 := by omega
      rcases h4 with rfl | rfl | rfl | rfl <;> assumption
    · have e2 := H R (by omega) (by omega)
      rw [rs_nu1, hz (R + 1) (by omega) (by omega)] at e2
      intro e he h
      rw [if_neg (by omega)] at h
      have h4 : e = 0 := by omega
      subst h4
      omega
  · have d3 := hd.1 (by omega)
    have hmc : m = 0 ∨ m = 1 ∨ m = 2 := by omega
    rcases hmc with rfl | rfl | rfl
    · have e1 := H (R - 2) (by omega) (by omega)
      have e2 := H (R - 1) (by omega) (by omega)
      have e3 := H R (by omega) (by omega)
      rw [rs_nu2, show R - 2 + 1 = R - 1 by omega, show R - 2 + 2 = R by omega] at e1
      rw [rs_nu2, show R - 1 + 1 = R by omega, show R - 1 + 2 = R + 1 by omega] at e2
      rw [rs_nu2] at e3
      rw [← Int.mul_assoc] at e1 e2 e3
      obtain ⟨z0, z1, z2⟩ := rs_el2 (hl R (by omega)) (hl (R - 1) (by omega)) (hu (R + 1) (by omega)) (hu (R + 2) (by omega)) e1 e2 e3
      intro e he _
      have h4 : e = 0 ∨ e = 1 ∨ e = 2 ∨ e = 3 := by omega
      rcases h4 with rfl | rfl | rfl | rfl <;> omega
    · have e1 := H (R - 1) (by omega) (by omega)
      have e2 := H R (by omega) (by omega)
      rw [rs_nu2, show R - 1 + 1 = R by omega, show R - 1 + 2 = R + 1 by omega, hz (R + 1) (by omega) (by omega)] at e1
      rw [rs_nu2, hz (R + 1) (by omega) (by omega)] at e2
      have l1 := hl R (by omega)
      have u1 := hu (R + 2) (by omega)
      obtain ⟨z0, z1⟩ := rs_el1 (p0 := 2 * d 0) (p1 := d 1) (l := x R) (u := x (R + 2)) (by omega) (by grind) (by grind)
      intro e he h
      rw [if_neg (by omega)] at h
      have h4 : e = 0 ∨ e = 1 := by omega
      rcases h4 with rfl | rfl <;> omega
    · have e2 := H R (by omega) (by omega)
      rw [rs_nu2, hz (R + 1) (by omega) (by omega), hz (R + 2) (by omega) (by omega)] at e2
      intro e he h
      rw [if_neg (by omega)] at h
      have h4 : e = 0 := by omega
      subst h4
      omega
  · have hmc : m = 0 ∨ m = 1 ∨ m = 2 ∨ m = 3 := by omega
    rcases hmc with rfl | rfl | rfl | rfl
    · have e1 := H (R - 3) (by omega) (by omega)
      have e2 := H (R - 2) (by omega) (by omega)
      have e3 := H (R - 1) (by omega) (by omega)
      have e4 := H R (by omega) (by omega)
      rw [rs_nu3, show R - 3 + 1 = R - 2 by omega, show R - 3 + 2 = R - 1 by omega, show R - 3 + 3 = R by omega, ← Int.mul_assoc 3 (d 3)] at e1
      rw [rs_nu3, show R - 2 + 1 = R - 1 by omega, show R - 2 + 2 = R by omega, show R - 2 + 3 = R + 1 by omega, ← Int.mul_assoc 3 (d 3)] at e2
      rw [rs_nu3, show R - 1 + 1 = R by omega, show R - 1 + 2 = R + 1 by omega, show R - 1 + 3 = R + 2 by omega, ← Int.mul_assoc 3 (d 3)] at e3
      rw [rs_nu3, ← Int.mul_assoc 3 (d 3)] at e4
      obtain ⟨z0, z1, z2, z3⟩ := rs_el3 (hl R (by omega)) (hl (R - 1) (by omega)) (hl (R - 2) (by omega)) (hu (R + 1) (by omega)) (hu (R + 2) (by omega)) (hu (R + 3) (by omega)) e1 e2 e3 e4
      intro e he _
      have h4 : e = 0 ∨ e = 1 ∨ e = 2 ∨ e = 3 := by omega
      rcases h4 with rfl | rfl | rfl | rfl <;> omega
    · have e1 := H (R - 2) (by omega) (by omega)
      have e2 := H (R - 1) (by omega) (by omega)
      have e3 := H R (by omega) (by omega)
      rw [rs_nu3, show R - 2 + 1 = R - 1 by omega, show R - 2 + 2 = R by omega, show R - 2 + 3 = R + 1 by omega, hz (R + 1) (by omega) (by omega)] at e1
      rw [rs_nu3, show R - 1 + 1 = R by omega, show R - 1 + 2 = R + 1 by omega, show R - 1 + 3 = R + 2 by omega, hz (R + 1) (by omega) (by omega)] at e2
      rw [rs_nu3, hz (R + 1) (by omega) (by omega)] at e3
      obtain ⟨z0, z1, z2⟩ := rs_el2 (p0 := 3 * d 0) (p1 := d 1) (p2 := d 2) (hl R (by omega)) (hl (R - 1) (by omega)) (hu (R + 2) (by omega)) (hu (R + 3) (by omega)) (by grind) (by grind) (by grind)
      intro e he h
      rw [if_neg (by omega)] at h
      have h4 : e = 0 ∨ e = 1 ∨ e = 2 := by omega
      rcases h4 with rfl | rfl | rfl <;> omega
    · have e2 := H (R - 1) (by omega) (by omega)
      have e3 := H R (by omega) (by omega)
      rw [rs_nu3, show R - 1 + 1 = R by omega, show R - 1 + 2 = R + 1 by omega, show R - 1 + 3 = R + 2 by omega, hz (R + 1) (by omega) (by omega), hz (R + 2) (by omega) (by omega)] at e2
      rw [rs_nu3, hz (R + 1) (by omega) (by omega), hz (R + 2) (by omega) (by omega)] at e3
      have l1 := hl R (by omega)
      have u1 := hu (R + 3) (by omega)
      obtain ⟨z0, z1⟩ := rs_el1 (p0 := 3 * d 0) (p1 := d 1) (l := x R) (u := x (R + 3)) (by omega) (by grind) (by grind)
      intro e he h
      rw [if_neg (by omega)] at h
      have h4 : e = 0 ∨ e = 1 := by omega
      rcases h4 with rfl | rfl <;> omega
    · have e3 := H R (by omega) (by omega)
      rw [rs_nu3, hz (R + 1) (by omega) (by omega), hz (R + 2) (by omega) (by omega), hz (R + 3) (by omega) (by omega)] at e3
      intro e he h
      rw [if_neg (by omega)] at h
      have h4 : e = 0 := by omega
      subst h4
      omega
theorem rs_nu_sh {g : Nat} {a : Nat → Int} (hg : 1 ≤ g) (hg3 : g ≤ 3) (hd : (g ≤ 2 → a 3 = 0) ∧ (g ≤ 1 → a 2 = 0)) (x y z : Int) : rs_nu g a (x + 1) (y + 1) (z + 1) = rs_nu g (rs_sh a) x y z := by
  have h : g = 1 ∨ g = 2 ∨ g = 3 := by omega
  rcases h with rfl | rfl | rfl
  · have d3 := hd.1 (by omega)
    have d2 := hd.2 (by omega)
    rw [rs_nu1, rs_nu1, rs_sh0, rs_sh1]
    grind
  · have d3 := hd.1 (by omega)
    rw [rs_nu2, rs_nu2, rs_sh0, rs_sh1, rs_sh2]
    grind
  · rw [rs_nu3, rs_nu3, rs_sh0, rs_sh1, rs_sh2, rs_sh3]
    grind
theorem rs_nu_df {g : Nat} (hg : 1 ≤ g) (hg3 : g ≤ 3) (a b : Nat → Int) (x y z : Int) : rs_nu g (fun e => a e - b e) x y z = rs_nu g a x y z - rs_nu g b x y z := by
  have h : g = 1 ∨ g = 2 ∨ g = 3 := by omega
  rcases h with rfl | rfl | rfl
  · rw [rs_nu1, rs_nu1, rs_nu1]; grind
  · rw [rs_nu2, rs_nu2, rs_nu2]; grind
  · rw [rs_nu3, rs_nu3, rs_nu3]; grind
theorem rs_A_dg {g : Nat} {tm : Nat → Nat} {c : Nat → Int} (hg : 1 ≤ g) : rs_dg g (rs_A g tm c) := by
  intro j
  by_cases h : j < 6
  · rw [rs_A_in h]; exact rs_ua_dg hg _
  · exact ⟨fun _ => if_neg h, fun _ => if_neg h⟩
theorem rs_A_dv {g : Nat} {tm : Nat → Nat} {c : Nat → Int} (hg : 1 ≤ g) (hg3 : g ≤ 3) (j : Nat) : rs_dv g (rs_A g tm c j) := by
  by_cases h : j < 6
  · rw [rs_A_in h]; exact rs_ua_dv hg hg3 _
  · have e : ∀ e, rs_A g tm c j e = 0 := fun e => if_neg h
    refine ⟨⟨?_, ?_⟩, fun _ => ?_⟩ <;> rw [e] <;> omega
theorem rs_A_sm {g : Nat} {tm : Nat → Nat} {c : Nat → Int} (hg : 1 ≤ g) (hg3 : g ≤ 3) (htm : ∀ k, tm k ≤ g) : rs_sm 5 g tm (rs_A g tm c) := by
  intro k h1 h5 e he4 hez
  have hc := rs_cu_asc g tm
  have hs := rs_cu_s g tm (k := k) h1
  have hm := htm k
  obtain ⟨y, rfl⟩ : ∃ y, k = y + 1 := ⟨k - 1, by omega⟩
  have hgy := rs_cu_g g tm y
  rw [Nat.add_sub_cancel]
  have hv := fun q => rs_val_k hc (k := y + 1) (by omega) (by omega) q
  have hv' : ∀ q, y + 1 ≤ rs_t g tm q ↔ rs_cu g tm (y + 1) ≤ q := hv
  have hw := fun q => rs_val_k hc (k := y + 1 + 1) (by omega) (by omega) q
  have hw' : ∀ q, y + 1 + 1 ≤ rs_t g tm q ↔ rs_cu g tm (y + 1 + 1) ≤ q := hw
  have dA := rs_A_dg (tm := tm) (c := c) hg
  have fit := rs_fit (g := g) (m := tm (y + 1)) (R := rs_cu g tm (y + 1) - 1) (d := fun e => rs_sh (rs_A g tm c y) e - rs_A g tm c (y + 1) e) (x := fun q => (rs_t g tm q : Int) - ((y + 1 : Nat) : Int)) hg hg3 hm (by omega)
    ⟨fun h2 => by
      show rs_sh (rs_A g tm c y) 3 - rs_A g tm c (y + 1) 3 = 0
      rw [rs_sh3, (dA y).1 h2, (dA (y + 1)).1 h2]; rfl, fun h2 => by
      show rs_sh (rs_A g tm c y) 2 - rs_A g tm c (y + 1) 2 = 0
      rw [rs_sh2, (dA y).1 (by omega), (dA y).2 h2, (dA (y + 1)).2 h2]; rfl⟩
    (fun q hq => by
      have := hv' q
      show (rs_t g tm q : Int) - ((y + 1 : Nat) : Int) < 0
      omega)
    (fun q hq hq2 => by
      have := hv' q
      have := hw' q
      show (rs_t g tm q : Int) - ((y + 1 : Nat) : Int) = 0
      omega)
    (fun q hq => by
      have := hw' q
      show 0 < (rs_t g tm q : Int) - ((y + 1 : Nat) : Int)
      omega)
    (fun i hi hi2 => by
      rw [rs_nu_df hg hg3, ← rs_nu_sh hg hg3 (dA y)]
      have r1 : ∀ x : Nat, (rs_t g tm x : Int) - ((y + 1 : Nat) : Int) + 1 = (rs_t g tm x : Int) - (y : Int) := fun x => by omega
      simp only [r1]
      rw [rs_nu_bu hg hg3 (rs_A_dv hg hg3 y), rs_nu_bu hg hg3 (rs_A_dv hg hg3 (y + 1)), rs_A_c hg hg3 (by omega) (by omega) (by omega), rs_A_c hg hg3 (by omega) (by omega) (by omega), Int.sub_self]) e he4 hez
  have fit' : rs_sh (rs_A g tm c y) e - rs_A g tm c (y + 1) e = 0 := fit
  omega
/-- the drafted curve keeps the invariant -/
theorem rs_PI_fin {g : Nat} {tm : Nat → Nat} {C : Nat → Nat → Int} (hg : 1 ≤ g) (hg3 : g ≤ 3) (htm : ∀ k, tm k ≤ g) (h0 : tm 0 = 0) (h6 : ∀ k, 6 ≤ k → tm k = 0) (hC : ∀ ax i, ax < 3 → i < rs_cu g tm 6 → -16000 ≤ C ax i ∧ C ax i ≤ 16000) (hW : ∀ i, i < rs_cu g tm 6 → 1 ≤ C 2 i) : rs_PI g tm (fun ax => rs_A g tm (C ax)) := by
  refine ⟨⟨hg, hg3⟩, htm, ⟨h0, h6⟩, fun ax hax => ⟨rs_A_sm hg hg3 htm, rs_A_dg hg, rs_A_dv hg hg3, fun j hj m hm => ?_⟩, fun j hj m hm => ?_⟩
  · show _ ≤ rs_be (rs_A g tm (C ax) j) m ∧ rs_be (rs_A g tm (C ax) j) m ≤ _
    rw [rs_A_in hj]
    have hgj := rs_cu_g g tm j
    have hm6 : rs_cu g tm (j + 1) ≤ rs_cu g tm 6 := rs_cu_mono g tm (by omega)
    have := rs_ua_be (c := rs_cz g tm (C ax) j) hg hg3 (rs_kz_w (tm := tm) hj) (m := -16000) (M := 16000) (fun i hi => hC ax _ hax (by omega)) m hm
    omega
  · show 0 < rs_be (rs_A g tm (C 2) j) m
    rw [rs_A_in hj]
    have hgj := rs_cu_g g tm j
    have hm6 : rs_cu g tm (j + 1) ≤ rs_cu g tm 6 := rs_cu_mono g tm (by omega)
    have := rs_ua_be (c := rs_cz g tm (C 2) j) hg hg3 (rs_kz_w (tm := tm) hj) (m := 1) (M := 16000) (fun i hi => ⟨hW _ (by omega), (hC 2 _ (by omega) (by omega)).2⟩) m hm
    omega
