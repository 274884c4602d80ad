/-! The model's pieces in whole numbers. -/
def rs_ev (p : Nat → Int) (w : Int) : Int := p 0 + p 1 * w + p 2 * (w * w) + p 3 * (w * w * w)
def rs_mi (fa up fb dn : Int) (p q : Nat → Int) (e : Nat) : Int := fa * (up * p e + (if e = 0 then 0 else p (e - 1))) + fb * (dn * q e - (if e = 0 then 0 else q (e - 1)))
theorem rs_ev_mi {fa up fb dn : Int} {p q : Nat → Int} (hp : p 3 = 0) (hq : q 3 = 0) (w : Int) : rs_ev (rs_mi fa up fb dn p q) w = fa * ((up + w) * rs_ev p w) + fb * ((dn - w) * rs_ev q w) := by
  show fa * (up * p 0 + 0) + fb * (dn * q 0 - 0) + (fa * (up * p 1 + p 0) + fb * (dn * q 1 - q 0)) * w + (fa * (up * p 2 + p 1) + fb * (dn * q 2 - q 1)) * (w * w) + (fa * (up * p 3 + p 2) + fb * (dn * q 3 - q 2)) * (w * w * w) = fa * ((up + w) * (p 0 + p 1 * w + p 2 * (w * w) + p 3 * (w * w * w))) + fb * ((dn - w) * (q 0 + q 1 * w + q 2 * (w * w) + q 3 * (w * w * w)))
  rw [hp, hq]
  grind
def rs_FI (tk : Nat → Nat) (i q : Nat) : Int := (rs_fA tk i q).toInt
def rs_pi (tk : Nat → Nat) (j r : Nat) : Nat → Nat → Nat → Int
  | 0, i, e => if i = r ∧ e = 0 then 1 else 0
  | v + 1, i, e => if r - (v + 1) ≤ i ∧ i ≤ r then rs_mi (rs_FI tk i (v + 1)) ((j : Int) - tk i) (rs_FI tk (i + 1) (v + 1)) ((tk (i + (v + 1) + 1) : Int) - j) (rs_pi tk j r v i) (rs_pi tk j r v (i + 1)) e else rs_pi tk j r v i e
theorem rs_FI_l (tk : Nat → Nat) (i q : Nat) : rs_fA tk i q = lI (rs_FI tk i q) := (Int64.ofInt_toInt _).symm
theorem rs_fB_A (tk : Nat → Nat) (i q : Nat) : rs_fB tk i q = rs_fA tk (i + 1) q := by
  unfold rs_fB rs_fA
  rw [show i + q + 1 = i + 1 + q by omega]
theorem rs_FI_v {tk : Nat → Nat} {i q : Nat} (h : tk i < tk (i + q)) (h6 : tk (i + q) ≤ 6) : rs_FI tk i q = 60 / ((tk (i + q) : Int) - tk i) := by
  unfold rs_FI rs_fA rs_f6
  rw [pk_sub (by omega), if_neg (nI_ne0 (by omega) (by omega)), pk_div (by omega) (by omega) (by omega), nI_l (by
    have := Nat.div_le_self 60 (tk (i + q) - tk i)
    omega), lN_toInt (by
    have := Nat.div_le_self 60 (tk (i + q) - tk i)
    omega)]
  have e : ((tk (i + q) : Int) - tk i) = ((tk (i + q) - tk i : Nat) : Int) := by omega
  rw [e]
  rfl
theorem rs_pl_pi {tk : Nat → Nat} {j r : Nat} (h6 : ∀ i, tk i ≤ 6) (hj : j ≤ 6) : ∀ v i e, e < 4 → rs_pl tk j r v (4 * i + e) = lI (rs_pi tk j r v i e)
  | 0, i, e, he => by
    show (if 4 * i + e = 4 * r then 1 else 0) = lI (if i = r ∧ e = 0 then 1 else 0)
    by_cases z : i = r ∧ e = 0
    · rw [if_pos (by omega), if_pos z]; rfl
    · rw [if_neg (by omega), if_neg z]; rfl
  | v + 1, i, e, he => by
    show (if r - (v + 1) ≤ (4 * i + e) / 4 ∧ (4 * i + e) / 4 ≤ r then rs_mx (rs_pl tk j r v) (rs_fA tk ((4 * i + e) / 4) (v + 1)) (rs_fB tk ((4 * i + e) / 4) (v + 1)) (rs_mU tk ((4 * i + e) / 4) j) (rs_mD tk ((4 * i + e) / 4) (v + 1) j) ((4 * i + e) / 4) ((4 * i + e) % 4) else rs_pl tk j r v (4 * i + e)) = lI (if r - (v + 1) ≤ i ∧ i ≤ r then _ else _)
    rw [show (4 * i + e) / 4 = i by omega, show (4 * i + e) % 4 = e by omega]
    have ih := rs_pl_pi (r := r) h6 hj v
    by_cases z : r - (v + 1) ≤ i ∧ i ≤ r
    · rw [if_pos z, if_pos z]
      have hU : rs_mU tk i j = lI ((j : Int) - tk i) := rs_isub64 (by omega) (by have := h6 i; omega)
      have hD : rs_mD tk i (v + 1) j = lI ((tk (i + (v + 1) + 1) : Int) - j) := rs_isub64 (by have := h6 (i + (v + 1) + 1); omega) (by omega)
      have lo : ∀ y, rs_lo (rs_pl tk j r v) (4 * y) e = lI (if e = 0 then 0 else rs_pi tk j r v y (e - 1)) := fun y => by
        unfold rs_lo
        by_cases e0 : e = 0
        · rw [if_pos e0, if_pos e0]; rfl
        · rw [if_neg e0, if_neg e0, show 4 * y + e - 1 = 4 * y + (e - 1) by omega, ih y (e - 1) (by omega)]
      unfold rs_mx rs_mi
      rw [rs_fB_A, rs_FI_l, rs_FI_l, hU, hD, show 4 * i + 4 = 4 * (i + 1) by omega, lo, lo, ih i e he, ih (i + 1) e he]
      simp only [rs_mul, rs_add, rs_sub']
    · rw [if_neg z, if_neg z]
      exact ih i e he
theorem rs_pl_cg {tk tv : Nat → Nat} {j r : Nat} : ∀ v x, (∀ i, i ≤ r + v + 1 → tk i = tv i) → rs_pl tk j r v x = rs_pl tv j r v x
  | 0, _, _ => rfl
  | v + 1, x, h => by
    show (if r - (v + 1) ≤ x / 4 ∧ x / 4 ≤ r then rs_mx (rs_pl tk j r v) (rs_fA tk (x / 4) (v + 1)) (rs_fB tk (x / 4) (v + 1)) (rs_mU tk (x / 4) j) (rs_mD tk (x / 4) (v + 1) j) (x / 4) (x % 4) else rs_pl tk j r v x) = if r - (v + 1) ≤ x / 4 ∧ x / 4 ≤ r then rs_mx (rs_pl tv j r v) (rs_fA tv (x / 4) (v + 1)) (rs_fB tv (x / 4) (v + 1)) (rs_mU tv (x / 4) j) (rs_mD tv (x / 4) (v + 1) j) (x / 4) (x % 4) else rs_pl tv j r v x
    have ih := fun y => rs_pl_cg (tk := tk) (tv := tv) (j := j) (r := r) v y (fun i hi => h i (by omega))
    by_cases z : r - (v + 1) ≤ x / 4 ∧ x / 4 ≤ r
    · rw [if_pos z, if_pos z, funext ih]
      unfold rs_fA rs_fB rs_mU rs_mD
      rw [h (x / 4) (by omega), h (x / 4 + (v + 1)) (by omega), h (x / 4 + (v + 1) + 1) (by omega), h (x / 4 + 1) (by omega)]
    · rw [if_neg z, if_neg z]
      exact ih x
theorem rs_pi_d {tk : Nat → Nat} {j r : Nat} : ∀ v i e, v < e → rs_pi tk j r v i e = 0
  | 0, i, e, h => if_neg (by omega)
  | v + 1, i, e, h => by
    show (if r - (v + 1) ≤ i ∧ i ≤ r then _ else _) = _
    have d1 := rs_pi_d (tk := tk) (j := j) (r := r) v i e (by omega)
    have d2 := rs_pi_d (tk := tk) (j := j) (r := r) v i (e - 1) (by omega)
    have d3 := rs_pi_d (tk := tk) (j := j) (r := r) v (i + 1) e (by omega)
    have d4 := rs_pi_d (tk := tk) (j := j) (r := r) v (i + 1) (e - 1) (by omega)
    by_cases z : r - (v + 1) ≤ i ∧ i ≤ r
    · rw [if_pos z]
      unfold rs_mi
      rw [if_neg (by omega), if_neg (by omega), d1, d2, d3, d4]
      grind
    · rw [if_neg z, d1]
theorem rs_pi_z {tk : Nat → Nat} {j r : Nat} : ∀ v i e, v ≤ r → (i + v < r ∨ r < i) → rs_pi tk j r v i e = 0
  | 0, i, e, _, h => if_neg (by omega)
  | v + 1, i, e, hv, h => by
    show (if r - (v + 1) ≤ i ∧ i ≤ r then _ else _) = _
    rw [if_neg (by omega)]
    exact rs_pi_z v i e (by omega) (by omega)
theorem rs_E_z {tk : Nat → Nat} {j r v i : Nat} {w : Int} (hv : v ≤ r) (h : i + v < r ∨ r < i) : rs_ev (rs_pi tk j r v i) w = 0 := by
  unfold rs_ev
  rw [rs_pi_z v i 0 hv h, rs_pi_z v i 1 hv h, rs_pi_z v i 2 hv h, rs_pi_z v i 3 hv h]
  grind
theorem rs_E_0 {tk : Nat → Nat} {j r : Nat} {w : Int} : rs_ev (rs_pi tk j r 0 r) w = 1 := by
  show (if r = r ∧ 0 = 0 then (1 : Int) else 0) + (if r = r ∧ 1 = 0 then (1 : Int) else 0) * w + (if r = r ∧ 2 = 0 then (1 : Int) else 0) * (w * w) + (if r = r ∧ 3 = 0 then (1 : Int) else 0) * (w * w * w) = 1
  rw [if_pos ⟨rfl, rfl⟩, if_neg (by omega), if_neg (by omega), if_neg (by omega)]
  grind
theorem rs_E_s {tk : Nat → Nat} {j r v i : Nat} {w : Int} (hv : v ≤ 2) (h1 : r - (v + 1) ≤ i) (h2 : i ≤ r) : rs_ev (rs_pi tk j r (v + 1) i) w = rs_FI tk i (v + 1) * (((j : Int) - tk i + w) * rs_ev (rs_pi tk j r v i) w) + rs_FI tk (i + 1) (v + 1) * (((tk (i + (v + 1) + 1) : Int) - j - w) * rs_ev (rs_pi tk j r v (i + 1)) w) := by
  have e : rs_pi tk j r (v + 1) i = rs_mi (rs_FI tk i (v + 1)) ((j : Int) - tk i) (rs_FI tk (i + 1) (v + 1)) ((tk (i + (v + 1) + 1) : Int) - j) (rs_pi tk j r v i) (rs_pi tk j r v (i + 1)) := by
    funext e
    exact if_pos ⟨h1, h2⟩
  rw [e, rs_ev_mi (rs_pi_d v i 3 (by omega)) (rs_pi_d v (i + 1) 3 (by omega))]
section RSS
variable {tk : Nat → Nat} {j s : Nat} {c k : Nat → Int}
theorem rs_nsum1 (hk : ∀ q, k q = (tk (s + q) : Int) - j) (hw : rs_kw 1 k) (h6 : ∀ i, tk i ≤ 6) (w : Int) : c 0 * rs_ev (rs_pi tk j (s + 1) 1 s) w + c 1 * rs_ev (rs_pi tk j (s + 1) 1 (s + 1)) w = rs_fz 1 k c w w w := by
  have k1 := hk 1
  have k2 := hk 2
  have a1 := hw.1 1 (by omega)
  have a2 := hw.2.1 2 (by omega)
  rw [rs_E_s (by omega) (by omega) (by omega), rs_E_s (by omega) (by omega) (by omega), rs_E_0, rs_E_z (i := s) (by omega) (by omega), rs_E_z (i := s + 1 + 1) (by omega) (by omega)]
  rw [rs_FI_v (i := s + 1) (q := 0 + 1) (by show tk (s + 1) < tk (s + 2); omega) (h6 _), rs_fz1]
  unfold rs_qs
  rw [k1, k2]
  simp only [Nat.add_assoc, Nat.reduceAdd]
  rw [show (tk (s + 2) : Int) - j - ((tk (s + 1) : Int) - j) = (tk (s + 2) : Int) - tk (s + 1) by omega]
  generalize (60 : Int) / ((tk (s + 2) : Int) - tk (s + 1)) = A
  grind
theorem rs_nsum2 (hk : ∀ q, k q = (tk (s + q) : Int) - j) (hw : rs_kw 2 k) (h6 : ∀ i, tk i ≤ 6) (w : Int) : c 0 * rs_ev (rs_pi tk j (s + 2) 2 s) w + c 1 * rs_ev (rs_pi tk j (s + 2) 2 (s + 1)) w + c 2 * rs_ev (rs_pi tk j (s + 2) 2 (s + 2)) w = rs_fz 2 k c w w w := by
  have k1 := hk 1
  have k2 := hk 2
  have k3 := hk 3
  have k4 := hk 4
  have a1 := hw.1 1 (by omega)
  have a2 := hw.1 2 (by omega)
  have a3 := hw.2.1 3 (by omega)
  have a4 := hw.2.1 4 (by omega)
  have f1 := rs_FI_v (tk := tk) (i := s + 2) (q := 1) (by show tk (s + 2) < tk (s + 3); omega) (h6 _)
  have f2 := rs_FI_v (tk := tk) (i := s + 1) (q := 2) (by show tk (s + 1) < tk (s + 3); omega) (h6 _)
  have f3 := rs_FI_v (tk := tk) (i := s + 2) (q := 2) (by show tk (s + 2) < tk (s + 4); omega) (h6 _)
  have E11 := rs_E_s (tk := tk) (j := j) (r := s + 2) (v := 0) (i := s + 1) (w := w) (by omega) (by omega) (by omega)
  have E12 := rs_E_s (tk := tk) (j := j) (r := s + 2) (v := 0) (i := s + 2) (w := w) (by omega) (by omega) (by omega)
  have E20 := rs_E_s (tk := tk) (j := j) (r := s + 2) (v := 1) (i := s) (w := w) (by omega) (by omega) (by omega)
  have E21 := rs_E_s (tk := tk) (j := j) (r := s + 2) (v := 1) (i := s + 1) (w := w) (by omega) (by omega) (by omega)
  have E22 := rs_E_s (tk := tk) (j := j) (r := s + 2) (v := 1) (i := s + 2) (w := w) (by omega) (by omega) (by omega)
  simp only [Nat.add_assoc, Nat.reduceAdd] at f1 f2 f3 E11 E12 E20 E21 E22
  rw [rs_E_0, rs_E_z (v := 0) (i := s + 1) (by omega) (by omega), f1] at E11
  rw [rs_E_0, rs_E_z (v := 0) (i := s + 3) (by omega) (by omega), f1] at E12
  rw [E11, rs_E_z (v := 1) (i := s) (by omega) (by omega), f2] at E20
  rw [E11, E12, f2, f3] at E21
  rw [E12, rs_E_z (v := 1) (i := s + 3) (by omega) (by omega), f3] at E22
  rw [E20, E21, E22, rs_fz2]
  unfold rs_qs
  rw [k1, k2, k3, k4]
  simp only [show ∀ a b c : Int, a - c - (b - c) = a - b from fun a b c => by omega]
  generalize (60 : Int) / ((tk (s + 3) : Int) - tk (s + 2)) = A
  generalize (60 : Int) / ((tk (s + 3) : Int) - tk (s + 1)) = B
  generalize (60 : Int) / ((tk (s + 4) : Int) - tk (s + 2)) = C
  grind
theorem rs_nsum3 (hk : ∀ q, k q = (tk (s + q) : Int) - j) (hw : rs_kw 3 k) (h6 : ∀ i, tk i ≤ 6) (w : Int) : c 0 * rs_ev (rs_pi tk j (s + 3) 3 s) w + c 1 * rs_ev (rs_pi tk j (s + 3) 3 (s + 1)) w + c 2 * rs_ev (rs_pi tk j (s + 3) 3 (s + 2)) w + c 3 * rs_ev (rs_pi tk j (s + 3) 3 (s + 3)) w = rs_fz 3 k c w w w := by
  have k1 := hk 1
  have k2 := hk 2
  have k3 := hk 3
  have k4 := hk 4
  have k5 := hk 5
  have k6 := hk 6
  have a1 := hw.1 1 (by omega)
  have a2 := hw.1 2 (by omega)
  have a3 := hw.1 3 (by omega)
  have a4 := hw.2.1 4 (by omega)
  have a5 := hw.2.1 5 (by omega)
  have a6 := hw.2.1 6 (by omega)
  have f34 := rs_FI_v (tk := tk) (i := s + 3) (q := 1) (by show tk (s + 3) < tk (s + 4); omega) (h6 _)
  have f24 := rs_FI_v (tk := tk) (i := s + 2) (q := 2) (by show tk (s + 2) < tk (s + 4); omega) (h6 _)
  have f35 := rs_FI_v (tk := tk) (i := s + 3) (q := 2) (by show tk (s + 3) < tk (s + 5); omega) (h6 _)
  have f14 := rs_FI_v (tk := tk) (i := s + 1) (q := 3) (by show tk (s + 1) < tk (s + 4); omega) (h6 _)
  have f25 := rs_FI_v (tk := tk) (i := s + 2) (q := 3) (by show tk (s + 2) < tk (s + 5); omega) (h6 _)
  have f36 := rs_FI_v (tk := tk) (i := s + 3) (q := 3) (by show tk (s + 3) < tk (s + 6); omega) (h6 _)
  have E12 := rs_E_s (tk := tk) (j := j) (r := s + 3) (v := 0) (i := s + 2) (w := w) (by omega) (by omega) (by omega)
  have E13 := rs_E_s (tk := tk) (j := j) (r := s + 3) (v := 0) (i := s + 3) (w := w) (by omega) (by omega) (by omega)
  have E21 := rs_E_s (tk := tk) (j := j) (r := s + 3) (v := 1) (i := s + 1) (w := w) (by omega) (by omega) (by omega)
  have E22 := rs_E_s (tk := tk) (j := j) (r := s + 3) (v := 1) (i := s + 2) (w := w) (by omega) (by omega) (by omega)
  have E23 := rs_E_s (tk := tk) (j := j) (r := s + 3) (v := 1) (i := s + 3) (w := w) (by omega) (by omega) (by omega)
  have E30 := rs_E_s (tk := tk) (j := j) (r := s + 3) (v := 2) (i := s) (w := w) (by omega) (by omega) (by omega)
  have E31 := rs_E_s (tk := tk) (j := j) (r := s + 3) (v := 2) (i := s + 1) (w := w) (by omega) (by omega) (by omega)
  have E32 := rs_E_s (tk := tk) (j := j) (r := s + 3) (v := 2) (i := s + 2) (w := w) (by omega) (by omega) (by omega)
  have E33 := rs_E_s (tk := tk) (j := j) (r := s + 3) (v := 2) (i := s + 3) (w := w) (by omega) (by omega) (by omega)
  simp only [Nat.add_assoc, Nat.reduceAdd] at f34 f24 f35 f14 f25 f36 E12 E13 E21 E22 E23 E30 E31 E32 E33
  rw [rs_E_0, rs_E_z (v := 0) (i := s + 2) (by omega) (by omega), f34] at E12
  rw [rs_E_0, rs_E_z (v := 0) (i := s + 4) (by omega) (by omega), f34] at E13
  rw [E12, rs_E_z (v := 1) (i := s + 1) (by omega) (by omega), f24] at E21
  rw [E12, E13, f24, f35] at E22
  rw [E13, rs_E_z (v := 1) (i := s + 4) (by omega) (by omega), f35] at E23
  rw [E21, rs_E_z (v := 2) (i := s) (by omega) (by omega), f14] at E30
  rw [E21, E22, f14, f25] at E31
  rw [E22, E23, f25, f36] at E32
  rw [E23, rs_E_z (v := 2) (i := s + 4) (by omega) (by omega), f36] at E33
  rw [E30, E31, E32, E33, rs_fz3]
  unfold rs_qs
  rw [k1, k2, k3, k4, k5, k6]
  simp only [show ∀ a b c : Int, a - c - (b - c) = a - b from fun a b c => by omega]
  generalize (60 : Int) / ((tk (s + 4) : Int) - tk (s + 3)) = A
  generalize (60 : Int) / ((tk (s + 4) : Int) - tk (s + 2)) = B
  generalize (60 : Int) / ((tk (s + 5) : Int) - tk (s + 3)) = C
  generalize (60 : Int) / ((tk (s + 4) : Int) - tk (s + 1)) = D
  generalize (60 : Int) / ((tk (s + 5) : Int) - tk (s + 2)) = E
  generalize (60 : Int) / ((tk (s + 6) : Int) - tk (s + 3)) = F
  grind
end RSS
