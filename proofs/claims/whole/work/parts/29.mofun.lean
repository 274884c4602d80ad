/-! What the model computes, as functions. -/
def rs_ms (tk : Nat → Nat) (g u : Nat) : Nat → Nat
  | 0 => g
  | j + 1 => if 60 * tk (g + j) ≤ u then g + j else rs_ms tk g u j
theorem rs_ms_le (tk : Nat → Nat) (g u : Nat) : ∀ j, g ≤ rs_ms tk g u j ∧ rs_ms tk g u j ≤ g + j
  | 0 => ⟨Nat.le_refl _, Nat.le_refl _⟩
  | j + 1 => by
    have := rs_ms_le tk g u j
    unfold rs_ms
    split <;> omega
theorem rs_ms_lt (tk : Nat → Nat) (g u : Nat) {j : Nat} (h : 0 < j) : rs_ms tk g u j < g + j := by
  obtain ⟨b, rfl⟩ : ∃ b, j = b + 1 := ⟨j - 1, by omega⟩
  have := rs_ms_le tk g u b
  unfold rs_ms
  split <;> omega
def rs_e1 (s : Nat → Int64) : Nat → Int64
  | 0 => 0
  | v + 1 => rs_e1 s v + s v
def rs_e2 (s : Nat → Int64) : Nat → Int64
  | 0 => 0
  | v + 1 => rs_e2 s v + rs_e1 s v * s v
def rs_e3 (s : Nat → Int64) : Nat → Int64
  | 0 => 0
  | v + 1 => rs_e3 s v + rs_e2 s v * s v
/-- the distances of the knots behind i from the knot i -/
def rs_ds (tk : Nat → Nat) (i v : Nat) : Int64 := (nI (tk (i + (v + 1))) - nI (tk i)).toInt64
def rs_co (pz : Nat → Int64) (tk : Nat → Nat) (g i ax : Nat) : Int64 :=
  if g = 1 then pz (24 * ax + 4 * tk i) + pz (24 * ax + 4 * tk i + 1) * rs_e1 (rs_ds tk i) g
  else if g = 2 then (2 * pz (24 * ax + 4 * tk i) + pz (24 * ax + 4 * tk i + 1) * rs_e1 (rs_ds tk i) g + 2 * pz (24 * ax + 4 * tk i + 2) * rs_e2 (rs_ds tk i) g) / 2
  else (3 * pz (24 * ax + 4 * tk i) + pz (24 * ax + 4 * tk i + 1) * rs_e1 (rs_ds tk i) g + pz (24 * ax + 4 * tk i + 2) * rs_e2 (rs_ds tk i) g + 3 * pz (24 * ax + 4 * tk i + 3) * rs_e3 (rs_ds tk i) g) / 3
def rs_ch (e d : Nat) : Int64 := if d = 0 ∨ d = e then 1 else lN e
/-- the coefficient d around the next point, v turns -/
def rs_su (pz : Nat → Int64) (left d : Nat) : Nat → Int64
  | 0 => 0
  | v + 1 => rs_su pz left d v + rs_ch (d + v) d * pz (left + (d + v))
abbrev rs_smo (pz : Nat → Int64) (k z : Nat) : Prop := ∀ ax, ax < 3 → ∀ d, d < 4 → d < z → rs_su pz (24 * ax + 4 * (k - 1)) d (4 - d) = pz (24 * ax + 4 * (k - 1) + 4 + d)
/-- the piece's value, in UNITs and 216000ths -/
def rs_pa (pz : Nat → Int64) (ax j : Nat) (w : Int64) : Int64 := ((pz (24 * ax + 4 * j + 3) * w + 60 * pz (24 * ax + 4 * j + 2)) * w + 3600 * pz (24 * ax + 4 * j + 1)) * w + 216000 * pz (24 * ax + 4 * j)
def rs_cn (dn : Nat → Nat) (k : Nat) : Nat → Nat
  | 0 => 0
  | q + 1 => if dn q = k then rs_cn dn k q + 1 else rs_cn dn k q
theorem rs_cn_le (dn : Nat → Nat) (k : Nat) : ∀ q, rs_cn dn k q ≤ q
  | 0 => Nat.le_refl _
  | q + 1 => by
    have := rs_cn_le dn k q
    unfold rs_cn
    split <;> omega
abbrev rs_okm (dd dk : Nat) (dn : Nat → Nat) (k : Nat) : Prop := 0 < dd ∧ (∀ q, q < dk → dn q ≤ k) ∧ rs_cn dn k dk < dd
/-- how many knots are laid before the number k's -/
def rs_c7 (g : Nat) (tm : Nat → Nat) (k : Nat) : Nat := if k ≤ 6 then rs_cu g tm k else rs_cu g tm 6 + (g + 1)
theorem rs_c7_s (g : Nat) (tm : Nat → Nat) {k : Nat} (h : k ≤ 6) : rs_c7 g tm (k + 1) = rs_c7 g tm k + (if k = 0 ∨ k = 6 then g + 1 else tm k) := by
  unfold rs_c7
  rw [if_pos h]
  by_cases h0 : k = 0
  · subst h0
    rw [if_pos (by omega), if_pos (by omega)]
    show g + 1 = 0 + (g + 1)
    omega
  · by_cases h6 : k = 6
    · subst h6
      rw [if_neg (by omega), if_pos (by omega)]
    · rw [if_pos (by omega), if_neg (by omega), rs_cu_s g tm (by omega)]
theorem rs_c7_val (g : Nat) (tm : Nat → Nat) {k x : Nat} (h : k ≤ 6) (h1 : rs_c7 g tm k ≤ x) (h2 : x < rs_c7 g tm (k + 1)) : k = rs_val (rs_cu g tm) x := by
  have hc := rs_cu_asc g tm
  unfold rs_c7 at h1 h2
  rw [if_pos h] at h1
  by_cases h6 : k = 6
  · subst h6
    have a := (rs_val_k hc (k := 6) (by omega) (by omega) x).2 h1
    have b := rs_val_le (rs_cu g tm) x
    omega
  · rw [if_pos (by omega)] at h2
    by_cases h0 : k = 0
    · subst h0
      have h2' : x < rs_cu g tm 1 := h2
      have a := rs_val_k hc (k := 1) (by omega) (by omega) x
      have b : ¬ 1 ≤ rs_val (rs_cu g tm) x := fun z => by
        have := a.1 z
        omega
      omega
    · exact (rs_val_at hc (by omega) (by omega) h1 h2).symm
