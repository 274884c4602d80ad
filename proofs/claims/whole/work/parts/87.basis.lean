/-! The basis. -/
theorem rs_vb_z {tk : Nat → Nat} {u r : Nat} : ∀ v x, v ≤ r → (x + v < r ∨ r < x) → rs_vb tk u r v x = 0
  | 0, x, _, h => by
    show (if x = r then _ else _) = _
    rw [if_neg (by omega)]
  | v + 1, x, hv, h => by
    show (if r - (v + 1) ≤ x ∧ x ≤ r then _ else _) = _
    rw [if_neg (by omega)]
    exact rs_vb_z v x (by omega) (by omega)
theorem rs_fac_f6 (x y : Int32) : rs_fac x y = rs_f6 y * x.toInt64 := by
  unfold rs_fac rs_f6
  split
  · exact (Int64.zero_mul).symm
  · exact Int64.mul_comm _ _
theorem rs_bs_vb {kn tk : Nat → Nat} {g i u r : Nat} (hg : g ≤ r) (hk : ∀ x, x ≤ i + g + 1 → kn x = tk x) : ∀ v j, j + v ≤ g → rs_bs kn g i u r v j = rs_vb tk u r v (i + j)
  | 0, j, _ => rfl
  | v + 1, j, h => by
    show (if j + (v + 1) ≤ g then _ else _) = if r - (v + 1) ≤ i + j ∧ i + j ≤ r then _ else _
    rw [if_pos h, rs_bs_vb hg hk v j (by omega), rs_bs_vb hg hk v (j + 1) (by omega), rs_fac_f6, rs_fac_f6, hk (i + j) (by omega), hk (i + j + (v + 1)) (by omega), hk (i + j + (v + 1) + 1) (by omega), hk (i + j + 1) (by omega)]
    by_cases e : r - (v + 1) ≤ i + j ∧ i + j ≤ r
    · rw [if_pos e]; rfl
    · rw [if_neg e, rs_vb_z v (i + j) (by omega) (by omega), rs_vb_z v (i + (j + 1)) (by omega) (by omega), Int64.mul_zero, Int64.mul_zero]
      rfl
theorem rs_basis_eq {kn tk : Nat → Nat} {g i u r : Nat} (hg1 : 1 ≤ g) (hg3 : g ≤ 3) (hg : g ≤ r) (hk : ∀ x, x ≤ i + g + 1 → kn x = tk x) : rs_p60 (rs_bs kn g i u r g 0) (3 - g) = rs_vb tk u r g i * rs_sc g := by
  rw [rs_bs_vb hg hk g 0 (by omega)]
  have hgc : g = 1 ∨ g = 2 ∨ g = 3 := by omega
  rcases hgc with rfl | rfl | rfl
  · show _ * 60 * 60 = _ * 3600
    rw [Int64.mul_assoc]; rfl
  · rfl
  · show _ = _ * 1
    rw [Int64.mul_one]; rfl
