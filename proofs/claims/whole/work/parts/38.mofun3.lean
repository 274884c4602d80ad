/-! More of what the model computes: bounds of the knots, remove, basis, mix. -/
theorem rs_cu6_b {g : Nat} {tm : Nat → Nat} (hg : g ≤ 3) (h : ∀ j, tm j ≤ g) : rs_cu g tm 6 ≤ 19 := by
  have c1 : rs_cu g tm 1 = g + 1 := rfl
  have c2 := rs_cu_s g tm (k := 1) (by omega)
  have c3 := rs_cu_s g tm (k := 2) (by omega)
  have c4 := rs_cu_s g tm (k := 3) (by omega)
  have c5 := rs_cu_s g tm (k := 4) (by omega)
  have c6 := rs_cu_s g tm (k := 5) (by omega)
  have t1 := h 1
  have t2 := h 2
  have t3 := h 3
  have t4 := h 4
  have t5 := h 5
  simp only [Nat.reduceAdd] at c2 c3 c4 c5 c6
  omega
theorem rs_c7_b {g : Nat} {tm : Nat → Nat} (hg : g ≤ 3) (h : ∀ j, tm j ≤ g) : ∀ k, k ≤ 7 → rs_c7 g tm k ≤ 23 := by
  intro k hk
  have h6 := rs_cu6_b hg h
  unfold rs_c7
  by_cases e : k ≤ 6
  · rw [if_pos e]
    have := rs_cu_mono g tm e
    omega
  · rw [if_neg e]
    omega
theorem rs_val_5 {g : Nat} {tm : Nat → Nat} {i : Nat} (h : i < rs_cu g tm 6) : rs_val (rs_cu g tm) i ≤ 5 := by
  have a := rs_val_k (rs_cu_asc g tm) (k := 6) (by omega) (by omega) i
  have b : ¬ 6 ≤ rs_val (rs_cu g tm) i := fun z => by
    have := a.1 z
    omega
  omega
theorem rs_up_dec {tm : Nat → Nat} {k g : Nat} (h : ∀ j, tm j ≤ g) : ∀ j, rs_up tm k (tm k - 1) j ≤ g := rs_up_le h (by have := h k; omega)
theorem rs_up_bk {tm : Nat → Nat} {k : Nat} (h : 0 < tm k) : rs_up (rs_up tm k (tm k - 1)) k (rs_up tm k (tm k - 1) k + 1) = tm := by
  rw [rs_up_up, rs_up_s]
  exact rs_up_id (by omega)
/-- the weights of the coarser curve, by the knots as they are laid -/
theorem rs_okd_w {pz : Nat → Int64} {g : Nat} {tm x : Nat → Nat} (h : ∀ i, i < rs_cu g tm 6 + (g + 1) → x i = rs_val (rs_cu g tm) i) : (∀ i, i < rs_cu g tm 6 → 0 < rs_co pz x g i 2) ↔ ∀ i, i < rs_cu g tm 6 → 0 < rs_co pz (rs_val (rs_cu g tm)) g i 2 := by
  constructor
  · intro z i hi
    rw [← rs_co_cg (fun y hy => h y (by omega)) 2]
    exact z i hi
  · intro z i hi
    rw [rs_co_cg (fun y hy => h y (by omega)) 2]
    exact z i hi
def rs_f6 (d : Int32) : Int64 := if d = 0 then 0 else (nI 60 / d).toInt64
/-- the model's basis, level by level -/
def rs_vb (tk : Nat → Nat) (u r : Nat) : Nat → Nat → Int64
  | 0, x => if x = r then 1 else 0
  | v + 1, x => if r - (v + 1) ≤ x ∧ x ≤ r then rs_f6 (nI (tk (x + (v + 1))) - nI (tk x)) * (nI u - nI (60 * tk x)).toInt64 * rs_vb tk u r v x + rs_f6 (nI (tk (x + (v + 1) + 1)) - nI (tk (x + 1))) * (nI (60 * tk (x + (v + 1) + 1)) - nI u).toInt64 * rs_vb tk u r v (x + 1) else rs_vb tk u r v x
def rs_sc (g : Nat) : Int64 := if g = 1 then 3600 else if g = 2 then 60 else 1
section RSV
variable {tk : Nat → Nat} {u r v w : Nat} {vl : Nat → Int64}
theorem rs_vb_0 {j : Nat} (hj : 24 ≤ j) (h : ∀ x, x < j → vl x = 0) (hr : r < 24) : ∀ x, x < 24 → vp_updL vl r 1 x = rs_vb tk u r 0 x := by
  intro x hx
  show _ = if x = r then 1 else 0
  by_cases e : x = r
  · subst e
    rw [pk_uLs, if_pos rfl]
  · rw [pk_uLn e, if_neg e]
    exact h x (by omega)
theorem rs_vb_i (h : ∀ x, x < 24 → vl x = rs_vb tk u r v x) : ∀ x, x < 24 → vl x = if r - (v + 1) ≤ x ∧ x < r - (v + 1) + 0 then rs_vb tk u r (v + 1) x else rs_vb tk u r v x := by
  intro x hx
  rw [if_neg (by omega)]
  exact h x hx
theorem rs_vb_n (hr : v + 1 ≤ r) (hw : w = v + 2) (h : ∀ x, x < 24 → vl x = if r - (v + 1) ≤ x ∧ x < r - (v + 1) + w then rs_vb tk u r (v + 1) x else rs_vb tk u r v x) : ∀ x, x < 24 → vl x = rs_vb tk u r (v + 1) x := by
  intro x hx
  rw [h x hx]
  by_cases e : r - (v + 1) ≤ x ∧ x < r - (v + 1) + w
  · rw [if_pos e]
  · rw [if_neg e]
    have e2 : rs_vb tk u r (v + 1) x = rs_vb tk u r v x := if_neg (by omega)
    rw [e2]
theorem rs_vb_s {fa fb : Int64} (hr : v + 1 ≤ r) (hr2 : r ≤ 18) (hw : w ≤ v + 1) (hfa : fa = rs_f6 (nI (tk (r - (v + 1) + w + (v + 1))) - nI (tk (r - (v + 1) + w)))) (hfb : fb = rs_f6 (nI (tk (r - (v + 1) + w + (v + 1) + 1)) - nI (tk (r - (v + 1) + w + 1))))
    (h : ∀ x, x < 24 → vl x = if r - (v + 1) ≤ x ∧ x < r - (v + 1) + w then rs_vb tk u r (v + 1) x else rs_vb tk u r v x) :
    ∀ x, x < 24 → vp_updL vl (r - (v + 1) + w) (fa * (nI u - nI (60 * tk (r - (v + 1) + w))).toInt64 * vl (r - (v + 1) + w) + fb * (nI (60 * tk (r - (v + 1) + w + (v + 1) + 1)) - nI u).toInt64 * vl (r - (v + 1) + w + 1)) x = if r - (v + 1) ≤ x ∧ x < r - (v + 1) + (w + 1) then rs_vb tk u r (v + 1) x else rs_vb tk u r v x := by
  intro x hx
  by_cases e : x = r - (v + 1) + w
  · have h0 := h (r - (v + 1) + w) (by omega)
    have h1 := h (r - (v + 1) + w + 1) (by omega)
    rw [if_neg (by omega)] at h0 h1
    rw [e, pk_uLs, if_pos (by omega), h0, h1, hfa, hfb]
    exact (if_pos (by omega)).symm
  · rw [pk_uLn e, h x hx]
    by_cases f : r - (v + 1) ≤ x ∧ x < r - (v + 1) + w
    · rw [if_pos f, if_pos (by omega)]
    · rw [if_neg f, if_neg (by omega)]
end RSV
