/-! What the class's loops over knots come to. -/
theorem rs_up_idt (f : Nat → Nat) (k : Nat) : rs_up f k (f k) = f := by
  funext j
  by_cases e : j = k
  · subst e; exact rs_up_s _ _ _
  · exact rs_up_n e
theorem rs_up_upt (f : Nat → Nat) (k a b : Nat) : rs_up (rs_up f k a) k b = rs_up f k b := by
  funext j
  by_cases e : j = k
  · subst e; rw [rs_up_s, rs_up_s]
  · rw [rs_up_n e, rs_up_n e, rs_up_n e]
def rs_dci (g : Nat) (tm : Nat → Nat) (v t : Nat) : Nat → Nat := rs_up (rs_dck g tm (v + 1)) (v + 1) t
theorem rs_dci_0 (g : Nat) (tm : Nat → Nat) (v : Nat) : rs_dck g tm (v + 1) = rs_dci g tm v (tm (v + 1)) := by
  have h := rs_up_idt (rs_dck g tm (v + 1)) (v + 1)
  rw [rs_dck_at] at h
  exact h.symm
theorem rs_dci_at (g : Nat) (tm : Nat → Nat) (v t : Nat) : rs_dci g tm v t (v + 1) = t := rs_up_s _ _ _
theorem rs_dci_s (g : Nat) (tm : Nat → Nat) (v t : Nat) : rs_up (rs_dci g tm v t) (v + 1) (rs_dci g tm v t (v + 1) + 1) = rs_dci g tm v (t + 1) := by
  rw [rs_dci_at]
  exact rs_up_upt _ _ _ _
theorem rs_dci_e {g : Nat} {tm : Nat → Nat} {v t : Nat} (h : (t = 0 ∧ tm (v + 1) = 0) ∨ (0 < tm (v + 1) ∧ t = g)) : rs_dck g tm (v + 1 + 1) = rs_dci g tm v t := by
  rcases h with ⟨h1, h2⟩ | ⟨h1, h2⟩
  · rw [rs_dck_z g tm h2, rs_dci_0, h1, h2]
  · rw [rs_dck_p g tm (by omega) h1, h2]
    rfl
theorem rs_dcs_e {g : Nat} {tm : Nat → Nat} {v t : Nat} (hg : tm (v + 1) ≤ g) (h : (t = 0 ∧ tm (v + 1) = 0) ∨ (0 < tm (v + 1) ∧ t = g)) : rs_dcs g tm (v + 1) = rs_dcs g tm v + (t - tm (v + 1)) := by
  show (if 0 < tm (v + 1) then rs_dcs g tm v + g - tm (v + 1) else rs_dcs g tm v) = _
  rcases h with ⟨h1, h2⟩ | ⟨h1, h2⟩
  · rw [if_neg (by omega)]; omega
  · rw [if_pos h1]; omega
theorem rs_t3_stop {pz : Nat → Int64} {g k : Nat} {tm : Nat → Nat} {w : Nat} (h : ¬ rs_okt pz g (rs_t3 pz g k tm w).1 k) : ∀ x, rs_t3 pz g k tm (w + x) = rs_t3 pz g k tm w
  | 0 => rfl
  | x + 1 => by
    have ih := rs_t3_stop h x
    show (rs_t1 pz g k (rs_t3 pz g k tm (w + x)).1, (rs_t3 pz g k tm (w + x)).2 + if rs_okt pz g (rs_t3 pz g k tm (w + x)).1 k then 1 else 0) = _
    rw [ih, if_neg h, rs_t1_n h]
    rfl
theorem rs_t3_st {pz : Nat → Int64} {g k : Nat} {tm : Nat → Nat} {w : Nat} (hw : w ≤ 3) (h : ¬ rs_okt pz g (rs_t3 pz g k tm w).1 k) : rs_t3 pz g k tm 3 = rs_t3 pz g k tm w := by
  have := rs_t3_stop h (3 - w)
  rw [show w + (3 - w) = 3 by omega] at this
  exact this
theorem rs_t3_y {pz : Nat → Int64} {g k : Nat} {tm : Nat → Nat} {w : Nat} (h : rs_okt pz g (rs_t3 pz g k tm w).1 k) : (rs_t3 pz g k tm (w + 1)).1 = rs_t1 pz g k (rs_t3 pz g k tm w).1 ∧ (rs_t3 pz g k tm (w + 1)).2 = (rs_t3 pz g k tm w).2 + 1 ∧ (rs_t3 pz g k tm (w + 1)).1 k = (rs_t3 pz g k tm w).1 k - 1 := by
  refine ⟨rfl, ?_, ?_⟩
  · show (rs_t3 pz g k tm w).2 + (if rs_okt pz g (rs_t3 pz g k tm w).1 k then 1 else 0) = _
    rw [if_pos h]
  · show rs_t1 pz g k (rs_t3 pz g k tm w).1 k = _
    rw [rs_t1_y h, rs_up_s]
theorem rs_t3_sum (pz : Nat → Int64) (g k : Nat) (tm : Nat → Nat) : ∀ w, (rs_t3 pz g k tm w).2 + (rs_t3 pz g k tm w).1 k = tm k
  | 0 => Nat.zero_add _
  | w + 1 => by
    have ih := rs_t3_sum pz g k tm w
    by_cases h : rs_okt pz g (rs_t3 pz g k tm w).1 k
    · obtain ⟨_, h2, h3⟩ := rs_t3_y h
      rw [h2, h3]
      have := h.1
      omega
    · have e := rs_t3_stop h 1
      rw [e]
      exact ih
