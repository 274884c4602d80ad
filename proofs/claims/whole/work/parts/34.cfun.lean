/-! What the Chords compute. -/
def rs_LX (kn : Nat → Nat) (d n : Nat) (rz : Nat → Nat → Int64) (u : Nat) : Int32 := rs_th (rs_bl kn d n rz (fun _ => u) 0 (rs_sp kn d u (n - (d + 1))) d d) (rs_bl kn d n rz (fun _ => u) 2 (rs_sp kn d u (n - (d + 1))) d d)
def rs_LY (kn : Nat → Nat) (d n : Nat) (rz : Nat → Nat → Int64) (u : Nat) : Int32 := rs_th (rs_bl kn d n rz (fun _ => u) 1 (rs_sp kn d u (n - (d + 1))) d d) (rs_bl kn d n rz (fun _ => u) 2 (rs_sp kn d u (n - (d + 1))) d d)
abbrev rs_str (ho tl x y z : Int32) : Prop := rs_abs (if ho = 0 then x + z - nI 2 * y else x - z) ≤ tl
theorem rs_str_1 {ho tl x y z : Int32} (h : ho = 0) (h2 : ¬ tl < rs_abs (x + z - nI 2 * y)) : rs_str ho tl x y z := by
  unfold rs_str
  rw [if_pos h]
  exact Int32.not_lt.mp h2
theorem rs_str_2 {ho tl x y z : Int32} (h : ¬ ho = 0) (h2 : ¬ tl < rs_abs (x - z)) : rs_str ho tl x y z := by
  unfold rs_str
  rw [if_neg h]
  exact Int32.not_lt.mp h2
theorem rs_str_3 {ho tl x y z : Int32} (h : ho = 0) (h2 : tl < rs_abs (x + z - nI 2 * y)) : ¬ rs_str ho tl x y z := by
  unfold rs_str
  rw [if_pos h]
  exact Int32.not_le.mpr h2
theorem rs_str_4 {ho tl x y z : Int32} (h : ¬ ho = 0) (h2 : tl < rs_abs (x - z)) : ¬ rs_str ho tl x y z := by
  unfold rs_str
  rw [if_neg h]
  exact Int32.not_le.mpr h2
/-- the ends of the chords from a to b -/
def rs_cut (ok : Nat → Nat → Bool) : Nat → Nat → Nat → List Nat
  | 0, _, b => [b]
  | h + 1, a, b => if b - a < 2 then [b] else cond (ok a b) [b] (rs_cut ok h a ((a + b) / 2) ++ rs_cut ok h ((a + b) / 2) b)
theorem rs_cut_len (ok : Nat → Nat → Bool) : ∀ h a b, a < b → (rs_cut ok h a b).length ≤ b - a ∧ 0 < (rs_cut ok h a b).length
  | 0, a, b, hab => by
    show 1 ≤ b - a ∧ 0 < 1
    omega
  | h + 1, a, b, hab => by
    unfold rs_cut
    by_cases e : b - a < 2
    · rw [if_pos e]
      show 1 ≤ b - a ∧ 0 < 1
      omega
    · rw [if_neg e]
      cases ok a b with
      | true =>
        show 1 ≤ b - a ∧ 0 < 1
        omega
      | false =>
        show (rs_cut ok h a ((a + b) / 2) ++ rs_cut ok h ((a + b) / 2) b).length ≤ b - a ∧ 0 < (rs_cut ok h a ((a + b) / 2) ++ rs_cut ok h ((a + b) / 2) b).length
        rw [List.length_append]
        have h1 := rs_cut_len ok h a ((a + b) / 2) (by omega)
        have h2 := rs_cut_len ok h ((a + b) / 2) b (by omega)
        omega
/-- an array with a list laid from a place on -/
def rs_lay (vt : Nat → Nat) (c : Nat) (L : List Nat) : Nat → Nat := fun j => if c ≤ j ∧ j < c + L.length then L.getD (j - c) 0 else vt j
theorem rs_lay_1 (vt : Nat → Nat) (c b : Nat) : rs_up vt c b = rs_lay vt c [b] := by
  funext j
  unfold rs_lay
  by_cases e : j = c
  · subst e
    rw [rs_up_s, if_pos ⟨Nat.le_refl _, by show j < j + 1; omega⟩, Nat.sub_self]
    rfl
  · rw [rs_up_n e, if_neg (by show ¬ (c ≤ j ∧ j < c + 1); omega)]
theorem rs_lay_a (vt : Nat → Nat) (c : Nat) (L M : List Nat) : rs_lay (rs_lay vt c L) (c + L.length) M = rs_lay vt c (L ++ M) := by
  funext j
  unfold rs_lay
  rw [List.length_append]
  by_cases h1 : c + L.length ≤ j ∧ j < c + L.length + M.length
  · rw [if_pos h1, if_pos (by omega), List.getD_eq_getElem?_getD, List.getD_eq_getElem?_getD, List.getElem?_append_right (by omega), show j - c - L.length = j - (c + L.length) by omega]
  · rw [if_neg h1]
    by_cases h2 : c ≤ j ∧ j < c + L.length
    · rw [if_pos h2, if_pos (by omega), List.getD_eq_getElem?_getD, List.getD_eq_getElem?_getD, List.getElem?_append_left (by omega)]
    · rw [if_neg h2, if_neg (by omega)]
