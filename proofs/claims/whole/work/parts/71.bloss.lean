/-! Blossoms of pieces, by their numerators. -/
/-- g! / (g - 1)! times the blossom of degree g of a 0 + a 1 w + a 2 w w + a 3 w w w -/
def rs_nu (g : Nat) (a : Nat → Int) (x y z : Int) : Int :=
  match g with
  | 1 => a 0 + a 1 * x
  | 2 => 2 * a 0 + a 1 * (x + y) + 2 * (a 2 * (x * y))
  | _ => 3 * a 0 + a 1 * (x + y + z) + a 2 * (x * y + x * z + y * z) + 3 * (a 3 * (x * y * z))
/-- the coefficients around a point that lies 1 further -/
def rs_sh (a : Nat → Int) (d : Nat) : Int :=
  match d with
  | 0 => a 0 + a 1 + a 2 + a 3
  | 1 => a 1 + 2 * a 2 + 3 * a 3
  | 2 => a 2 + 3 * a 3
  | _ => a 3
theorem rs_nu1 (a : Nat → Int) (x y z : Int) : rs_nu 1 a x y z = a 0 + a 1 * x := rfl
theorem rs_nu2 (a : Nat → Int) (x y z : Int) : rs_nu 2 a x y z = 2 * a 0 + a 1 * (x + y) + 2 * (a 2 * (x * y)) := rfl
theorem rs_nu3 (a : Nat → Int) (x y z : Int) : rs_nu 3 a x y z = 3 * a 0 + a 1 * (x + y + z) + a 2 * (x * y + x * z + y * z) + 3 * (a 3 * (x * y * z)) := rfl
theorem rs_sh0 (a : Nat → Int) : rs_sh a 0 = a 0 + a 1 + a 2 + a 3 := rfl
theorem rs_sh1 (a : Nat → Int) : rs_sh a 1 = a 1 + 2 * a 2 + 3 * a 3 := rfl
theorem rs_sh2 (a : Nat → Int) : rs_sh a 2 = a 2 + 3 * a 3 := rfl
theorem rs_sh3 (a : Nat → Int) : rs_sh a 3 = a 3 := rfl
/-- two neighbours that agree in their first z derivatives: same value where enough arguments are the point between them -/
theorem rs_nb1 {a b : Nat → Int} {x y z : Int} (h2 : a 2 = 0) (h3 : a 3 = 0) (k2 : b 2 = 0) (k3 : b 3 = 0) (e0 : rs_sh a 0 = b 0) (e1 : rs_sh a 1 = b 1 ∨ x = 0) : rs_nu 1 a (x + 1) y z = rs_nu 1 b x y z := by
  rw [rs_sh0] at e0
  rw [rs_sh1] at e1
  rw [rs_nu1, rs_nu1]
  rcases e1 with e1 | e1
  · grind
  · grind
theorem rs_nb2 {a b : Nat → Int} {x y z : Int} (h3 : a 3 = 0) (k3 : b 3 = 0) (e0 : rs_sh a 0 = b 0) (e1 : rs_sh a 1 = b 1 ∨ (x = 0 ∧ y = 0)) (e2 : rs_sh a 2 = b 2 ∨ x = 0 ∨ y = 0) : rs_nu 2 a (x + 1) (y + 1) z = rs_nu 2 b x y z := by
  rw [rs_sh0] at e0
  rw [rs_sh1] at e1
  rw [rs_sh2] at e2
  rw [rs_nu2, rs_nu2]
  rcases e2 with e2 | e2 | e2 <;> rcases e1 with e1 | ⟨e1, e1'⟩ <;> subst_vars <;> grind
theorem rs_nb3 {a b : Nat → Int} {x y z : Int} (e0 : rs_sh a 0 = b 0) (e1 : rs_sh a 1 = b 1 ∨ (x = 0 ∧ y = 0 ∧ z = 0)) (e2 : rs_sh a 2 = b 2 ∨ (x = 0 ∧ y = 0) ∨ (x = 0 ∧ z = 0) ∨ (y = 0 ∧ z = 0)) (e3 : rs_sh a 3 = b 3 ∨ x = 0 ∨ y = 0 ∨ z = 0) : rs_nu 3 a (x + 1) (y + 1) (z + 1) = rs_nu 3 b x y z := by
  rw [rs_sh0] at e0
  rw [rs_sh1] at e1
  rw [rs_sh2] at e2
  rw [rs_sh3] at e3
  rw [rs_nu3, rs_nu3]
  have key : 3 * a 0 + a 1 * (x + 1 + (y + 1) + (z + 1)) + a 2 * ((x + 1) * (y + 1) + (x + 1) * (z + 1) + (y + 1) * (z + 1)) + 3 * (a 3 * ((x + 1) * (y + 1) * (z + 1)))
      = 3 * (a 0 + a 1 + a 2 + a 3) + (a 1 + 2 * a 2 + 3 * a 3) * (x + y + z) + (a 2 + 3 * a 3) * (x * y + x * z + y * z) + 3 * (a 3 * (x * y * z)) := by grind
  rw [key, e0]
  have f1 : (a 1 + 2 * a 2 + 3 * a 3) * (x + y + z) = b 1 * (x + y + z) := by
    rcases e1 with e1 | ⟨rfl, rfl, rfl⟩
    · rw [e1]
    · grind
  have f2 : (a 2 + 3 * a 3) * (x * y + x * z + y * z) = b 2 * (x * y + x * z + y * z) := by
    rcases e2 with e2 | ⟨rfl, rfl⟩ | ⟨rfl, rfl⟩ | ⟨rfl, rfl⟩
    · rw [e2]
    · grind
    · grind
    · grind
  have f3 : a 3 * (x * y * z) = b 3 * (x * y * z) := by
    rcases e3 with e3 | rfl | rfl | rfl
    · rw [e3]
    · grind
    · grind
    · grind
  rw [f1, f2, f3]
/-- affine in the first argument, and the arguments may be turned round -/
theorem rs_aff1 (a : Nat → Int) (u v w y z : Int) : (v - w) * rs_nu 1 a u y z = (u - w) * rs_nu 1 a v y z + (v - u) * rs_nu 1 a w y z := by
  rw [rs_nu1, rs_nu1, rs_nu1]; grind
theorem rs_aff2 (a : Nat → Int) (u v w y z : Int) : (v - w) * rs_nu 2 a u y z = (u - w) * rs_nu 2 a v y z + (v - u) * rs_nu 2 a w y z := by
  rw [rs_nu2, rs_nu2, rs_nu2]; grind
theorem rs_aff3 (a : Nat → Int) (u v w y z : Int) : (v - w) * rs_nu 3 a u y z = (u - w) * rs_nu 3 a v y z + (v - u) * rs_nu 3 a w y z := by
  rw [rs_nu3, rs_nu3, rs_nu3]; grind
theorem rs_sw2 (a : Nat → Int) (x y z : Int) : rs_nu 2 a x y z = rs_nu 2 a y x z := by
  rw [rs_nu2, rs_nu2]; grind
theorem rs_sw3 (a : Nat → Int) (x y z : Int) : rs_nu 3 a x y z = rs_nu 3 a y x z := by
  rw [rs_nu3, rs_nu3]; grind
theorem rs_sw3' (a : Nat → Int) (x y z : Int) : rs_nu 3 a x y z = rs_nu 3 a x z y := by
  rw [rs_nu3, rs_nu3]; grind
