/-! Blossoms themselves, whole by what divides the coefficients; arguments in sixtieths; de Boor's levels. -/
/-- what divides the coefficients of a piece of degree g -/
def rs_dv (g : Nat) (a : Nat → Int) : Prop := (3 ∣ a 1 ∧ 3 ∣ a 2) ∧ (g ≤ 2 → 2 ∣ a 1)
def rs_al (g : Nat) (a : Nat → Int) (d : Nat) : Int :=
  match g, d with
  | 2, 1 => a 1 / 2
  | 3, 1 => a 1 / 3
  | 3, 2 => a 2 / 3
  | _, d => a d
/-- the blossom -/
def rs_bu (g : Nat) (b : Nat → Int) (x y z : Int) : Int :=
  match g with
  | 1 => b 0 + b 1 * x
  | 2 => b 0 + b 1 * (x + y) + b 2 * (x * y)
  | _ => b 0 + b 1 * (x + y + z) + b 2 * (x * y + x * z + y * z) + b 3 * (x * y * z)
theorem rs_nu_bu {g : Nat} {a : Nat → Int} (hg : 1 ≤ g) (hg3 : g ≤ 3) (hv : rs_dv g a) (x y z : Int) : rs_nu g a x y z = g * rs_bu g (rs_al g a) x y z := by
  obtain ⟨⟨h1, h2⟩, h3⟩ := hv
  have hgc : g = 1 ∨ g = 2 ∨ g = 3 := by omega
  rcases hgc with rfl | rfl | rfl
  · show a 0 + a 1 * x = ((1 : Nat) : Int) * (a 0 + a 1 * x)
    grind
  · show 2 * a 0 + a 1 * (x + y) + 2 * (a 2 * (x * y)) = ((2 : Nat) : Int) * (a 0 + a 1 / 2 * (x + y) + a 2 * (x * y))
    have e : a 1 = 2 * (a 1 / 2) := (Int.mul_ediv_cancel' (h3 (by omega))).symm
    generalize a 1 / 2 = c at *
    grind
  · show 3 * a 0 + a 1 * (x + y + z) + a 2 * (x * y + x * z + y * z) + 3 * (a 3 * (x * y * z)) = ((3 : Nat) : Int) * (a 0 + a 1 / 3 * (x + y + z) + a 2 / 3 * (x * y + x * z + y * z) + a 3 * (x * y * z))
    have e1 : a 1 = 3 * (a 1 / 3) := (Int.mul_ediv_cancel' h1).symm
    have e2 : a 2 = 3 * (a 2 / 3) := (Int.mul_ediv_cancel' h2).symm
    generalize a 1 / 3 = c at *
    generalize a 2 / 3 = f at *
    grind
/-- the blossom with scaled arguments -/
def rs_bh (g : Nat) (b : Nat → Int) (h1 x h2 y h3 z : Int) : Int :=
  match g with
  | 1 => b 0 * h1 + b 1 * x
  | 2 => b 0 * (h1 * h2) + b 1 * (x * h2 + h1 * y) + b 2 * (x * y)
  | _ => b 0 * (h1 * h2 * h3) + b 1 * (x * h2 * h3 + h1 * y * h3 + h1 * h2 * z) + b 2 * (x * y * h3 + x * h2 * z + h1 * y * z) + b 3 * (x * y * z)
theorem rs_bh1 (b : Nat → Int) (h1 x h2 y h3 z : Int) : rs_bh 1 b h1 x h2 y h3 z = b 0 * h1 + b 1 * x := rfl
theorem rs_bh2 (b : Nat → Int) (h1 x h2 y h3 z : Int) : rs_bh 2 b h1 x h2 y h3 z = b 0 * (h1 * h2) + b 1 * (x * h2 + h1 * y) + b 2 * (x * y) := rfl
theorem rs_bh3 (b : Nat → Int) (h1 x h2 y h3 z : Int) : rs_bh 3 b h1 x h2 y h3 z = b 0 * (h1 * h2 * h3) + b 1 * (x * h2 * h3 + h1 * y * h3 + h1 * h2 * z) + b 2 * (x * y * h3 + x * h2 * z + h1 * y * z) + b 3 * (x * y * z) := rfl
theorem rs_bh_1 {g : Nat} (hg : 1 ≤ g) (hg3 : g ≤ 3) (b : Nat → Int) (x y z : Int) : rs_bh g b 1 x 1 y 1 z = rs_bu g b x y z := by
  have hgc : g = 1 ∨ g = 2 ∨ g = 3 := by omega
  rcases hgc with rfl | rfl | rfl
  · show b 0 * 1 + b 1 * x = b 0 + b 1 * x
    grind
  · show b 0 * (1 * 1) + b 1 * (x * 1 + 1 * y) + b 2 * (x * y) = b 0 + b 1 * (x + y) + b 2 * (x * y)
    grind
  · show b 0 * (1 * 1 * 1) + b 1 * (x * 1 * 1 + 1 * y * 1 + 1 * 1 * z) + b 2 * (x * y * 1 + x * 1 * z + 1 * y * z) + b 3 * (x * y * z) = b 0 + b 1 * (x + y + z) + b 2 * (x * y + x * z + y * z) + b 3 * (x * y * z)
    grind
