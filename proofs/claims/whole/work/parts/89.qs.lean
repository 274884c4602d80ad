/-! A piece out of its control numbers: de Boor's steps, in whole numbers. -/
theorem rs_60 {d : Int} (h0 : 0 < d) (h6 : d ≤ 6) : 60 / d * d = 60 := by
  have h : d = 1 ∨ d = 2 ∨ d = 3 ∨ d = 4 ∨ d = 5 ∨ d = 6 := by omega
  rcases h with rfl | rfl | rfl | rfl | rfl | rfl <;> rfl
theorem rs_60p {d : Int} (h0 : 0 < d) : 0 ≤ 60 / d := Int.ediv_nonneg (by decide) (by omega)
def rs_qs (l u X Y s : Int) : Int := 60 / (u - l) * ((s - l) * X + (u - s) * Y)
theorem rs_qs_l {l u : Int} (h0 : l < u) (h6 : u - l ≤ 6) (X Y : Int) : rs_qs l u X Y l = 60 * Y := by
  have h := rs_60 (d := u - l) (by omega) h6
  unfold rs_qs
  rw [Int.sub_self, Int.zero_mul, Int.zero_add, ← Int.mul_assoc, h]
theorem rs_qs_u {l u : Int} (h0 : l < u) (h6 : u - l ≤ 6) (X Y : Int) : rs_qs l u X Y u = 60 * X := by
  have h := rs_60 (d := u - l) (by omega) h6
  unfold rs_qs
  rw [Int.sub_self, Int.zero_mul, Int.add_zero, ← Int.mul_assoc, h]
theorem rs_qs_aff (l u X Y s : Int) : rs_qs l u X Y s = rs_qs l u X Y 0 + s * (rs_qs l u X Y 1 - rs_qs l u X Y 0) := by
  unfold rs_qs
  generalize 60 / (u - l) = A
  grind
theorem rs_qs_ge {l u X Y s m : Int} (h0 : l < u) (h6 : u - l ≤ 6) (h1 : l ≤ s) (h2 : s ≤ u) (hX : m ≤ X) (hY : m ≤ Y) : 60 * m ≤ rs_qs l u X Y s := by
  have h := rs_60 (d := u - l) (by omega) h6
  have hp := rs_60p (d := u - l) (by omega)
  unfold rs_qs
  generalize 60 / (u - l) = A at *
  have e1 := Int.mul_le_mul_of_nonneg_left hX (show 0 ≤ s - l by omega)
  have e2 := Int.mul_le_mul_of_nonneg_left hY (show 0 ≤ u - s by omega)
  have e3 : (u - l) * m ≤ (s - l) * X + (u - s) * Y := by
    have : (u - l) * m = (s - l) * m + (u - s) * m := by grind
    omega
  have e4 := Int.mul_le_mul_of_nonneg_left e3 hp
  rw [← Int.mul_assoc, h] at e4
  exact e4
theorem rs_qs_le {l u X Y s m : Int} (h0 : l < u) (h6 : u - l ≤ 6) (h1 : l ≤ s) (h2 : s ≤ u) (hX : X ≤ m) (hY : Y ≤ m) : rs_qs l u X Y s ≤ 60 * m := by
  have h := rs_60 (d := u - l) (by omega) h6
  have hp := rs_60p (d := u - l) (by omega)
  unfold rs_qs
  generalize 60 / (u - l) = A at *
  have e1 := Int.mul_le_mul_of_nonneg_left hX (show 0 ≤ s - l by omega)
  have e2 := Int.mul_le_mul_of_nonneg_left hY (show 0 ≤ u - s by omega)
  have e3 : (s - l) * X + (u - s) * Y ≤ (u - l) * m := by
    have : (u - l) * m = (s - l) * m + (u - s) * m := by grind
    omega
  have e4 := Int.mul_le_mul_of_nonneg_left e3 hp
  rw [← Int.mul_assoc, h] at e4
  exact e4
/-- two steps: the arguments may be turned round -/
theorem rs_qt {l u l' u' : Int} (h1 : l < u') (h2 : u' - l ≤ 6) (h3 : l' < u) (h4 : u - l' ≤ 6) (c2 c1 c0 s t : Int) : rs_qs l u (rs_qs l u' c2 c1 s) (rs_qs l' u c1 c0 s) t = rs_qs l u (rs_qs l u' c2 c1 t) (rs_qs l' u c1 c0 t) s := by
  have e1 := rs_60 (d := u' - l) (by omega) h2
  have e2 := rs_60 (d := u - l') (by omega) h4
  unfold rs_qs
  generalize 60 / (u' - l) = E at *
  generalize 60 / (u - l') = D at *
  generalize 60 / (u - l) = B at *
  have key : B * ((t - l) * (E * ((s - l) * c2 + (u' - s) * c1)) + (u - t) * (D * ((s - l') * c1 + (u - s) * c0))) - B * ((s - l) * (E * ((t - l) * c2 + (u' - t) * c1)) + (u - s) * (D * ((t - l') * c1 + (u - t) * c0))) = (t - s) * B * c1 * (E * (u' - l) - D * (u - l')) := by grind
  rw [e1, e2, Int.sub_self, Int.mul_zero] at key
  omega
/-- the blossom of a piece; k: the knots against the piece's point, c: the control numbers -/
def rs_fz (g : Nat) (k c : Nat → Int) (s t w : Int) : Int :=
  match g with
  | 1 => rs_qs (k 1) (k 2) (c 1) (c 0) s
  | 2 => rs_qs (k 2) (k 3) (rs_qs (k 2) (k 4) (c 2) (c 1) s) (rs_qs (k 1) (k 3) (c 1) (c 0) s) t
  | _ => rs_qs (k 3) (k 4) (rs_qs (k 3) (k 5) (rs_qs (k 3) (k 6) (c 3) (c 2) s) (rs_qs (k 2) (k 5) (c 2) (c 1) s) t) (rs_qs (k 2) (k 4) (rs_qs (k 2) (k 5) (c 2) (c 1) s) (rs_qs (k 1) (k 4) (c 1) (c 0) s) t) w
theorem rs_fz1 (k c : Nat → Int) (s t w : Int) : rs_fz 1 k c s t w = rs_qs (k 1) (k 2) (c 1) (c 0) s := rfl
theorem rs_fz2 (k c : Nat → Int) (s t w : Int) : rs_fz 2 k c s t w = rs_qs (k 2) (k 3) (rs_qs (k 2) (k 4) (c 2) (c 1) s) (rs_qs (k 1) (k 3) (c 1) (c 0) s) t := rfl
theorem rs_fz3 (k c : Nat → Int) (s t w : Int) : rs_fz 3 k c s t w = rs_qs (k 3) (k 4) (rs_qs (k 3) (k 5) (rs_qs (k 3) (k 6) (c 3) (c 2) s) (rs_qs (k 2) (k 5) (c 2) (c 1) s) t) (rs_qs (k 2) (k 4) (rs_qs (k 2) (k 5) (c 2) (c 1) s) (rs_qs (k 1) (k 4) (c 1) (c 0) s) t) w := rfl
/-- the knots lie on both sides of the piece -/
def rs_kw (g : Nat) (k : Nat → Int) : Prop := (∀ q, q ≤ g → k q ≤ 0) ∧ (∀ q, g < q → 1 ≤ k q) ∧ ∀ p q, p ≤ g → g < q → k q - k p ≤ 6
section RSF
variable {k c : Nat → Int}
theorem rs_fz2_s (hk : rs_kw 2 k) (s t w : Int) : rs_fz 2 k c s t w = rs_fz 2 k c t s w := by
  obtain ⟨h1, h2, h3⟩ := hk
  have a1 := h1 1 (by omega)
  have a2 := h1 2 (by omega)
  have a3 := h2 3 (by omega)
  have a4 := h2 4 (by omega)
  rw [rs_fz2, rs_fz2]
  exact rs_qt (by omega) (h3 2 4 (by omega) (by omega)) (by omega) (h3 1 3 (by omega) (by omega)) _ _ _ _ _
theorem rs_fz3_s (hk : rs_kw 3 k) (s t w : Int) : rs_fz 3 k c s t w = rs_fz 3 k c t s w := by
  obtain ⟨h1, h2, h3⟩ := hk
  have a1 := h1 1 (by omega)
  have a2 := h1 2 (by omega)
  have a3 := h1 3 (by omega)
  have a4 := h2 4 (by omega)
  have a5 := h2 5 (by omega)
  have a6 := h2 6 (by omega)
  rw [rs_fz3, rs_fz3, rs_qt (l := k 3) (u := k 5) (l' := k 2) (u' := k 6) (by omega) (h3 3 6 (by omega) (by omega)) (by omega) (h3 2 5 (by omega) (by omega)), rs_qt (l := k 2) (u := k 4) (l' := k 1) (u' := k 5) (by omega) (h3 2 5 (by omega) (by omega)) (by omega) (h3 1 4 (by omega) (by omega))]
theorem rs_fz3_t (hk : rs_kw 3 k) (s t w : Int) : rs_fz 3 k c s t w = rs_fz 3 k c s w t := by
  obtain ⟨h1, h2, h3⟩ := hk
  have a2 := h1 2 (by omega)
  have a3 := h1 3 (by omega)
  have a4 := h2 4 (by omega)
  have a5 := h2 5 (by omega)
  rw [rs_fz3, rs_fz3, rs_qt (l := k 3) (u := k 4) (l' := k 2) (u' := k 5) (by omega) (h3 3 5 (by omega) (by omega)) (by omega) (h3 2 4 (by omega) (by omega))]
/-- the blossom's numbers -/
def rs_fb (g : Nat) (k c : Nat → Int) (e : Nat) : Int :=
  match e with
  | 0 => rs_fz g k c 0 0 0
  | 1 => rs_fz g k c 1 0 0 - rs_fz g k c 0 0 0
  | 2 => rs_fz g k c 1 1 0 - 2 * rs_fz g k c 1 0 0 + rs_fz g k c 0 0 0
  | _ => rs_fz g k c 1 1 1 - 3 * rs_fz g k c 1 1 0 + 3 * rs_fz g k c 1 0 0 - rs_fz g k c 0 0 0
theorem rs_fb0 (g : Nat) (k c : Nat → Int) : rs_fb g k c 0 = rs_fz g k c 0 0 0 := rfl
theorem rs_fb1 (g : Nat) (k c : Nat → Int) : rs_fb g k c 1 = rs_fz g k c 1 0 0 - rs_fz g k c 0 0 0 := rfl
theorem rs_fb2 (g : Nat) (k c : Nat → Int) : rs_fb g k c 2 = rs_fz g k c 1 1 0 - 2 * rs_fz g k c 1 0 0 + rs_fz g k c 0 0 0 := rfl
theorem rs_fb3 (g : Nat) (k c : Nat → Int) : rs_fb g k c 3 = rs_fz g k c 1 1 1 - 3 * rs_fz g k c 1 1 0 + 3 * rs_fz g k c 1 0 0 - rs_fz g k c 0 0 0 := rfl
theorem rs_bu1 (b : Nat → Int) (x y z : Int) : rs_bu 1 b x y z = b 0 + b 1 * x := rfl
theorem rs_bu2 (b : Nat → Int) (x y z : Int) : rs_bu 2 b x y z = b 0 + b 1 * (x + y) + b 2 * (x * y) := rfl
theorem rs_bu3 (b : Nat → Int) (x y z : Int) : rs_bu 3 b x y z = b 0 + b 1 * (x + y + z) + b 2 * (x * y + x * z + y * z) + b 3 * (x * y * z) := rfl
theorem rs_fz_bu1 (x y z : Int) : rs_fz 1 k c x y z = rs_bu 1 (rs_fb 1 k c) x y z := by
  rw [rs_bu1, rs_fb0, rs_fb1, rs_fz1, rs_fz1, rs_fz1, rs_qs_aff]
  grind
theorem rs_fz_bu2 (hk : rs_kw 2 k) (x y z : Int) : rs_fz 2 k c x y z = rs_bu 2 (rs_fb 2 k c) x y z := by
  have A : ∀ s t, rs_fz 2 k c s t z = rs_fz 2 k c s 0 z + t * (rs_fz 2 k c s 1 z - rs_fz 2 k c s 0 z) := fun s t => by
    rw [rs_fz2, rs_fz2, rs_fz2]
    exact rs_qs_aff _ _ _ _ _
  have Z : ∀ s t, rs_fz 2 k c s t 0 = rs_fz 2 k c s t z := fun s t => rfl
  rw [rs_bu2, rs_fb0, rs_fb1, rs_fb2, Z, Z, Z, A x y, rs_fz2_s hk x 0, rs_fz2_s hk x 1, A 0 x, A 1 x, rs_fz2_s hk 0 1]
  grind
theorem rs_fz_bu3 (hk : rs_kw 3 k) (x y z : Int) : rs_fz 3 k c x y z = rs_bu 3 (rs_fb 3 k c) x y z := by
  have A : ∀ s t w, rs_fz 3 k c s t w = rs_fz 3 k c s t 0 + w * (rs_fz 3 k c s t 1 - rs_fz 3 k c s t 0) := fun s t w => by
    rw [rs_fz3, rs_fz3, rs_fz3]
    exact rs_qs_aff _ _ _ _ _
  have B : ∀ s t w, rs_fz 3 k c s t w = rs_fz 3 k c s 0 w + t * (rs_fz 3 k c s 1 w - rs_fz 3 k c s 0 w) := fun s t w => by
    rw [rs_fz3_t hk s t w, A s w t, rs_fz3_t hk s w 0, rs_fz3_t hk s w 1]
  have C : ∀ s t w, rs_fz 3 k c s t w = rs_fz 3 k c 0 t w + s * (rs_fz 3 k c 1 t w - rs_fz 3 k c 0 t w) := fun s t w => by
    rw [rs_fz3_s hk s t w, B t s w, rs_fz3_s hk t 0 w, rs_fz3_s hk t 1 w]
  have e1 : rs_fz 3 k c 0 1 0 = rs_fz 3 k c 1 0 0 := rs_fz3_s hk 0 1 0
  have e2 : rs_fz 3 k c 0 0 1 = rs_fz 3 k c 1 0 0 := by rw [rs_fz3_t hk, e1]
  have e3 : rs_fz 3 k c 1 0 1 = rs_fz 3 k c 1 1 0 := rs_fz3_t hk 1 0 1
  have e4 : rs_fz 3 k c 0 1 1 = rs_fz 3 k c 1 1 0 := by rw [rs_fz3_s hk, e3]
  rw [rs_bu3, rs_fb0, rs_fb1, rs_fb2, rs_fb3, A x y z, B x y 0, B x y 1, C x 0 0, C x 0 1, C x 1 0, C x 1 1, e1, e2, e3, e4]
  generalize rs_fz 3 k c 0 0 0 = F0
  generalize rs_fz 3 k c 1 0 0 = F1
  generalize rs_fz 3 k c 1 1 0 = F2
  generalize rs_fz 3 k c 1 1 1 = F3
  grind
theorem rs_fz_bu {g : Nat} (hg : 1 ≤ g) (hg3 : g ≤ 3) (hk : rs_kw g k) (x y z : Int) : rs_fz g k c x y z = rs_bu g (rs_fb g k c) x y z := by
  have h : g = 1 ∨ g = 2 ∨ g = 3 := by omega
  rcases h with rfl | rfl | rfl
  · exact rs_fz_bu1 x y z
  · exact rs_fz_bu2 hk x y z
  · exact rs_fz_bu3 hk x y z
/-- the control numbers come back -/
theorem rs_fz_c {g : Nat} (hg : 1 ≤ g) (hg3 : g ≤ 3) (hk : rs_kw g k) : ∀ i, i ≤ g → rs_fz g k c (k (i + 1)) (k (i + 2)) (k (i + 3)) = 60 ^ g * c i := by
  intro i hi
  have h : g = 1 ∨ g = 2 ∨ g = 3 := by omega
  rcases h with rfl | rfl | rfl
  · obtain ⟨h1, h2, h3⟩ := hk
    have a1 := h1 1 (by omega)
    have a2 := h2 2 (by omega)
    have hh := h3 1 2 (by omega) (by omega)
    have h : i = 0 ∨ i = 1 := by omega
    rcases h with rfl | rfl
    · rw [rs_fz1, rs_qs_l (by omega) hh]; rfl
    · rw [rs_fz1, rs_qs_u (by omega) hh]; rfl
  · have hs := rs_fz2_s (c := c) hk
    obtain ⟨h1, h2, h3⟩ := hk
    have a1 := h1 1 (by omega)
    have a2 := h1 2 (by omega)
    have a3 := h2 3 (by omega)
    have a4 := h2 4 (by omega)
    have b13 := h3 1 3 (by omega) (by omega)
    have b23 := h3 2 3 (by omega) (by omega)
    have b24 := h3 2 4 (by omega) (by omega)
    have h : i = 0 ∨ i = 1 ∨ i = 2 := by omega
    rcases h with rfl | rfl | rfl
    · show rs_fz 2 k c (k 1) (k 2) (k 3) = _
      rw [rs_fz2, rs_qs_l (by omega) b23, rs_qs_l (by omega) b13]; omega
    · show rs_fz 2 k c (k 2) (k 3) (k 4) = _
      rw [hs, rs_fz2, rs_qs_l (by omega) b23, rs_qs_u (by omega) b13]; omega
    · show rs_fz 2 k c (k 3) (k 4) (k 5) = _
      rw [hs, rs_fz2, rs_qs_u (by omega) b23, rs_qs_u (by omega) b24]; omega
  · have hs := rs_fz3_s (c := c) hk
    have ht := rs_fz3_t (c := c) hk
    obtain ⟨h1, h2, h3⟩ := hk
    have a1 := h1 1 (by omega)
    have a2 := h1 2 (by omega)
    have a3 := h1 3 (by omega)
    have a4 := h2 4 (by omega)
    have a5 := h2 5 (by omega)
    have a6 := h2 6 (by omega)
    have b14 := h3 1 4 (by omega) (by omega)
    have b24 := h3 2 4 (by omega) (by omega)
    have b25 := h3 2 5 (by omega) (by omega)
    have b34 := h3 3 4 (by omega) (by omega)
    have b35 := h3 3 5 (by omega) (by omega)
    have b36 := h3 3 6 (by omega) (by omega)
    have h : i = 0 ∨ i = 1 ∨ i = 2 ∨ i = 3 := by omega
    rcases h with rfl | rfl | rfl | rfl
    · show rs_fz 3 k c (k 1) (k 2) (k 3) = _
      rw [rs_fz3, rs_qs_l (by omega) b34, rs_qs_l (by omega) b24, rs_qs_l (by omega) b14]; omega
    · show rs_fz 3 k c (k 2) (k 3) (k 4) = _
      rw [ht, hs, rs_fz3, rs_qs_l (by omega) b34, rs_qs_l (by omega) b24, rs_qs_u (by omega) b14]; omega
    · show rs_fz 3 k c (k 3) (k 4) (k 5) = _
      rw [hs, ht, hs, rs_fz3, rs_qs_l (by omega) b34, rs_qs_u (by omega) b24, rs_qs_u (by omega) b25]; omega
    · show rs_fz 3 k c (k 4) (k 5) (k 6) = _
      rw [hs, ht, hs, rs_fz3, rs_qs_u (by omega) b34, rs_qs_u (by omega) b35, rs_qs_u (by omega) b36]; omega
/-- between the knots the blossom is a mean -/
theorem rs_fz_m {g : Nat} (hg : 1 ≤ g) (hg3 : g ≤ 3) (hk : rs_kw g k) {m M : Int} (hc : ∀ i, i ≤ g → m ≤ c i ∧ c i ≤ M) {s t w : Int} (hs : 0 ≤ s ∧ s ≤ 1) (ht : 0 ≤ t ∧ t ≤ 1) (hw : 0 ≤ w ∧ w ≤ 1) : 60 ^ g * m ≤ rs_fz g k c s t w ∧ rs_fz g k c s t w ≤ 60 ^ g * M := by
  obtain ⟨h1, h2, h3⟩ := hk
  have Q : ∀ p q X Y s m M, p ≤ g → g < q → 0 ≤ s ∧ s ≤ 1 → m ≤ X ∧ X ≤ M → m ≤ Y ∧ Y ≤ M → 60 * m ≤ rs_qs (k p) (k q) X Y s ∧ rs_qs (k p) (k q) X Y s ≤ 60 * M := fun p q X Y s m M hp hq hs hX hY => by
    have a1 := h1 p hp
    have a2 := h2 q hq
    have a3 := h3 p q hp hq
    exact ⟨rs_qs_ge (by omega) a3 (by omega) (by omega) hX.1 hY.1, rs_qs_le (by omega) a3 (by omega) (by omega) hX.2 hY.2⟩
  have h : g = 1 ∨ g = 2 ∨ g = 3 := by omega
  rcases h with rfl | rfl | rfl
  · have := Q 1 2 _ _ s _ _ (by omega) (by omega) hs (hc 1 (by omega)) (hc 0 (by omega))
    rw [rs_fz1]
    omega
  · have x1 := Q 2 4 _ _ s _ _ (by omega) (by omega) hs (hc 2 (by omega)) (hc 1 (by omega))
    have x0 := Q 1 3 _ _ s _ _ (by omega) (by omega) hs (hc 1 (by omega)) (hc 0 (by omega))
    have := Q 2 3 _ _ t _ _ (by omega) (by omega) ht x1 x0
    rw [rs_fz2]
    omega
  · have x2 := Q 3 6 _ _ s _ _ (by omega) (by omega) hs (hc 3 (by omega)) (hc 2 (by omega))
    have x1 := Q 2 5 _ _ s _ _ (by omega) (by omega) hs (hc 2 (by omega)) (hc 1 (by omega))
    have x0 := Q 1 4 _ _ s _ _ (by omega) (by omega) hs (hc 1 (by omega)) (hc 0 (by omega))
    have y1 := Q 3 5 _ _ t _ _ (by omega) (by omega) ht x2 x1
    have y0 := Q 2 4 _ _ t _ _ (by omega) (by omega) ht x1 x0
    have := Q 3 4 _ _ w _ _ (by omega) (by omega) hw y1 y0
    rw [rs_fz3]
    omega
end RSF
