/-! Small facts of numbers and arrays for the walks. -/
def rs_b (b : Bool) : Int32 := cond b 1 0
theorem rs_nb (b : Bool) : narrow .boolean (.int (rs_b b)) = .int (rs_b b) := by cases b <;> rfl
theorem rs_bz {b : Bool} (h : rs_b b = 0) : b = false := by
  cases b with
  | false => rfl
  | true => exact absurd h (by decide)
theorem rs_bn {b : Bool} (h : ¬ rs_b b = 0) : b = true := by
  cases b with
  | true => rfl
  | false => exact absurd rfl h
theorem rs_bT {P : Prop} [Decidable P] (h : P) : nI 1 = rs_b (decide P) := by rw [decide_eq_true h]; rfl
theorem rs_bF {P : Prop} [Decidable P] (h : ¬ P) : nI 0 = rs_b (decide P) := by rw [decide_eq_false h]; rfl
theorem rs_inc (a k : Nat) : nI a + Int32.ofInt (k : Int) = nI (a + k) := by
  rw [← nI_add]; rfl
theorem rs_dec {a : Nat} (h : 0 < a) : nI a + Int32.ofInt (-1) = nI (a - 1) := by
  obtain ⟨b, rfl⟩ : ∃ b, a = b + 1 := ⟨a - 1, by omega⟩
  rw [Nat.add_sub_cancel]
  exact pk_m1 b
theorem rs_z1 {a : Nat} (ha : a < 2 ^ 31) (h : nI a = 0) : a = 0 := by
  rcases Nat.eq_zero_or_pos a with z | z
  · exact z
  · exact absurd h (nI_ne0 z ha)
theorem rs_z2 {a : Nat} (_ : a < 2 ^ 31) (h : ¬ nI a = 0) : 0 < a := by
  rcases Nat.eq_zero_or_pos a with z | z
  · subst z; exact absurd nI_0 h
  · exact z
theorem rs_z3 {a : Nat} (ha : a < 2 ^ 31) (h : 0 < nI a) : 0 < a := by
  rw [← nI_0] at h
  exact (nI_ltI (by decide) ha).1 h
theorem rs_z4 {a : Nat} (ha : a < 2 ^ 31) (h : ¬ 0 < nI a) : a = 0 := by
  rw [← nI_0] at h
  rcases Nat.eq_zero_or_pos a with z | z
  · exact z
  · exact absurd ((nI_ltI (by decide) ha).2 z) h
theorem rs_z5 {a : Nat} (ha : a < 2 ^ 31) (h : nI a ≤ 0) : a = 0 := by
  rw [← nI_0] at h
  exact Nat.le_zero.mp ((nI_leI ha (by decide)).1 h)
theorem rs_z6 {a : Nat} (ha : a < 2 ^ 31) (h : ¬ nI a ≤ 0) : 0 < a := by
  rcases Nat.eq_zero_or_pos a with z | z
  · subst z; exact absurd (by rw [nI_0]; decide) h
  · exact z
/-- an array of naturals, one place anew -/
def rs_up (f : Nat → Nat) (k v : Nat) : Nat → Nat := fun j => if j = k then v else f j
theorem rs_upI (f : Nat → Nat) (k v : Nat) : upd (fun j => nI (f j)) k (nI v) = fun j => nI (rs_up f k v j) := by
  funext j
  unfold upd rs_up
  by_cases h : j = k
  · rw [if_pos h, if_pos h]
  · rw [if_neg h, if_neg h]
theorem rs_up_s (f : Nat → Nat) (k v : Nat) : rs_up f k v k = v := if_pos rfl
theorem rs_up_n {f : Nat → Nat} {k v j : Nat} (h : j ≠ k) : rs_up f k v j = f j := if_neg h
/-- rows of longs, one place of one row anew -/
def rs_upR (R : Nat → Nat → Int64) (a i : Nat) (x : Int64) : Nat → Nat → Int64 := fun b => cond (Nat.beq b a) (vp_updL (R b) i x) (R b)
theorem rs_upR_s (R : Nat → Nat → Int64) (a i : Nat) (x : Int64) : rs_upR R a i x a i = x := by
  unfold rs_upR
  rw [Nat.beq_refl]
  exact pk_uLs
theorem rs_upR_n {R : Nat → Nat → Int64} {a i b j : Nat} {x : Int64} (h : ¬ (b = a ∧ j = i)) : rs_upR R a i x b j = R b j := by
  unfold rs_upR
  by_cases hb : b = a
  · subst hb
    rw [Nat.beq_refl]
    exact pk_uLn (fun z => h ⟨rfl, z⟩)
  · cases h2 : Nat.beq b a with
    | true => exact absurd (Nat.eq_of_beq_eq_true h2) hb
    | false => rfl
theorem rs_max0 {a b : Nat} (ha : a < 2 ^ 30) (hb : b < 2 ^ 30) : (if nI 0 < nI a - nI b then nI a - nI b else nI 0) = nI (a - b) := by
  by_cases h : b < a
  · rw [pk_sub (Nat.le_of_lt h), if_pos ((nI_ltI (by decide) (by omega)).2 (by omega))]
  · by_cases e : a = b
    · subst e
      rw [pk_sub (Nat.le_refl _), Nat.sub_self, if_neg (fun z => absurd ((nI_ltI (by decide) (by decide)).1 z) (Nat.lt_irrefl _))]
    · have hn : nI a - nI b < 0 := pk_sneg hb (by omega)
      rw [if_neg (fun z => by
        rw [nI_0] at z
        have h1 := Int32.lt_iff_toInt_lt.mp z
        have h2 := Int32.lt_iff_toInt_lt.mp hn
        omega), show a - b = 0 by omega]
theorem rs_cpyI (f g : Nat → Nat) (sp dp k : Nat) : va_cpy (fun j => nI (f j)) (fun j => nI (g j)) sp dp k = fun j => nI (va_cpy f g sp dp k j) := by
  funext j
  unfold va_cpy
  by_cases h : dp ≤ j ∧ j < dp + k
  · rw [if_pos h, if_pos h]
  · rw [if_neg h, if_neg h]
