/-! The model's finish, straight, thin. -/
theorem rs_cn_s {dn tx : Nat → Nat} {q : Nat} (h : ∀ x, tx x = rs_cn dn x q) : ∀ x, rs_up tx (dn q) (tx (dn q) + 1) x = rs_cn dn x (q + 1) := by
  intro x
  by_cases e : x = dn q
  · subst e
    rw [rs_up_s, h]
    exact (if_pos rfl).symm
  · rw [rs_up_n e, h]
    exact (if_neg (fun z => e z.symm)).symm
theorem rs_cn_z {tx : Nat → Nat} {k : Nat} (h : ∀ x, (x < k ∨ 7 ≤ x) → tx x = 0) : ∀ x, (x < k + 1 ∨ 7 ≤ x) → rs_up tx k 0 x = 0 := by
  intro x hx
  by_cases e : x = k
  · subst e; exact rs_up_s _ _ _
  · rw [rs_up_n e]; exact h x (by omega)
/-- the pieces that are made: those before j -/
def rs_PV (V : Nat → Nat → Nat → Int64) (py : Nat → Int64) (j : Nat) : Prop := ∀ b i f, b < 3 → i < j → f < 4 → py (24 * b + 4 * i + f) = V i b f
theorem rs_PV.up {V : Nat → Nat → Nat → Int64} {pz py : Nat → Int64} {j : Nat} (h : rs_PV V pz j) (hj : j < 6) (z : rs_Z (V j) j pz py 3 0) : rs_PV V py (j + 1) := by
  intro b i f hb hi hf
  by_cases e : i = j
  · subst e
    exact z.1 b f hb hf (Or.inl hb)
  · rw [z.2 _ (fun b' f' hb' hf' => by omega)]
    exact h b i f hb (by omega) hf
def rs_far (pz : Nat → Int64) (how : Int32) (a b ax : Nat) : Int32 := if how = 0 then rs_loc pz ax a + rs_loc pz ax b - nI 2 * rs_loc pz ax ((a + b) / 2) else rs_loc pz ax a - rs_loc pz ax b
abbrev rs_fo (pz : Nat → Int64) (how tol : Int32) (a b ax : Nat) : Prop := rs_far pz how a b ax ≤ tol ∧ -rs_far pz how a b ax ≤ tol
theorem rs_fo_y {P : Nat → Prop} [DecidablePred P] {ax al : Nat} (hal : al = if (∀ x, x < ax → P x) then 1 else 0) (h0 : 0 < al) (h : P ax) : 1 = if (∀ x, x < ax + 1 → P x) then 1 else 0 := by
  by_cases g : ∀ x, x < ax → P x
  · rw [if_pos (lt_s g h)]
  · rw [if_neg g] at hal
    omega
theorem rs_fo_n {P : Nat → Prop} [DecidablePred P] {ax : Nat} (h : ¬ P ax) : 0 = if (∀ x, x < ax + 1 → P x) then 1 else 0 := by
  rw [if_neg (fun g => h (g ax (Nat.lt_succ_self _)))]
theorem rs_fo_z {P : Nat → Prop} [DecidablePred P] {ax al : Nat} (hal : al = if (∀ x, x < ax → P x) then 1 else 0) (h0 : al = 0) : 0 = if (∀ x, x < ax + 1 → P x) then 1 else 0 := by
  by_cases g : ∀ x, x < ax → P x
  · rw [if_pos g] at hal
    omega
  · rw [if_neg (fun z => g (fun x hx => z x (by omega)))]
theorem rs_fo_b {P : Prop} [Decidable P] {al : Nat} (h : al = if P then 1 else 0) : al ≤ 1 := by
  rw [h]
  split <;> omega
def rs_sa (pz : Nat → Int64) (how tol : Int32) (a b ax : Nat) : Nat := if (∀ x, x < ax → rs_fo pz how tol a b x) then 1 else 0
theorem rs_sa_n (pz : Nat → Int64) (how tol : Int32) (a b ax : Nat) : narrow .boolean (.int (nI (rs_sa pz how tol a b ax))) = .int (nI (rs_sa pz how tol a b ax)) := by
  unfold rs_sa
  split <;> decide
