/-! What the class's Curve computes, as functions: raw longs, natural counters. -/
/-- how often k stands among the inner knots, after j turns -/
def rs_tm (kn : Nat → Nat) (d : Nat) (k : Int32) : Nat → Nat
  | 0 => 0
  | j + 1 => if nI (kn (d + 1 + j)) = k then rs_tm kn d k j + 1 else rs_tm kn d k j
theorem rs_tm_le (kn : Nat → Nat) (d : Nat) (k : Int32) : ∀ j, rs_tm kn d k j ≤ j
  | 0 => Nat.le_refl _
  | j + 1 => by
    have := rs_tm_le kn d k j
    unfold rs_tm
    split <;> omega
/-- the last knot that is not beyond u, after j turns -/
def rs_sp (kn : Nat → Nat) (d u : Nat) : Nat → Nat
  | 0 => d
  | j + 1 => if 60 * kn (d + 1 + j) ≤ u then d + 1 + j else rs_sp kn d u j
theorem rs_sp_le (kn : Nat → Nat) (d u : Nat) : ∀ j, d ≤ rs_sp kn d u j ∧ rs_sp kn d u j ≤ d + j
  | 0 => ⟨Nat.le_refl _, Nat.le_refl _⟩
  | j + 1 => by
    have := rs_sp_le kn d u j
    unfold rs_sp
    split <;> omega
def rs_num (rz : Nat → Nat → Int64) (n ax : Nat) (i : Int32) : Int64 := if i < 0 then 0 else if nI n ≤ i then 0 else rz ax i.toNatClampNeg
def rs_quo (x y : Int64) : Int64 := if y = 0 then 0 else x / y
def rs_ble (kn : Nat → Nat) (d n : Nat) (rz : Nat → Nat → Int64) (ax i k : Nat) : Int64 := lN (k - kn i) * rs_num rz n ax (nI i) + lN (kn (i + d) - k) * rs_num rz n ax (nI i - nI 1)
/-- rows filled: i whole columns, and a places of the next -/
def rs_F (F x : Nat → Nat → Int64) (i a : Nat) : Prop := ∀ b j, b < 3 → (j < i ∨ (j = i ∧ b < a)) → x b j = F b j
theorem rs_F.up {F x : Nat → Nat → Int64} {i a : Nat} (h : rs_F F x i a) {v : Int64} (hv : v = F a i) : rs_F F (rs_upR x a i v) i (a + 1) := by
  intro b j hb hj
  by_cases e : b = a ∧ j = i
  · obtain ⟨rfl, rfl⟩ := e
    rw [rs_upR_s, hv]
  · rw [rs_upR_n e]
    refine h b j hb ?_
    rcases hj with g | ⟨g1, g2⟩
    · exact Or.inl g
    · exact Or.inr ⟨g1, by
        have : b ≠ a := fun z => e ⟨z, g1⟩
        omega⟩
theorem rs_F.next {F x : Nat → Nat → Int64} {i : Nat} (h : rs_F F x i 3) : rs_F F x (i + 1) 0 := by
  intro b j hb hj
  refine h b j hb ?_
  rcases hj with g | ⟨g1, g2⟩
  · by_cases e : j = i
    · exact Or.inr ⟨e, hb⟩
    · exact Or.inl (by omega)
  · exact absurd g2 (Nat.not_lt_zero _)
theorem rs_F.zero {F x : Nat → Nat → Int64} : rs_F F x 0 0 := by
  intro b j _ hj
  rcases hj with g | ⟨_, g⟩
  · exact absurd g (Nat.not_lt_zero _)
  · exact absurd g (Nat.not_lt_zero _)
theorem rs_F.get {F x : Nat → Nat → Int64} {i : Nat} (h : rs_F F x i 0) {b j : Nat} (hb : b < 3) (hj : j < i) : x b j = F b j := h b j hb (Or.inl hj)
/-- the knots with k put in behind the place -/
def rs_kin (kn kn2 : Nat → Nat) (place k tot : Nat) : Nat → Nat := va_cpy kn (rs_up (va_cpy kn kn2 0 0 place) place k) place (place + 1) (tot - place)
/-- the knots with the one at the place left out -/
def rs_kout (kn kn2 : Nat → Nat) (place tot : Nat) : Nat → Nat := va_cpy kn (va_cpy kn kn2 0 0 place) (place + 1) place (tot - place - 1)
/-- insert: the finer rows -/
def rs_fin (kn : Nat → Nat) (d n : Nat) (rz : Nat → Nat → Int64) (k : Nat) : Nat → Nat → Int64 := fun ax i => rs_quo (rs_ble kn d n rz ax i k) (lN (k - kn i + (kn (i + d) - k)))
/-- one number of the coarser rows, from the one before -/
def rs_unb (kn : Nat → Nat) (d nf : Nat) (rf : Nat → Nat → Int64) (prev : Int64) (ax i k : Nat) : Int64 :=
  if k - kn i = 0 then rs_num rf nf ax (nI (i + 1)) else rs_quo (lN (k - kn i + (kn (i + d) - k)) * rs_num rf nf ax (nI i) - lN (kn (i + d) - k) * prev) (lN (k - kn i))
/-- remove: the coarser rows (kn: the coarser knots, nf and rf: the finer curve) -/
def rs_coa (kn : Nat → Nat) (d nf : Nat) (rf : Nat → Nat → Int64) (k ax : Nat) : Nat → Int64
  | 0 => rs_unb kn d nf rf 0 ax 0 k
  | i + 1 => rs_unb kn d nf rf (rs_coa kn d nf rf k ax i) ax (i + 1) k
/-- the finer curve's rows are those of this one with k put in -/
def rs_rq (kn : Nat → Nat) (d n : Nat) (rz : Nat → Nat → Int64) (nf : Nat) (rf : Nat → Nat → Int64) (k i ax : Nat) : Prop := lN (k - kn i + (kn (i + d) - k)) * rs_num rf nf ax (nI i) = rs_ble kn d n rz ax i k
abbrev rs_ref (kn : Nat → Nat) (d n : Nat) (rz : Nat → Nat → Int64) (nf : Nat) (rf : Nat → Nat → Int64) (k : Nat) : Prop :=
  ∀ i, i < nf → ∀ ax, ax < 3 → lN (k - kn i + (kn (i + d) - k)) * rs_num rf nf ax (nI i) = rs_ble kn d n rz ax i k
theorem rs_num_in {rz : Nat → Nat → Int64} {n ax a : Nat} (h : a < n) (hn : n < 2 ^ 31) : rs_num rz n ax (nI a) = rz ax a := by
  unfold rs_num
  rw [if_neg (nI_pos (by omega)), if_neg (fun z => by
    have := (nI_leI hn (by omega)).1 z
    omega), nI_clamp (by omega)]
theorem rs_num_out {rz : Nat → Nat → Int64} {n ax a : Nat} (h : n ≤ a) (ha : a < 2 ^ 31) : rs_num rz n ax (nI a) = 0 := by
  unfold rs_num
  rw [if_neg (nI_pos ha), if_pos ((nI_leI (by omega) ha).2 h)]
theorem rs_num_m1 {rz : Nat → Nat → Int64} {n ax : Nat} : rs_num rz n ax (nI 0 - nI 1) = 0 := by
  unfold rs_num
  rw [if_pos (pk_sneg (by decide) (by decide))]
theorem rs_num_pr {rz : Nat → Nat → Int64} {n ax a : Nat} : rs_num rz n ax (nI (a + 1) - nI 1) = rs_num rz n ax (nI a) := by
  rw [pk_sub (by omega), Nat.add_sub_cancel]
theorem rs_coa_st {kn : Nat → Nat} {d n nc : Nat} {rz rw2 : Nat → Nat → Int64} {k i a : Nat} (hF : rs_F (fun b j => rs_coa kn d n rz k b j) rw2 i a) (ha : a < 3) (hi : i ≤ nc) (hn : nc < 2 ^ 31) : rs_unb kn d n rz (rs_num rw2 nc a (nI i - nI 1)) a i k = rs_coa kn d n rz k a i := by
  cases i with
  | zero => rw [rs_num_m1]; rfl
  | succ i =>
    rw [rs_num_pr, rs_num_in (by omega) hn, hF a i ha (Or.inl (Nat.lt_succ_self _))]
    rfl
theorem rs_cpy_le {f g : Nat → Nat} {sp dp k b : Nat} (hf : ∀ i, f i ≤ b) (hg : ∀ i, g i ≤ b) : ∀ i, va_cpy f g sp dp k i ≤ b := by
  intro i
  unfold va_cpy
  split
  · exact hf _
  · exact hg _
theorem rs_up_le {f : Nat → Nat} {k v b : Nat} (hf : ∀ i, f i ≤ b) (hv : v ≤ b) : ∀ i, rs_up f k v i ≤ b := by
  intro i
  unfold rs_up
  split
  · exact hv
  · exact hf _
theorem rs_kout_le {kn kn2 : Nat → Nat} {place tot : Nat} (h : ∀ i, kn i ≤ 6) (h2 : ∀ i, kn2 i ≤ 6) : ∀ i, rs_kout kn kn2 place tot i ≤ 6 := rs_cpy_le h (rs_cpy_le h h2)
theorem rs_kin_le {kn kn2 : Nat → Nat} {place k tot : Nat} (h : ∀ i, kn i ≤ 6) (h2 : ∀ i, kn2 i ≤ 6) (hk : k ≤ 6) : ∀ i, rs_kin kn kn2 place k tot i ≤ 6 := rs_cpy_le h (rs_up_le (rs_cpy_le h h2) hk)
/-- the blossom's levels -/
def rs_bl (kn : Nat → Nat) (d n : Nat) (rz : Nat → Nat → Int64) (ar : Nat → Nat) (ax r : Nat) : Nat → Nat → Int64
  | 0, j => rs_num rz n ax (nI (r - d + j))
  | v + 1, j => if v + 1 ≤ j then rs_quo ((nI (ar v) - nI (60 * kn (r - d + j))).toInt64 * rs_bl kn d n rz ar ax r v j + (nI (60 * kn (r + j + 1 - (v + 1))) - nI (ar v)).toInt64 * rs_bl kn d n rz ar ax r v (j - 1)) (nI (kn (r + j + 1 - (v + 1))) - nI (kn (r - d + j))).toInt64 else rs_bl kn d n rz ar ax r v j
/-- a distance over a gap -/
def rs_fac (x y : Int32) : Int64 := if y = 0 then 0 else x.toInt64 * (nI 60 / y).toInt64
/-- the basis's levels -/
def rs_bs (kn : Nat → Nat) (d i u r : Nat) : Nat → Nat → Int64
  | 0, j => if i + j = r then 1 else 0
  | v + 1, j => if j + (v + 1) ≤ d then rs_fac (nI u - nI (60 * kn (i + j))) (nI (kn (i + j + (v + 1))) - nI (kn (i + j))) * rs_bs kn d i u r v j + rs_fac (nI (60 * kn (i + j + (v + 1) + 1)) - nI u) (nI (kn (i + j + (v + 1) + 1)) - nI (kn (i + j + 1))) * rs_bs kn d i u r v (j + 1) else rs_bs kn d i u r v j
def rs_p60 (x : Int64) : Nat → Int64
  | 0 => x
  | k + 1 => rs_p60 x k * 60
def rs_abs (x : Int32) : Int32 := if 0 ≤ x then x else 0 - x
theorem rs_w_up {F wk : Nat → Int64} {j : Nat} {x : Int64} (h : ∀ k, k < j → wk k = F k) (hv : x = F j) : ∀ k, k < j + 1 → vp_updL wk j x k = F k := by
  intro k hk
  by_cases e : k = j
  · subst e; rw [pk_uLs, hv]
  · rw [pk_uLn e]; exact h k (by omega)
section RSB
variable {kn : Nat → Nat} {d n : Nat} {rz : Nat → Nat → Int64} {us : Nat → Nat} {ax r v j : Nat} {wk : Nat → Int64}
theorem rs_bl_i0 (hw : ∀ k, k ≤ d → wk k = rs_bl kn d n rz us ax r v k) : ∀ k, k ≤ d → wk k = if d < k then rs_bl kn d n rz us ax r (v + 1) k else rs_bl kn d n rz us ax r v k := by
  intro k hk
  rw [if_neg (by omega)]
  exact hw k hk
theorem rs_bl_nx (hj : j = v) (hw : ∀ k, k ≤ d → wk k = if j < k then rs_bl kn d n rz us ax r (v + 1) k else rs_bl kn d n rz us ax r v k) : ∀ k, k ≤ d → wk k = rs_bl kn d n rz us ax r (v + 1) k := by
  intro k hk
  rw [hw k hk]
  by_cases h : j < k
  · rw [if_pos h]
  · rw [if_neg h]
    have e : rs_bl kn d n rz us ax r (v + 1) k = rs_bl kn d n rz us ax r v k := if_neg (by omega)
    rw [e]
theorem rs_bl_st (hj : v + 1 ≤ j) (hjd : j ≤ d) (hw : ∀ k, k ≤ d → wk k = if j < k then rs_bl kn d n rz us ax r (v + 1) k else rs_bl kn d n rz us ax r v k) :
    ∀ k, k ≤ d → vp_updL wk j (rs_quo ((nI (us v) - nI (60 * kn (r - d + j))).toInt64 * wk j + (nI (60 * kn (r + j + 1 - (v + 1))) - nI (us v)).toInt64 * wk (j - 1)) (nI (kn (r + j + 1 - (v + 1))) - nI (kn (r - d + j))).toInt64) k = if j - 1 < k then rs_bl kn d n rz us ax r (v + 1) k else rs_bl kn d n rz us ax r v k := by
  intro k hk
  by_cases e : k = j
  · subst e
    rw [pk_uLs, if_pos (by omega), hw k hk, if_neg (Nat.lt_irrefl _), hw (k - 1) (by omega), if_neg (by omega)]
    exact (if_pos hj).symm
  · rw [pk_uLn e, hw k hk]
    by_cases h : j < k
    · rw [if_pos h, if_pos (by omega)]
    · rw [if_neg h, if_neg (by omega)]
end RSB
section RSD
variable {kn : Nat → Nat} {d i u r v j : Nat} {wk : Nat → Int64}
theorem rs_bs_i0 (hw : ∀ k, k ≤ d → wk k = rs_bs kn d i u r v k) : ∀ k, k ≤ d → wk k = if k < 0 then rs_bs kn d i u r (v + 1) k else rs_bs kn d i u r v k := by
  intro k hk
  rw [if_neg (Nat.not_lt_zero _)]
  exact hw k hk
theorem rs_bs_nx (hj : j + (v + 1) = d + 1) (hw : ∀ k, k ≤ d → wk k = if k < j then rs_bs kn d i u r (v + 1) k else rs_bs kn d i u r v k) : ∀ k, k ≤ d → wk k = rs_bs kn d i u r (v + 1) k := by
  intro k hk
  rw [hw k hk]
  by_cases h : k < j
  · rw [if_pos h]
  · rw [if_neg h]
    have e : rs_bs kn d i u r (v + 1) k = rs_bs kn d i u r v k := if_neg (by omega)
    rw [e]
theorem rs_bs_st (hj : j + (v + 1) ≤ d) (hw : ∀ k, k ≤ d → wk k = if k < j then rs_bs kn d i u r (v + 1) k else rs_bs kn d i u r v k) :
    ∀ k, k ≤ d → vp_updL wk j (rs_fac (nI u - nI (60 * kn (i + j))) (nI (kn (i + j + (v + 1))) - nI (kn (i + j))) * wk j + rs_fac (nI (60 * kn (i + j + (v + 1) + 1)) - nI u) (nI (kn (i + j + (v + 1) + 1)) - nI (kn (i + j + 1))) * wk (j + 1)) k = if k < j + 1 then rs_bs kn d i u r (v + 1) k else rs_bs kn d i u r v k := by
  intro k hk
  by_cases e : k = j
  · subst e
    rw [pk_uLs, if_pos (Nat.lt_succ_self _), hw k hk, if_neg (Nat.lt_irrefl _), hw (k + 1) (by omega), if_neg (by omega)]
    exact (if_pos hj).symm
  · rw [pk_uLn e, hw k hk]
    by_cases h : k < j
    · rw [if_pos h, if_pos (by omega)]
    · rw [if_neg h, if_neg (by omega)]
end RSD
theorem rs_wN_up {F wk : Nat → Nat} {j x : Nat} (h : ∀ k, k < j → wk k = F k) (hv : x = F j) : ∀ k, k < j + 1 → rs_up wk j x k = F k := by
  intro k hk
  by_cases e : k = j
  · subst e; rw [rs_up_s, hv]
  · rw [rs_up_n e]; exact h k (by omega)
theorem rs_G_up {rz rw2 : Nat → Nat → Int64} {n a i : Nat} (h : ∀ b j, (b < a ∨ (b = a ∧ j < i)) → j < n → rw2 b j = rz b (n - 1 - j)) : ∀ b j, (b < a ∨ (b = a ∧ j < i + 1)) → j < n → rs_upR rw2 a i (rz a (n - 1 - i)) b j = rz b (n - 1 - j) := by
  intro b j hb hj
  by_cases e : b = a ∧ j = i
  · obtain ⟨rfl, rfl⟩ := e
    rw [rs_upR_s]
  · rw [rs_upR_n e]
    refine h b j ?_ hj
    rcases hb with g | ⟨g1, g2⟩
    · exact Or.inl g
    · exact Or.inr ⟨g1, by
        have : j ≠ i := fun z => e ⟨g1, z⟩
        omega⟩
