/-! More of what the model computes. -/
theorem rs_kat_4 {kn : Nat → Nat} {d n : Nat} {i : Int32} (h : ¬ i ≤ nI (n + d)) (hs : n + d + 1 < 2 ^ 31) : (-1) = rs_kat kn d n i := by
  by_cases f : i < 0
  · exact rs_kat_1 f
  · refine rs_kat_2 (fun z => h ?_)
    obtain ⟨a, ha, rfl⟩ := nI_of f
    have := (nI_ltI ha hs).1 z
    exact (nI_leI ha (by omega)).2 (by omega)
/-- the piece of a parameter -/
def rs_lj (u : Nat) : Nat := if u = 360 then 5 else u / 60
theorem rs_lj_le {u : Nat} (h : u ≤ 360) : rs_lj u ≤ 5 ∧ 60 * rs_lj u ≤ u ∧ u - 60 * rs_lj u ≤ 60 := by
  unfold rs_lj
  split <;> omega
def rs_loc (pz : Nat → Int64) (ax u : Nat) : Int32 :=
  if 1000 * rs_pa pz ax (rs_lj u) (lN (u - 60 * rs_lj u)) / rs_pa pz 2 (rs_lj u) (lN (u - 60 * rs_lj u)) * rs_pa pz 2 (rs_lj u) (lN (u - 60 * rs_lj u)) ≤ 1000 * rs_pa pz ax (rs_lj u) (lN (u - 60 * rs_lj u))
  then (1000 * rs_pa pz ax (rs_lj u) (lN (u - 60 * rs_lj u)) / rs_pa pz 2 (rs_lj u) (lN (u - 60 * rs_lj u))).toInt32
  else (1000 * rs_pa pz ax (rs_lj u) (lN (u - 60 * rs_lj u)) / rs_pa pz 2 (rs_lj u) (lN (u - 60 * rs_lj u)) - 1).toInt32
def rs_dra (dx dy dw : Nat → Int32) (i ax : Nat) : Int64 := if ax = 0 then (dx i).toInt64 * (dw i).toInt64 else if ax = 1 then (dy i).toInt64 * (dw i).toInt64 else (dw i).toInt64
/-- elevate: the times, k - 1 turns -/
def rs_elk (tm : Nat → Nat) (k : Nat) : Nat → Nat := fun j => if 1 ≤ j ∧ j < k then (if tm j = 0 then 0 else tm j + 1) else tm j
theorem rs_elk_1 (tm : Nat → Nat) : tm = rs_elk tm 1 := by
  funext j
  unfold rs_elk
  rw [if_neg (by omega)]
theorem rs_elk_at (tm : Nat → Nat) (k : Nat) : rs_elk tm k k = tm k := by
  unfold rs_elk
  rw [if_neg (by omega)]
theorem rs_elk_s (tm : Nat → Nat) {k : Nat} (h : 1 ≤ k) : rs_elk tm (k + 1) = rs_up (rs_elk tm k) k (if rs_elk tm k k = 0 then 0 else rs_elk tm k k + 1) := by
  funext j
  rw [rs_elk_at]
  by_cases e : j = k
  · subst e
    rw [rs_up_s]
    unfold rs_elk
    rw [if_pos (by omega)]
  · rw [rs_up_n e]
    unfold rs_elk
    by_cases g : 1 ≤ j ∧ j < k
    · rw [if_pos g, if_pos (by omega)]
    · rw [if_neg g, if_neg (by omega)]
/-- decompose: the times, k - 1 turns, and how many were put in -/
def rs_dck (g : Nat) (tm : Nat → Nat) (k : Nat) : Nat → Nat := fun j => if 1 ≤ j ∧ j < k ∧ 0 < tm j then g else tm j
def rs_dcs (g : Nat) (tm : Nat → Nat) : Nat → Nat
  | 0 => 0
  | k + 1 => if 0 < tm (k + 1) then rs_dcs g tm k + g - tm (k + 1) else rs_dcs g tm k
theorem rs_dck_1 (g : Nat) (tm : Nat → Nat) : tm = rs_dck g tm 1 := by
  funext j
  unfold rs_dck
  rw [if_neg (by omega)]
theorem rs_dck_at (g : Nat) (tm : Nat → Nat) (k : Nat) : rs_dck g tm k k = tm k := by
  unfold rs_dck
  rw [if_neg (by omega)]
theorem rs_dck_p (g : Nat) (tm : Nat → Nat) {k : Nat} (h : 1 ≤ k) (h0 : 0 < tm k) : rs_dck g tm (k + 1) = rs_up (rs_dck g tm k) k g := by
  funext j
  by_cases e : j = k
  · subst e
    rw [rs_up_s]
    unfold rs_dck
    rw [if_pos ⟨h, by omega, h0⟩]
  · rw [rs_up_n e]
    unfold rs_dck
    by_cases f : 1 ≤ j ∧ j < k ∧ 0 < tm j
    · rw [if_pos f, if_pos ⟨f.1, by omega, f.2.2⟩]
    · rw [if_neg f, if_neg (fun z => f ⟨z.1, by omega, z.2.2⟩)]
theorem rs_dck_z (g : Nat) (tm : Nat → Nat) {k : Nat} (h0 : tm k = 0) : rs_dck g tm (k + 1) = rs_dck g tm k := by
  funext j
  unfold rs_dck
  by_cases e : j = k
  · subst e
    rw [if_neg (by omega), if_neg (by omega)]
  · by_cases f : 1 ≤ j ∧ j < k ∧ 0 < tm j
    · rw [if_pos f, if_pos ⟨f.1, by omega, f.2.2⟩]
    · rw [if_neg f, if_neg (fun z => f ⟨z.1, by omega, z.2.2⟩)]
theorem rs_dcs_b (g : Nat) (tm : Nat → Nat) (hg : g ≤ 3) : ∀ k, rs_dcs g tm k ≤ 3 * k
  | 0 => Nat.le_refl _
  | k + 1 => by
    have := rs_dcs_b g tm hg k
    unfold rs_dcs
    split <;> omega
theorem rs_up_up (f : Nat → Nat) (k a b : Nat) : rs_up (rs_up f k a) k b = rs_up f k b := by
  funext j
  by_cases e : j = k
  · subst e; rw [rs_up_s, rs_up_s]
  · rw [rs_up_n e, rs_up_n e, rs_up_n e]
theorem rs_up_id {f : Nat → Nat} {k v : Nat} (h : v = f k) : rs_up f k v = f := by
  funext j
  by_cases e : j = k
  · subst e; rw [rs_up_s, h]
  · rw [rs_up_n e]
theorem rs_ds_cg {tk tv : Nat → Nat} {i g : Nat} (h : ∀ x, x ≤ i + g → tk x = tv x) : ∀ v, v < g → rs_ds tk i v = rs_ds tv i v := by
  intro v hv
  unfold rs_ds
  rw [h _ (by omega), h _ (by omega)]
theorem rs_e_cg {s t : Nat → Int64} {g : Nat} (h : ∀ v, v < g → s v = t v) : ∀ v, v ≤ g → rs_e1 s v = rs_e1 t v ∧ rs_e2 s v = rs_e2 t v ∧ rs_e3 s v = rs_e3 t v
  | 0, _ => ⟨rfl, rfl, rfl⟩
  | v + 1, hv => by
    obtain ⟨a, b, c⟩ := rs_e_cg h v (by omega)
    have e := h v (by omega)
    refine ⟨?_, ?_, ?_⟩
    · show rs_e1 s v + s v = rs_e1 t v + t v
      rw [a, e]
    · show rs_e2 s v + rs_e1 s v * s v = rs_e2 t v + rs_e1 t v * t v
      rw [a, b, e]
    · show rs_e3 s v + rs_e2 s v * s v = rs_e3 t v + rs_e2 t v * t v
      rw [b, c, e]
theorem rs_co_cg {pz : Nat → Int64} {tk tv : Nat → Nat} {g i : Nat} (h : ∀ x, x ≤ i + g → tk x = tv x) (ax : Nat) : rs_co pz tk g i ax = rs_co pz tv g i ax := by
  obtain ⟨a, b, c⟩ := rs_e_cg (rs_ds_cg h) g (Nat.le_refl _)
  have e := h i (by omega)
  unfold rs_co
  rw [a, b, c, e]
/-- remove is granted -/
abbrev rs_okd (pz : Nat → Int64) (g : Nat) (tm : Nat → Nat) (k : Nat) : Prop := rs_smo pz k (g - tm k + 2) ∧ ∀ i, i < rs_cu g (rs_up tm k (tm k - 1)) 6 → 0 < rs_co pz (rs_val (rs_cu g (rs_up tm k (tm k - 1)))) g i 2
