/-! What the class itself computes. -/
abbrev rs_okr (kn kn2 : Nat → Nat) (d n : Nat) (rz : Nat → Nat → Int64) (k : Nat) : Prop :=
  (∀ i, i < n - 1 → 0 < rs_coa (rs_kout kn kn2 (rs_sp kn d (60 * k) (n - (d + 1))) (n + d + 1)) d n rz k 2 i) ∧ rs_ref (rs_kout kn kn2 (rs_sp kn d (60 * k) (n - (d + 1))) (n + d + 1)) d (n - 1) (fun b j => rs_coa (rs_kout kn kn2 (rs_sp kn d (60 * k) (n - (d + 1))) (n + d + 1)) d n rz k b j) n rz k
theorem rs_okr_w {F x : Nat → Nat → Int64} {n : Nat} (h : rs_F F x n 0) : (∀ i, i < n → 0 < F 2 i) ↔ ∀ k, k < n → 0 < x 2 k := by
  constructor
  · intro g i hi
    rw [h.get (by decide) hi]
    exact g i hi
  · intro g i hi
    rw [← h.get (b := 2) (by decide) hi]
    exact g i hi
theorem rs_num_cg {F x : Nat → Nat → Int64} {n ax : Nat} (h : rs_F F x n 0) (ha : ax < 3) (hn : n < 2 ^ 31) (i : Int32) : rs_num x n ax i = rs_num F n ax i := by
  unfold rs_num
  by_cases h1 : i < 0
  · rw [if_pos h1, if_pos h1]
  · rw [if_neg h1, if_neg h1]
    by_cases h2 : nI n ≤ i
    · rw [if_pos h2, if_pos h2]
    · rw [if_neg h2, if_neg h2]
      obtain ⟨a, ha2, rfl⟩ := nI_of h1
      have h3 : a < n := Nat.lt_of_not_le (fun z => h2 ((nI_leI hn ha2).2 z))
      rw [nI_clamp ha2]
      exact h.get ha h3
theorem rs_okr_r {kn : Nat → Nat} {d n nf k : Nat} {F x rf : Nat → Nat → Int64} (h : rs_F F x n 0) (hn : n < 2 ^ 31) : rs_ref kn d n F nf rf k ↔ rs_ref kn d n x nf rf k := by
  constructor
  · intro g i hi ax hax
    rw [g i hi ax hax]
    unfold rs_ble
    rw [rs_num_cg h hax hn, rs_num_cg h hax hn]
  · intro g i hi ax hax
    rw [g i hi ax hax]
    unfold rs_ble
    rw [rs_num_cg h hax hn, rs_num_cg h hax hn]
def rs_kat (kn : Nat → Nat) (d n : Nat) (i : Int32) : Int32 := if 0 < d then if i < 0 then (-1) else if i < nI (n + d + 1) then nI (kn i.toNatClampNeg) else (-1) else (-1)
theorem rs_kat_0 {kn : Nat → Nat} {d n : Nat} {i : Int32} (h : ¬ 0 < d) : (-1) = rs_kat kn d n i := by
  unfold rs_kat
  rw [if_neg h]
theorem rs_kat_1 {kn : Nat → Nat} {d n : Nat} {i : Int32} (h : i < 0) : (-1) = rs_kat kn d n i := by
  unfold rs_kat
  by_cases g : 0 < d
  · rw [if_pos g, if_pos h]
  · rw [if_neg g]
theorem rs_kat_2 {kn : Nat → Nat} {d n : Nat} {i : Int32} (h : ¬ i < nI (n + d + 1)) : (-1) = rs_kat kn d n i := by
  unfold rs_kat
  by_cases g : 0 < d
  · rw [if_pos g]
    by_cases f : i < 0
    · rw [if_pos f]
    · rw [if_neg f, if_neg h]
  · rw [if_neg g]
theorem rs_kat_3 {kn : Nat → Nat} {d n a : Nat} (g : 0 < d) (h : a < n + d + 1) (hs : n + d + 1 < 2 ^ 31) : nI (kn a) = rs_kat kn d n (nI a) := by
  unfold rs_kat
  rw [if_pos g, if_neg (nI_pos (by omega)), if_pos ((nI_ltI (by omega) hs).2 h), nI_clamp (by omega)]
theorem rs_parT {u : Nat} (hu : u ≤ 360) : decide (¬ nI u < 0 ∧ ¬ nI 360 < nI u) = true := decide_eq_true ⟨nI_pos (by omega), fun z => by
  have := (nI_ltI (by omega) (by omega)).1 z
  omega⟩
def rs_vtx (vt : Nat → Nat) (cs : Nat) (i : Int32) : Int32 := if i < 0 then (-1) else if i < nI cs then nI (vt i.toNatClampNeg) else (-1)
theorem rs_vtx_1 {vt : Nat → Nat} {cs : Nat} {i : Int32} (h : i < 0) : (-1) = rs_vtx vt cs i := by
  unfold rs_vtx
  rw [if_pos h]
theorem rs_vtx_2 {vt : Nat → Nat} {cs : Nat} {i : Int32} (h : ¬ i < nI cs) : (-1) = rs_vtx vt cs i := by
  unfold rs_vtx
  by_cases f : i < 0
  · rw [if_pos f]
  · rw [if_neg f, if_neg h]
theorem rs_vtx_3 {vt : Nat → Nat} {cs a : Nat} (h : a < cs) (hs : cs < 2 ^ 31) : nI (vt a) = rs_vtx vt cs (nI a) := by
  unfold rs_vtx
  rw [if_neg (nI_pos (by omega)), if_pos ((nI_ltI (by omega) hs).2 h), nI_clamp (by omega)]
