/-! The model's polynomials. -/
def rs_dm (c : Nat) : Int32 := nI c - nI 1
theorem rs_dm_s (d : Nat) : rs_dm (d + 1) = nI d := by
  unfold rs_dm
  rw [pk_sub (by omega), Nat.add_sub_cancel]
theorem rs_dm_i (d : Nat) : nI d + Int32.ofInt (-1) = rs_dm d := by
  unfold rs_dm
  rw [Int32.sub_eq_add_neg]
  rfl
theorem rs_dm_n : rs_dm 0 < 0 := pk_sneg (by decide) (by decide)
theorem rs_dm_p {c : Nat} (h : ¬ rs_dm c < 0) : 0 < c := by
  rcases Nat.eq_zero_or_pos c with z | z
  · subst z; exact absurd rs_dm_n h
  · exact z
theorem rs_dm_z {c : Nat} (hc : c ≤ 4) (h : rs_dm c < 0) : c = 0 := by
  rcases Nat.eq_zero_or_pos c with z | z
  · exact z
  · obtain ⟨b, rfl⟩ : ∃ b, c = b + 1 := ⟨c - 1, by omega⟩
    rw [rs_dm_s] at h
    exact absurd h (nI_pos (by omega))
def rs_lo (po : Nat → Int64) (b d : Nat) : Int64 := if d = 0 then 0 else po (b + d - 1)
def rs_mx (po : Nat → Int64) (fa fb up dn : Int64) (i d : Nat) : Int64 := fa * (up * po (4 * i + d) + rs_lo po (4 * i) d) + fb * (dn * po (4 * i + 4 + d) - rs_lo po (4 * i + 4) d)
theorem rs_mx_cg {po px : Nat → Int64} {fa fb up dn : Int64} {i d : Nat} (hd : d < 4) (h : ∀ y, 4 * i ≤ y → y < 4 * i + 8 → px y = po y) : rs_mx px fa fb up dn i d = rs_mx po fa fb up dn i d := by
  unfold rs_mx rs_lo
  rw [h (4 * i + d) (by omega) (by omega), h (4 * i + 4 + d) (by omega) (by omega)]
  by_cases e : d = 0
  · rw [if_pos e, if_pos e, if_pos e, if_pos e]
  · rw [if_neg e, if_neg e, if_neg e, if_neg e, h (4 * i + d - 1) (by omega) (by omega), h (4 * i + 4 + d - 1) (by omega) (by omega)]
theorem rs_mx_s {po px : Nat → Int64} {fa fb up dn la lb : Int64} {i d : Nat} (hd : d < 4) (hla : la = rs_lo px (4 * i) d) (hlb : lb = rs_lo px (4 * i + 4) d) (hm : ∀ e, d + 1 ≤ e → e < 4 → px (4 * i + e) = rs_mx po fa fb up dn i e) (hk : ∀ y, (y < 4 * i + (d + 1) ∨ 4 * i + 4 ≤ y) → px y = po y) :
    (∀ e, d ≤ e → e < 4 → vp_updL px (4 * i + d) (fa * (up * px (4 * i + d) + la) + fb * (dn * px (4 * i + 4 + d) - lb)) (4 * i + e) = rs_mx po fa fb up dn i e) ∧ ∀ y, (y < 4 * i + d ∨ 4 * i + 4 ≤ y) → vp_updL px (4 * i + d) (fa * (up * px (4 * i + d) + la) + fb * (dn * px (4 * i + 4 + d) - lb)) y = po y := by
  refine ⟨fun e h1 h2 => ?_, fun y hy => ?_⟩
  · by_cases e0 : e = d
    · subst e0
      rw [pk_uLs, hla, hlb]
      unfold rs_mx rs_lo
      rw [hk (4 * i + e) (by omega), hk (4 * i + 4 + e) (by omega)]
      by_cases z : e = 0
      · rw [if_pos z, if_pos z, if_pos z, if_pos z]
      · rw [if_neg z, if_neg z, if_neg z, if_neg z, hk (4 * i + e - 1) (by omega), hk (4 * i + 4 + e - 1) (by omega)]
    · rw [pk_uLn (by omega)]
      exact hm e (by omega) h2
  · rw [pk_uLn (by omega)]
    exact hk y (by omega)
/-- the factors of the piece j at the place i, level q -/
def rs_fA (tk : Nat → Nat) (i q : Nat) : Int64 := rs_f6 (nI (tk (i + q)) - nI (tk i))
def rs_fB (tk : Nat → Nat) (i q : Nat) : Int64 := rs_f6 (nI (tk (i + q + 1)) - nI (tk (i + 1)))
def rs_mU (tk : Nat → Nat) (i j : Nat) : Int64 := (nI j - nI (tk i)).toInt64
def rs_mD (tk : Nat → Nat) (i q j : Nat) : Int64 := (nI (tk (i + q + 1)) - nI j).toInt64
/-- the polynomials of the piece j, level by level: coefficient x % 4 of the place x / 4 -/
def rs_pl (tk : Nat → Nat) (j r : Nat) : Nat → Nat → Int64
  | 0, x => if x = 4 * r then 1 else 0
  | v + 1, x => if r - (v + 1) ≤ x / 4 ∧ x / 4 ≤ r then rs_mx (rs_pl tk j r v) (rs_fA tk (x / 4) (v + 1)) (rs_fB tk (x / 4) (v + 1)) (rs_mU tk (x / 4) j) (rs_mD tk (x / 4) (v + 1) j) (x / 4) (x % 4) else rs_pl tk j r v x
