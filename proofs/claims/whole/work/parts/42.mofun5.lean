/-! The model's pieces. -/
section RSP
variable {tk : Nat → Nat} {j r v w : Nat} {px : Nat → Int64}
theorem rs_pl_0 {k : Nat} (hk : 80 ≤ k) (h : ∀ x, x < k → px x = 0) : ∀ x, x < 80 → vp_updL px (4 * r) 1 x = rs_pl tk j r 0 x := by
  intro x hx
  show _ = if x = 4 * r then 1 else 0
  by_cases e : x = 4 * r
  · subst e
    rw [pk_uLs, if_pos rfl]
  · rw [pk_uLn e, if_neg e]
    exact h x (by omega)
theorem rs_pl_i (h : ∀ x, x < 80 → px x = rs_pl tk j r v x) : ∀ x, x < 80 → px x = if r - (v + 1) ≤ x / 4 ∧ x / 4 < r - (v + 1) + 0 then rs_pl tk j r (v + 1) x else rs_pl tk j r v x := by
  intro x hx
  rw [if_neg (by omega)]
  exact h x hx
theorem rs_pl_n (hr : v + 1 ≤ r) (hw : w = v + 2) (h : ∀ x, x < 80 → px x = if r - (v + 1) ≤ x / 4 ∧ x / 4 < r - (v + 1) + w then rs_pl tk j r (v + 1) x else rs_pl tk j r v x) : ∀ x, x < 80 → px x = rs_pl tk j r (v + 1) x := by
  intro x hx
  rw [h x hx]
  by_cases e : r - (v + 1) ≤ x / 4 ∧ x / 4 < r - (v + 1) + w
  · rw [if_pos e]
  · rw [if_neg e]
    have e2 : rs_pl tk j r (v + 1) x = rs_pl tk j r v x := if_neg (by omega)
    rw [e2]
theorem rs_pl_s {y : Nat → Int64} (hr : v + 1 ≤ r) (hr2 : r ≤ 18) (hw : w ≤ v + 1)
    (hy : (∀ d, d < 4 → y (4 * (r - (v + 1) + w) + d) = rs_mx px (rs_fA tk (r - (v + 1) + w) (v + 1)) (rs_fB tk (r - (v + 1) + w) (v + 1)) (rs_mU tk (r - (v + 1) + w) j) (rs_mD tk (r - (v + 1) + w) (v + 1) j) (r - (v + 1) + w) d) ∧ ∀ z, (z < 4 * (r - (v + 1) + w) ∨ 4 * (r - (v + 1) + w) + 4 ≤ z) → y z = px z)
    (h : ∀ x, x < 80 → px x = if r - (v + 1) ≤ x / 4 ∧ x / 4 < r - (v + 1) + w then rs_pl tk j r (v + 1) x else rs_pl tk j r v x) :
    ∀ x, x < 80 → y x = if r - (v + 1) ≤ x / 4 ∧ x / 4 < r - (v + 1) + (w + 1) then rs_pl tk j r (v + 1) x else rs_pl tk j r v x := by
  intro x hx
  by_cases e : x / 4 = r - (v + 1) + w
  · rw [if_pos (by omega)]
    have ex : x = 4 * (x / 4) + x % 4 := by omega
    have h1 := hy.1 (x % 4) (by omega)
    rw [← e] at h1
    rw [← ex] at h1
    rw [h1, rs_mx_cg (po := rs_pl tk j r v) (by omega) (fun z h2 h3 => by
      rw [h z (by omega), if_neg (by omega)])]
    have e2 : rs_pl tk j r (v + 1) x = rs_mx (rs_pl tk j r v) (rs_fA tk (x / 4) (v + 1)) (rs_fB tk (x / 4) (v + 1)) (rs_mU tk (x / 4) j) (rs_mD tk (x / 4) (v + 1) j) (x / 4) (x % 4) := if_pos (by omega)
    rw [e2]
  · rw [hy.2 x (by omega), h x hx]
    by_cases f : r - (v + 1) ≤ x / 4 ∧ x / 4 < r - (v + 1) + w
    · rw [if_pos f, if_pos (by omega)]
    · rw [if_neg f, if_neg (by omega)]
end RSP
/-- the numbers of a piece -/
def rs_pv (tk : Nat → Nat) (g nn : Nat) (dx dy dw : Nat → Int32) (j a e : Nat) : Int64 :=
  rs_sumL (fun w => rs_dra dx dy dw (rs_ms tk g (60 * j) (nn - g) - g + w) a * rs_pl tk j (rs_ms tk g (60 * j) (nn - g)) g (4 * (rs_ms tk g (60 * j) (nn - g) - g + w) + e)) (g + 1) * rs_sc g
def rs_Z (V : Nat → Nat → Int64) (j : Nat) (pz py : Nat → Int64) (a e : Nat) : Prop :=
  (∀ b f, b < 3 → f < 4 → (b < a ∨ (b = a ∧ f < e)) → py (24 * b + 4 * j + f) = V b f) ∧ ∀ y, (∀ b f, b < 3 → f < 4 → y ≠ 24 * b + 4 * j + f) → py y = pz y
theorem rs_Z.zero {V : Nat → Nat → Int64} {j : Nat} {pz : Nat → Int64} : rs_Z V j pz pz 0 0 := ⟨fun b f _ _ h => by omega, fun _ _ => rfl⟩
theorem rs_Z.up {V : Nat → Nat → Int64} {j : Nat} {pz py : Nat → Int64} {a e : Nat} (h : rs_Z V j pz py a e) (ha : a < 3) (he : e < 4) {x : Int64} (hx : x = V a e) : rs_Z V j pz (vp_updL py (24 * a + 4 * j + e) x) a (e + 1) := by
  refine ⟨fun b f hb hf hc => ?_, fun y hy => ?_⟩
  · by_cases z : b = a ∧ f = e
    · obtain ⟨rfl, rfl⟩ := z
      rw [pk_uLs, hx]
    · rw [pk_uLn (by omega)]
      exact h.1 b f hb hf (by omega)
  · rw [pk_uLn (hy a e ha he)]
    exact h.2 y hy
theorem rs_Z.next {V : Nat → Nat → Int64} {j : Nat} {pz py : Nat → Int64} {a : Nat} (h : rs_Z V j pz py a 4) : rs_Z V j pz py (a + 1) 0 := ⟨fun b f hb hf hc => h.1 b f hb hf (by omega), h.2⟩
