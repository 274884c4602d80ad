/-! The law's start: classes, arrays, the nest's words. -/
theorem rs_nw_ok : ∀ w ∈ rs_nw, rs_nest w = true ∧ w.onTables = true := by decide +kernel
theorem rs_nw_in : ∀ w ∈ rs_nw, w ∈ tables_1 := by decide +kernel
theorem rs_ov_in : Cond.arrayOver (.array .long) ∈ tables_1 := by decide +kernel
theorem rs_N0 {s : State} {args : Array Value} (hts : ∀ w ∈ lw_tbl, w.before args s = true) : rs_N rs_nw s := fun w hw => ⟨(rs_nw_ok w hw).1, va_Nw.of (rs_nw_ok w hw).2 (hts w (List.mem_append_right _ (rs_nw_in w hw)))⟩
theorem rs_K0 {s : State} {args : Array Value} (hts : ∀ w ∈ rsW, w.before args s = true) (hO : (Cond.arrayOver (.array .long)).before args s = true) : ∃ (D : va_G) (aI aJ aL : ClassId), va_K D vwCl (rs_tys aI aJ aL) s := by
  obtain ⟨c0, i0, k0⟩ := u_known hts inX0 (hts _ rw_46)
  obtain ⟨c1, i1, k1⟩ := u_known hts inX1 (hts _ rw_73)
  obtain ⟨c2, i2, k2⟩ := u_known hts inX2 (hts _ rw_17)
  obtain ⟨c3, i3, k3⟩ := u_known hts inX3 (hts _ rw_9)
  obtain ⟨c4, i4, k4⟩ := u_known hts inX4 (hts _ rw_386)
  obtain ⟨aI, kI, pI, hI1, hI2, hI3⟩ := Cond.arrayClass_spec (hts _ rw_44)
  obtain ⟨aJ, kJ, pJ, hJ1, hJ2, hJ3⟩ := Cond.arrayClass_spec (hts _ rw_119)
  obtain ⟨pL, aL, kL, -, hL2, hL3, hL4⟩ := Cond.arrayOver_specA hO
  refine ⟨(fun k => match k with | 0 => c0 | 1 => c1 | 2 => c2 | 3 => c3 | _ => c4, fun k => match k with | 0 => i0 | 1 => i1 | 2 => i2 | 3 => i3 | _ => i4), aI, aJ, aL, ?_, ?_⟩
  · intro c q hq
    rcases c with _ | _ | _ | _ | _ | c
    · cases hq; exact k0
    · cases hq; exact k1
    · cases hq; exact k2
    · cases hq; exact k3
    · cases hq; exact k4
    · simp [vwCl] at hq
  · intro k q hk
    rcases k with _ | _ | _ | k
    · cases hk; exact ⟨fun n z => ⟨fun k h => (by cases h), kI, hI2, pI, hI3⟩, hI1⟩
    · cases hk; exact ⟨fun n z => ⟨fun k h => (by cases h), kJ, hJ2, pJ, hJ3⟩, hJ1⟩
    · cases hk; exact ⟨fun n z => ⟨fun k h => (by cases h), kL, hL2, pL, hL3⟩, hL4⟩
    · simp at hk
theorem rs_lt4 {L i : Nat} (hL : L ≤ 2048) (hi : i ≤ 4096) : nI L - nI 4 < nI i ↔ L < i + 4 := by
  rw [Int32.lt_iff_toInt_lt, pk_sub_toInt (by omega) (by omega), nI_toInt (by omega)]
  omega
/-- what both sides hold at the start -/
theorem rs_RC_0 (qd qc q q2 : Nat → Nat) : rs_RC 0 0 0 (fun _ => nI 0) (fun _ => nI 0) (fun _ => nI 0) (fun _ => 0) 0 (fun _ => 0) 0 (fun _ => 0) (fun _ _ _ => 0) ((qd, 0, 0, 0, (fun _ => nI 0), (fun _ => nI 0), (fun _ => nI 0), (fun _ => 0)), (qc, 0, nI 0, nI 0, (fun _ => 0), (fun _ => nI 0), (fun _ => nI 0)), (q, 0, 0, (fun _ => 0), (fun _ _ => 0), nI 0, nI 0, (fun _ => 0), (fun _ => 0)), (q2, 0, 0, (fun _ => 0), (fun _ _ => 0), nI 0, nI 0, (fun _ => 0), (fun _ => 0))) :=
  ⟨qd, qc, nI 0, nI 0, (fun _ => 0), (fun _ => nI 0), (fun _ => nI 0), q, 0, (fun _ => 0), (fun _ _ => 0), nI 0, nI 0, (fun _ => 0), (fun _ => 0), q2, 0, 0, (fun _ => 0), (fun _ _ => 0), nI 0, nI 0, (fun _ => 0), (fun _ => 0), rfl, ⟨⟨by omega, by omega, by omega, fun _ => Nat.zero_le _⟩, fun h => absurd h (by omega)⟩, by omega, fun _ _ => rfl, fun _ => Nat.zero_le _, fun _ => Nat.zero_le _, by omega, by omega, fun _ => ⟨rfl, fun _ => rfl⟩, fun h => absurd h (by omega)⟩
theorem rs_RM_0 (q : Nat → Nat) : rs_RM 0 0 0 (fun _ => nI 0) (fun _ => nI 0) (fun _ => nI 0) (fun _ => 0) 0 (fun _ => 0) 0 (fun _ => 0) (fun _ _ _ => 0) (q, 0, 0, 0, (fun _ => nI 0), (fun _ => nI 0), (fun _ => nI 0), (fun _ => 0), 0, (fun _ => 0), (fun _ => 0), (fun _ => 0), 0, 0, (fun _ => 0), (fun _ => 0), (fun _ => 0), (fun _ => 0), (fun _ => 0)) :=
  ⟨q, (fun _ => 0), (fun _ => 0), 0, (fun _ => 0), (fun _ => 0), (fun _ => 0), (fun _ => 0), (fun _ => 0), rfl, fun _ _ => rfl, fun _ => Nat.zero_le _, by omega, fun h => absurd h (by omega)⟩
