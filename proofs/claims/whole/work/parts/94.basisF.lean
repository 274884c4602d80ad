def rm_X4_basisF : Room := { frames := 2, cells := 0, slots := 0, locals := 151 }
set_option maxHeartbeats 4000000 in
set_option maxRecDepth 100000 in
theorem c_X4_basisF (l : Launch) (D : va_G) (aI aJ aL : ClassId) (sz : Nat) (q : Nat → Nat) (dd : Nat) (dp : Nat) (dk : Nat) (dx : Nat → Int32) (dy : Nat → Int32) (dw : Nat → Int32) (dn : Nat → Nat) (g : Nat) (tm : Nat → Nat) (pz : Nat → Int64) (tk : Nat → Nat) (nn : Nat) (vn : Nat) (vt : Nat → Nat) (po : Nat → Int64) (vl : Nat → Int64) (ea : Nat → Nat) (la : Nat → Nat) (i : Int32) (u : Int32) (hg : g ≤ 3) (hnn : nn ≤ 19) (hF : ¬ (0 < g ∧ (¬ u < 0 ∧ ¬ nI 360 < u) ∧ ¬ i < 0 ∧ i < nI nn)) : rs_ML (S := Unit) l yX4_basis (Cond.code yX4_basis prog_6_method_26_code 12 (some .long) :: rsW) rm_X4_basisF D vwCl (rs_tys aI aJ aL) rs_nw [.ref (q 0), .int i, .int u] (wM aI aJ aL q dd dp dk dx dy dw dn g tm pz tk nn vn vt po vl ea la) sz ((-1)) (fun uu => wM aI aJ aL q dd dp dk dx dy dw dn g tm pz tk nn vn vt po vl ea la) := by
  refine rs_ent (cc := cX4_basis) (maxL := 12) (ret := some .long) (Qc := rs_QL D vwCl _ _ _) (by decide) rfl (Nat.le_of_ble_eq_true rfl) ?_
  intro p e s m args below meth c ls A Q hx hb hr hml hlk hts hown hin hK hN hP hD hS hA hQ hl
  have hl : lv_has ls 12 [(0, .ref (q 0)), (1, .int i), (2, .int u)] := hl
  refine lv_aload_n hx hb dX4_basis_0 rfl (lv_at hl 0 rfl) ?_
  refine va_get hx hb hts inX4 hown hK hP 0 (ci := 4) (C := RX4) (T := TX4) (N := 18) rfl rfl 7 (by decide) (hts _ rw_398) (fun _ h => h) (v := .int (nI g)) rfl dX4_basis_1 ?_
  refine lv_if_eq hx hb dX4_basis_4 (tgt := 30) rfl (fun h_4 => ?_) (fun h_4 => ?_)
  · have h_4 : g = 0 := rs_z1 (by omega) h_4
    refine lv_ldc2 hx hb hown (hts _ rw_550) dX4_basis_30 ?_
    exact rs_lret () hx hb hr hlk hQ hK hP hD hS rfl rfl dX4_basis_33
  · have h_4 : 0 < g := rs_z2 (by omega) h_4
    refine lv_iload_n hx hb dX4_basis_7 rfl (lv_at hl 2 rfl) ?_
    refine lv_if_lt hx hb dX4_basis_8 (tgt := 30) rfl (fun h_8 => ?_) (fun h_8 => ?_)
    · skip
      refine lv_ldc2 hx hb hown (hts _ rw_550) dX4_basis_30 ?_
      exact rs_lret () hx hb hr hlk hQ hK hP hD hS rfl rfl dX4_basis_33
    · skip
      refine lv_iload_n hx hb dX4_basis_11 rfl (lv_at hl 2 rfl) ?_
      refine lv_sipush hx hb dX4_basis_12 (v := nI 360) (by decide) ?_
      refine lv_icmp_gt hx hb dX4_basis_15 (tgt := 30) rfl (fun h_15 => ?_) (fun h_15 => ?_)
      · skip
        refine lv_ldc2 hx hb hown (hts _ rw_550) dX4_basis_30 ?_
        exact rs_lret () hx hb hr hlk hQ hK hP hD hS rfl rfl dX4_basis_33
      · skip
        refine lv_iload_n hx hb dX4_basis_18 rfl (lv_at hl 1 rfl) ?_
        refine lv_if_lt hx hb dX4_basis_19 (tgt := 30) rfl (fun h_19 => ?_) (fun h_19 => ?_)
        · skip
          refine lv_ldc2 hx hb hown (hts _ rw_550) dX4_basis_30 ?_
          exact rs_lret () hx hb hr hlk hQ hK hP hD hS rfl rfl dX4_basis_33
        · skip
          refine lv_iload_n hx hb dX4_basis_22 rfl (lv_at hl 1 rfl) ?_
          refine lv_aload_n hx hb dX4_basis_23 rfl (lv_at hl 0 rfl) ?_
          refine va_get hx hb hts inX4 hown hK hP 0 (ci := 4) (C := RX4) (T := TX4) (N := 18) rfl rfl 11 (by decide) (hts _ rw_402) (fun _ h => h) (v := .int (nI nn)) rfl dX4_basis_24 ?_
          refine lv_icmp_lt hx hb dX4_basis_27 (tgt := 34) rfl (fun h_27 => ?_) (fun h_27 => ?_)
          · skip
            exact absurd ⟨by omega, ⟨h_8, h_15⟩, h_19, h_27⟩ hF
          · skip
            refine lv_ldc2 hx hb hown (hts _ rw_550) dX4_basis_30 ?_
            exact rs_lret () hx hb hr hlk hQ hK hP hD hS rfl rfl dX4_basis_33
