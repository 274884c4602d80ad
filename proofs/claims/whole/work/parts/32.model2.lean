def rm_X4_points : Room := { frames := 1, cells := 0, slots := 0, locals := 64 }
set_option maxHeartbeats 4000000 in
set_option maxRecDepth 100000 in
theorem c_X4_points (l : Launch) (D : va_G) (aI aJ aL : ClassId) (sz : Nat) (q : Nat → Nat) (dd : Nat) (dp : Nat) (dk : Nat) (dx : Nat → Int32) (dy : Nat → Int32) (dw : Nat → Int32) (dn : Nat → Nat) (g : Nat) (tm : Nat → Nat) (pz : Nat → Int64) (tk : Nat → Nat) (nn : Nat) (vn : Nat) (vt : Nat → Nat) (po : Nat → Int64) (vl : Nat → Int64) (ea : Nat → Nat) (la : Nat → Nat) (hg : g ≤ 3) (hnn : nn ≤ 19) : rs_MI (S := Unit) l yX4_points (Cond.code yX4_points prog_6_method_22_code 1 (some .int) :: rsW) rm_X4_points D vwCl (rs_tys aI aJ aL) rs_nw [.ref (q 0)] (wM aI aJ aL q dd dp dk dx dy dw dn g tm pz tk nn vn vt po vl ea la) sz (nI (if g = 0 then 0 else nn)) (fun uu => wM aI aJ aL q dd dp dk dx dy dw dn g tm pz tk nn vn vt po vl ea la) := by
  refine rs_ent (cc := cX4_points) (maxL := 1) (ret := some .int) (Qc := rs_QI D vwCl _ _ _) (by decide) rfl (Nat.le_of_ble_eq_true rfl) ?_
  intro p e s m args below meth c ls A Q hx hb hr hml hlk hts hown hin hK hN hP hD hS hA hQ hl
  have hl : lv_has ls 1 [(0, .ref (q 0))] := hl
  refine lv_aload_n hx hb dX4_points_0 rfl (lv_at hl 0 rfl) ?_
  refine va_get hx hb hts inX4 hown hK hP 0 (ci := 4) (C := RX4) (T := TX4) (N := 18) rfl rfl 7 (by decide) (hts _ rw_398) (fun _ h => h) (v := .int (nI g)) rfl dX4_points_1 ?_
  refine lv_if_ne hx hb dX4_points_4 (tgt := 11) rfl (fun h_4 => ?_) (fun h_4 => ?_)
  · have h_4 : 0 < g := rs_z2 (by omega) h_4
    refine lv_aload_n hx hb dX4_points_11 rfl (lv_at hl 0 rfl) ?_
    refine va_get hx hb hts inX4 hown hK hP 0 (ci := 4) (C := RX4) (T := TX4) (N := 18) rfl rfl 11 (by decide) (hts _ rw_402) (fun _ h => h) (v := .int (nI nn)) rfl dX4_points_12 ?_
    exact rs_iret () hx hb hr hlk hQ hK hP hD hS rfl (by first | exact congrArg nI (if_pos h_4).symm | exact congrArg nI (if_neg (by omega)).symm) rfl dX4_points_15
  · have h_4 : g = 0 := rs_z1 (by omega) h_4
    refine lv_iconst hx hb dX4_points_7 (v := nI 0) (by decide) ?_
    refine lv_goto hx hb dX4_points_8 (tgt := 15) rfl ?_
    exact rs_iret () hx hb hr hlk hQ hK hP hD hS rfl (by first | exact congrArg nI (if_pos h_4).symm | exact congrArg nI (if_neg (by omega)).symm) rfl dX4_points_15

def rm_X4_knotAt : Room := { frames := 1, cells := 0, slots := 0, locals := 64 }
set_option maxHeartbeats 4000000 in
set_option maxRecDepth 100000 in
theorem c_X4_knotAt (l : Launch) (D : va_G) (aI aJ aL : ClassId) (sz : Nat) (q : Nat → Nat) (dd : Nat) (dp : Nat) (dk : Nat) (dx : Nat → Int32) (dy : Nat → Int32) (dw : Nat → Int32) (dn : Nat → Nat) (g : Nat) (tm : Nat → Nat) (pz : Nat → Int64) (tk : Nat → Nat) (nn : Nat) (vn : Nat) (vt : Nat → Nat) (po : Nat → Int64) (vl : Nat → Int64) (ea : Nat → Nat) (la : Nat → Nat) (i : Int32) (hg : g ≤ 3) (hnn : nn ≤ 19) : rs_MI (S := Unit) l yX4_knotAt (Cond.code yX4_knotAt prog_6_method_23_code 2 (some .int) :: rsW) rm_X4_knotAt D vwCl (rs_tys aI aJ aL) rs_nw [.ref (q 0), .int i] (wM aI aJ aL q dd dp dk dx dy dw dn g tm pz tk nn vn vt po vl ea la) sz (rs_kat tk g nn i) (fun uu => wM aI aJ aL q dd dp dk dx dy dw dn g tm pz tk nn vn vt po vl ea la) := by
  refine rs_ent (cc := cX4_knotAt) (maxL := 2) (ret := some .int) (Qc := rs_QI D vwCl _ _ _) (by decide) rfl (Nat.le_of_ble_eq_true rfl) ?_
  intro p e s m args below meth c ls A Q hx hb hr hml hlk hts hown hin hK hN hP hD hS hA hQ hl
  have hl : lv_has ls 2 [(0, .ref (q 0)), (1, .int i)] := hl
  refine lv_aload_n hx hb dX4_knotAt_0 rfl (lv_at hl 0 rfl) ?_
  refine va_get hx hb hts inX4 hown hK hP 0 (ci := 4) (C := RX4) (T := TX4) (N := 18) rfl rfl 7 (by decide) (hts _ rw_398) (fun _ h => h) (v := .int (nI g)) rfl dX4_knotAt_1 ?_
  refine lv_if_eq hx hb dX4_knotAt_4 (tgt := 24) rfl (fun h_4 => ?_) (fun h_4 => ?_)
  · have h_4 : g = 0 := rs_z1 (by omega) h_4
    refine lv_iconst hx hb dX4_knotAt_24 (v := (-1)) (by decide) ?_
    refine lv_goto hx hb dX4_knotAt_25 (tgt := 34) rfl ?_
    exact rs_iret () hx hb hr hlk hQ hK hP hD hS rfl (by first | exact rs_kat_3 (by omega) (by omega) (by omega) | exact rs_kat_0 (by omega) | exact rs_kat_1 h_8 | exact rs_kat_4 h_21 (by omega)) rfl dX4_knotAt_34
  · have h_4 : 0 < g := rs_z2 (by omega) h_4
    refine lv_iload_n hx hb dX4_knotAt_7 rfl (lv_at hl 1 rfl) ?_
    refine lv_if_lt hx hb dX4_knotAt_8 (tgt := 24) rfl (fun h_8 => ?_) (fun h_8 => ?_)
    · skip
      refine lv_iconst hx hb dX4_knotAt_24 (v := (-1)) (by decide) ?_
      refine lv_goto hx hb dX4_knotAt_25 (tgt := 34) rfl ?_
      exact rs_iret () hx hb hr hlk hQ hK hP hD hS rfl (by first | exact rs_kat_3 (by omega) (by omega) (by omega) | exact rs_kat_0 (by omega) | exact rs_kat_1 h_8 | exact rs_kat_4 h_21 (by omega)) rfl dX4_knotAt_34
    · skip
      refine lv_iload_n hx hb dX4_knotAt_11 rfl (lv_at hl 1 rfl) ?_
      refine lv_aload_n hx hb dX4_knotAt_12 rfl (lv_at hl 0 rfl) ?_
      refine va_get hx hb hts inX4 hown hK hP 0 (ci := 4) (C := RX4) (T := TX4) (N := 18) rfl rfl 11 (by decide) (hts _ rw_402) (fun _ h => h) (v := .int (nI nn)) rfl dX4_knotAt_13 ?_
      refine lv_aload_n hx hb dX4_knotAt_16 rfl (lv_at hl 0 rfl) ?_
      refine va_get hx hb hts inX4 hown hK hP 0 (ci := 4) (C := RX4) (T := TX4) (N := 18) rfl rfl 7 (by decide) (hts _ rw_398) (fun _ h => h) (v := .int (nI g)) rfl dX4_knotAt_17 ?_
      refine rs_iadd hx hb dX4_knotAt_20 (v := nI (nn + g)) (nI_add _ _) ?_
      refine lv_icmp_le hx hb dX4_knotAt_21 (tgt := 28) rfl (fun h_21 => ?_) (fun h_21 => ?_)
      · skip
        obtain ⟨a, ha, rfl⟩ := nI_of h_8
        have ha2 : a ≤ nn + g := (nI_leI ha (by omega)).1 h_21
        refine lv_aload_n hx hb dX4_knotAt_28 rfl (lv_at hl 0 rfl) ?_
        refine va_get hx hb hts inX4 hown hK hP 0 (ci := 4) (C := RX4) (T := TX4) (N := 18) rfl rfl 10 (by decide) (hts _ rw_401) (fun _ h => h) (v := .ref (q 7)) rfl dX4_knotAt_29 ?_
        refine lv_iload_n hx hb dX4_knotAt_32 rfl (lv_at hl 1 rfl) ?_
        refine rs_iald hx hb hK hP 7 0 rfl rfl (i := a) (by omega) (by decide) (v := nI (tk a)) rfl dX4_knotAt_33 ?_
        exact rs_iret () hx hb hr hlk hQ hK hP hD hS rfl (by first | exact rs_kat_3 (by omega) (by omega) (by omega) | exact rs_kat_0 (by omega) | exact rs_kat_1 h_8 | exact rs_kat_4 h_21 (by omega)) rfl dX4_knotAt_34
      · skip
        refine lv_iconst hx hb dX4_knotAt_24 (v := (-1)) (by decide) ?_
        refine lv_goto hx hb dX4_knotAt_25 (tgt := 34) rfl ?_
        exact rs_iret () hx hb hr hlk hQ hK hP hD hS rfl (by first | exact rs_kat_3 (by omega) (by omega) (by omega) | exact rs_kat_0 (by omega) | exact rs_kat_1 h_8 | exact rs_kat_4 h_21 (by omega)) rfl dX4_knotAt_34

def rm_X4_control : Room := { frames := 2, cells := 0, slots := 0, locals := 166 }
set_option maxHeartbeats 4000000 in
set_option maxRecDepth 100000 in
theorem c_X4_control (l : Launch) (D : va_G) (aI aJ aL : ClassId) (sz : Nat) (q : Nat → Nat) (dd : Nat) (dp : Nat) (dk : Nat) (dx : Nat → Int32) (dy : Nat → Int32) (dw : Nat → Int32) (dn : Nat → Nat) (g : Nat) (tm : Nat → Nat) (pz : Nat → Int64) (tk : Nat → Nat) (nn : Nat) (vn : Nat) (vt : Nat → Nat) (po : Nat → Int64) (vl : Nat → Int64) (ea : Nat → Nat) (la : Nat → Nat) (i : Nat) (ax : Nat) (hg : g ≤ 3) (hnn : nn ≤ 19) (hg1 : 1 ≤ g) (hi : i < nn) (hax : ax < 3) (hti : tk i ≤ 5) : rs_ML (S := Unit) l yX4_control (Cond.code yX4_control prog_6_method_24_code 3 (some .long) :: rsW) rm_X4_control D vwCl (rs_tys aI aJ aL) rs_nw [.ref (q 0), .int (nI i), .int (nI ax)] (wM aI aJ aL q dd dp dk dx dy dw dn g tm pz tk nn vn vt po vl ea la) sz (rs_co pz tk g i ax) (fun uu => wM aI aJ aL q dd dp dk dx dy dw dn g tm pz tk nn vn vt po vl ea la) := by
  refine rs_ent (cc := cX4_control) (maxL := 3) (ret := some .long) (Qc := rs_QL D vwCl _ _ _) (by decide) rfl (Nat.le_of_ble_eq_true rfl) ?_
  intro p e s m args below meth c ls A Q hx hb hr hml hlk hts hown hin hK hN hP hD hS hA hQ hl
  have hl : lv_has ls 3 [(0, .ref (q 0)), (1, .int (nI i)), (2, .int (nI ax))] := hl
  refine lv_aload_n hx hb dX4_control_0 rfl (lv_at hl 0 rfl) ?_
  refine va_get hx hb hts inX4 hown hK hP 0 (ci := 4) (C := RX4) (T := TX4) (N := 18) rfl rfl 7 (by decide) (hts _ rw_398) (fun _ h => h) (v := .int (nI g)) rfl dX4_control_1 ?_
  refine lv_if_eq hx hb dX4_control_4 (tgt := 28) rfl (fun h_4 => ?_) (fun h_4 => ?_)
  · have h_4 : g = 0 := rs_z1 (by omega) h_4
    omega
  · have h_4 : 0 < g := rs_z2 (by omega) h_4
    refine lv_iload_n hx hb dX4_control_7 rfl (lv_at hl 1 rfl) ?_
    refine lv_if_lt hx hb dX4_control_8 (tgt := 28) rfl (fun h_8 => absurd h_8 (nI_pos (by omega))) (fun _ => ?_)
    refine lv_iload_n hx hb dX4_control_11 rfl (lv_at hl 1 rfl) ?_
    refine lv_aload_n hx hb dX4_control_12 rfl (lv_at hl 0 rfl) ?_
    refine va_get hx hb hts inX4 hown hK hP 0 (ci := 4) (C := RX4) (T := TX4) (N := 18) rfl rfl 11 (by decide) (hts _ rw_402) (fun _ h => h) (v := .int (nI nn)) rfl dX4_control_13 ?_
    refine lv_icmp_ge hx hb dX4_control_16 (tgt := 28) rfl (fun h_16 => ?_) (fun h_16 => ?_)
    · have h_16 : nn ≤ i := (nI_leI (by omega) (by omega)).1 h_16
      omega
    · have h_16 : i < nn := Nat.lt_of_not_le (fun z => h_16 ((nI_leI (by omega) (by omega)).2 z))
      refine lv_iload_n hx hb dX4_control_19 rfl (lv_at hl 2 rfl) ?_
      refine lv_if_lt hx hb dX4_control_20 (tgt := 28) rfl (fun h_20 => absurd h_20 (nI_pos (by omega))) (fun _ => ?_)
      refine lv_iload_n hx hb dX4_control_23 rfl (lv_at hl 2 rfl) ?_
      refine lv_iconst hx hb dX4_control_24 (v := nI 2) (by decide) ?_
      refine lv_icmp_le hx hb dX4_control_25 (tgt := 30) rfl (fun h_25 => ?_) (fun h_25 => ?_)
      · have h_25 : ax ≤ 2 := (nI_leI (by omega) (by omega)).1 h_25
        refine lv_aload_n hx hb dX4_control_30 rfl (lv_at hl 0 rfl) ?_
        refine lv_iload_n hx hb dX4_control_31 rfl (lv_at hl 1 rfl) ?_
        refine lv_iload_n hx hb dX4_control_32 rfl (lv_at hl 2 rfl) ?_
        refine rs_cVL (rest := []) (wr := []) (ws' := fun u_33 => wM aI aJ aL q dd dp dk dx dy dw dn g tm pz tk nn vn vt po vl ea la) ⟨hx, hb, hml, hown, hts⟩ (c_X4_controlOf l D aI aJ aL _ q dd dp dk dx dy dw dn g tm pz tk nn vn vt po vl ea la i ax hg1 hg (by omega) hti hax) (cwV 2 hts (rs_gV rw_503 rw_505 rv_20 rw_5 rw_506) rfl rfl rfl (by decide +kernel) ⟨Nat.le_of_ble_eq_true rfl, Nat.le_of_ble_eq_true rfl⟩) hK hN hP hD hS hA [0, 1, 2, 3, 4, 5, 6, 7, 8, 9, 10, 11, 12] [] [0, 1, 2, 3, 4, 5, 6, 7, 8, 9, 10, 11, 12] (by decide) rfl rfl (fun _ => rfl) 0 rfl rfl hl.1 rfl rfl (Nat.le_of_ble_eq_true rfl) dX4_control_33 ⟨Nat.le_refl _, Nat.le_refl _⟩ (fun u_33 H locs hP hD hS => ?_)
        have hP : va_P D vwCl (wM aI aJ aL q dd dp dk dx dy dw dn g tm pz tk nn vn vt po vl ea la) H := hP
        have hD : va_D A (wM aI aJ aL q dd dp dk dx dy dw dn g tm pz tk nn vn vt po vl ea la) := hD
        exact rs_lret () hx hb hr hlk hQ hK hP hD hS rfl rfl dX4_control_36
      · have h_25 : 2 < ax := Nat.lt_of_not_le (fun z => h_25 ((nI_leI (by omega) (by omega)).2 z))
        omega

def rm_X4_controlF : Room := { frames := 2, cells := 0, slots := 0, locals := 166 }
set_option maxHeartbeats 4000000 in
set_option maxRecDepth 100000 in
theorem c_X4_controlF (l : Launch) (D : va_G) (aI aJ aL : ClassId) (sz : Nat) (q : Nat → Nat) (dd : Nat) (dp : Nat) (dk : Nat) (dx : Nat → Int32) (dy : Nat → Int32) (dw : Nat → Int32) (dn : Nat → Nat) (g : Nat) (tm : Nat → Nat) (pz : Nat → Int64) (tk : Nat → Nat) (nn : Nat) (vn : Nat) (vt : Nat → Nat) (po : Nat → Int64) (vl : Nat → Int64) (ea : Nat → Nat) (la : Nat → Nat) (i : Int32) (ax : Int32) (hg : g ≤ 3) (hnn : nn ≤ 19) (hF : ¬ (0 < g ∧ ¬ i < 0 ∧ ¬ nI nn ≤ i ∧ ¬ ax < 0 ∧ ax ≤ nI 2)) : rs_ML (S := Unit) l yX4_control (Cond.code yX4_control prog_6_method_24_code 3 (some .long) :: rsW) rm_X4_controlF D vwCl (rs_tys aI aJ aL) rs_nw [.ref (q 0), .int i, .int ax] (wM aI aJ aL q dd dp dk dx dy dw dn g tm pz tk nn vn vt po vl ea la) sz (0) (fun uu => wM aI aJ aL q dd dp dk dx dy dw dn g tm pz tk nn vn vt po vl ea la) := by
  refine rs_ent (cc := cX4_control) (maxL := 3) (ret := some .long) (Qc := rs_QL D vwCl _ _ _) (by decide) rfl (Nat.le_of_ble_eq_true rfl) ?_
  intro p e s m args below meth c ls A Q hx hb hr hml hlk hts hown hin hK hN hP hD hS hA hQ hl
  have hl : lv_has ls 3 [(0, .ref (q 0)), (1, .int i), (2, .int ax)] := hl
  refine lv_aload_n hx hb dX4_control_0 rfl (lv_at hl 0 rfl) ?_
  refine va_get hx hb hts inX4 hown hK hP 0 (ci := 4) (C := RX4) (T := TX4) (N := 18) rfl rfl 7 (by decide) (hts _ rw_398) (fun _ h => h) (v := .int (nI g)) rfl dX4_control_1 ?_
  refine lv_if_eq hx hb dX4_control_4 (tgt := 28) rfl (fun h_4 => ?_) (fun h_4 => ?_)
  · have h_4 : g = 0 := rs_z1 (by omega) h_4
    refine lv_lconst hx hb dX4_control_28 (v := 0) (by decide) ?_
    exact rs_lret () hx hb hr hlk hQ hK hP hD hS rfl rfl dX4_control_29
  · have h_4 : 0 < g := rs_z2 (by omega) h_4
    refine lv_iload_n hx hb dX4_control_7 rfl (lv_at hl 1 rfl) ?_
    refine lv_if_lt hx hb dX4_control_8 (tgt := 28) rfl (fun h_8 => ?_) (fun h_8 => ?_)
    · skip
      refine lv_lconst hx hb dX4_control_28 (v := 0) (by decide) ?_
      exact rs_lret () hx hb hr hlk hQ hK hP hD hS rfl rfl dX4_control_29
    · skip
      refine lv_iload_n hx hb dX4_control_11 rfl (lv_at hl 1 rfl) ?_
      refine lv_aload_n hx hb dX4_control_12 rfl (lv_at hl 0 rfl) ?_
      refine va_get hx hb hts inX4 hown hK hP 0 (ci := 4) (C := RX4) (T := TX4) (N := 18) rfl rfl 11 (by decide) (hts _ rw_402) (fun _ h => h) (v := .int (nI nn)) rfl dX4_control_13 ?_
      refine lv_icmp_ge hx hb dX4_control_16 (tgt := 28) rfl (fun h_16 => ?_) (fun h_16 => ?_)
      · skip
        refine lv_lconst hx hb dX4_control_28 (v := 0) (by decide) ?_
        exact rs_lret () hx hb hr hlk hQ hK hP hD hS rfl rfl dX4_control_29
      · skip
        refine lv_iload_n hx hb dX4_control_19 rfl (lv_at hl 2 rfl) ?_
        refine lv_if_lt hx hb dX4_control_20 (tgt := 28) rfl (fun h_20 => ?_) (fun h_20 => ?_)
        · skip
          refine lv_lconst hx hb dX4_control_28 (v := 0) (by decide) ?_
          exact rs_lret () hx hb hr hlk hQ hK hP hD hS rfl rfl dX4_control_29
        · skip
          refine lv_iload_n hx hb dX4_control_23 rfl (lv_at hl 2 rfl) ?_
          refine lv_iconst hx hb dX4_control_24 (v := nI 2) (by decide) ?_
          refine lv_icmp_le hx hb dX4_control_25 (tgt := 30) rfl (fun h_25 => ?_) (fun h_25 => ?_)
          · skip
            exact absurd ⟨by omega, h_8, h_16, h_20, h_25⟩ hF
          · skip
            refine lv_lconst hx hb dX4_control_28 (v := 0) (by decide) ?_
            exact rs_lret () hx hb hr hlk hQ hK hP hD hS rfl rfl dX4_control_29

def rm_X4_span : Room := { frames := 2, cells := 0, slots := 0, locals := 151 }
set_option maxHeartbeats 4000000 in
set_option maxRecDepth 100000 in
theorem c_X4_span (l : Launch) (D : va_G) (aI aJ aL : ClassId) (sz : Nat) (q : Nat → Nat) (dd : Nat) (dp : Nat) (dk : Nat) (dx : Nat → Int32) (dy : Nat → Int32) (dw : Nat → Int32) (dn : Nat → Nat) (g : Nat) (tm : Nat → Nat) (pz : Nat → Int64) (tk : Nat → Nat) (nn : Nat) (vn : Nat) (vt : Nat → Nat) (po : Nat → Int64) (vl : Nat → Int64) (ea : Nat → Nat) (la : Nat → Nat) (u : Nat) (hg : g ≤ 3) (hnn : nn ≤ 19) (htk : ∀ i, tk i ≤ 6) (hg1 : 1 ≤ g) (hu : u ≤ 360) : rs_MI (S := Unit) l yX4_span (Cond.code yX4_span prog_6_method_25_code 2 (some .int) :: rsW) rm_X4_span D vwCl (rs_tys aI aJ aL) rs_nw [.ref (q 0), .int (nI u)] (wM aI aJ aL q dd dp dk dx dy dw dn g tm pz tk nn vn vt po vl ea la) sz (nI (rs_ms tk g u (nn - g))) (fun uu => wM aI aJ aL q dd dp dk dx dy dw dn g tm pz tk nn vn vt po vl ea la) := by
  refine rs_ent (cc := cX4_span) (maxL := 2) (ret := some .int) (Qc := rs_QI D vwCl _ _ _) (by decide) rfl (Nat.le_of_ble_eq_true rfl) ?_
  intro p e s m args below meth c ls A Q hx hb hr hml hlk hts hown hin hK hN hP hD hS hA hQ hl
  have hl : lv_has ls 2 [(0, .ref (q 0)), (1, .int (nI u))] := hl
  refine lv_aload_n hx hb dX4_span_0 rfl (lv_at hl 0 rfl) ?_
  refine va_get hx hb hts inX4 hown hK hP 0 (ci := 4) (C := RX4) (T := TX4) (N := 18) rfl rfl 7 (by decide) (hts _ rw_398) (fun _ h => h) (v := .int (nI g)) rfl dX4_span_1 ?_
  refine lv_if_eq hx hb dX4_span_4 (tgt := 18) rfl (fun h_4 => ?_) (fun h_4 => ?_)
  · have h_4 : g = 0 := rs_z1 (by omega) h_4
    omega
  · have h_4 : 0 < g := rs_z2 (by omega) h_4
    refine lv_iload_n hx hb dX4_span_7 rfl (lv_at hl 1 rfl) ?_
    refine lv_if_lt hx hb dX4_span_8 (tgt := 18) rfl (fun h_8 => absurd h_8 (nI_pos (by omega))) (fun _ => ?_)
    refine lv_iload_n hx hb dX4_span_11 rfl (lv_at hl 1 rfl) ?_
    refine lv_sipush hx hb dX4_span_12 (v := nI 360) (by decide) ?_
    refine lv_icmp_le hx hb dX4_span_15 (tgt := 22) rfl (fun h_15 => ?_) (fun h_15 => ?_)
    · have h_15 : u ≤ 360 := (nI_leI (by omega) (by omega)).1 h_15
      refine lv_aload_n hx hb dX4_span_22 rfl (lv_at hl 0 rfl) ?_
      refine lv_iload_n hx hb dX4_span_23 rfl (lv_at hl 1 rfl) ?_
      refine rs_cVI (rest := []) (wr := []) (ws' := fun u_24 => wM aI aJ aL q dd dp dk dx dy dw dn g tm pz tk nn vn vt po vl ea la) ⟨hx, hb, hml, hown, hts⟩ (c_X4_spanOf l D aI aJ aL _ q dd dp dk dx dy dw dn g tm pz tk nn vn vt po vl ea la u hg hnn htk (by omega)) (cwV 1 hts (rs_gV rw_470 rw_472 rv_15 rw_5 rw_473) rfl rfl rfl (by decide +kernel) ⟨Nat.le_of_ble_eq_true rfl, Nat.le_of_ble_eq_true rfl⟩) hK hN hP hD hS hA [0, 1, 2, 3, 4, 5, 6, 7, 8, 9, 10, 11, 12] [] [0, 1, 2, 3, 4, 5, 6, 7, 8, 9, 10, 11, 12] (by decide) rfl rfl (fun _ => rfl) 0 rfl rfl hl.1 rfl rfl (Nat.le_of_ble_eq_true rfl) dX4_span_24 ⟨Nat.le_refl _, Nat.le_refl _⟩ (fun u_24 H locs hP hD hS => ?_)
      have hP : va_P D vwCl (wM aI aJ aL q dd dp dk dx dy dw dn g tm pz tk nn vn vt po vl ea la) H := hP
      have hD : va_D A (wM aI aJ aL q dd dp dk dx dy dw dn g tm pz tk nn vn vt po vl ea la) := hD
      exact rs_iret () hx hb hr hlk hQ hK hP hD hS rfl rfl rfl dX4_span_27
    · have h_15 : 360 < u := Nat.lt_of_not_le (fun z => h_15 ((nI_leI (by omega) (by omega)).2 z))
      omega

def rm_X4_spanF : Room := { frames := 2, cells := 0, slots := 0, locals := 151 }
set_option maxHeartbeats 4000000 in
set_option maxRecDepth 100000 in
theorem c_X4_spanF (l : Launch) (D : va_G) (aI aJ aL : ClassId) (sz : Nat) (q : Nat → Nat) (dd : Nat) (dp : Nat) (dk : Nat) (dx : Nat → Int32) (dy : Nat → Int32) (dw : Nat → Int32) (dn : Nat → Nat) (g : Nat) (tm : Nat → Nat) (pz : Nat → Int64) (tk : Nat → Nat) (nn : Nat) (vn : Nat) (vt : Nat → Nat) (po : Nat → Int64) (vl : Nat → Int64) (ea : Nat → Nat) (la : Nat → Nat) (u : Int32) (hg : g ≤ 3) (hnn : nn ≤ 19) (hF : ¬ (0 < g ∧ (¬ u < 0 ∧ ¬ nI 360 < u))) : rs_MI (S := Unit) l yX4_span (Cond.code yX4_span prog_6_method_25_code 2 (some .int) :: rsW) rm_X4_spanF D vwCl (rs_tys aI aJ aL) rs_nw [.ref (q 0), .int u] (wM aI aJ aL q dd dp dk dx dy dw dn g tm pz tk nn vn vt po vl ea la) sz ((-1)) (fun uu => wM aI aJ aL q dd dp dk dx dy dw dn g tm pz tk nn vn vt po vl ea la) := by
  refine rs_ent (cc := cX4_span) (maxL := 2) (ret := some .int) (Qc := rs_QI D vwCl _ _ _) (by decide) rfl (Nat.le_of_ble_eq_true rfl) ?_
  intro p e s m args below meth c ls A Q hx hb hr hml hlk hts hown hin hK hN hP hD hS hA hQ hl
  have hl : lv_has ls 2 [(0, .ref (q 0)), (1, .int u)] := hl
  refine lv_aload_n hx hb dX4_span_0 rfl (lv_at hl 0 rfl) ?_
  refine va_get hx hb hts inX4 hown hK hP 0 (ci := 4) (C := RX4) (T := TX4) (N := 18) rfl rfl 7 (by decide) (hts _ rw_398) (fun _ h => h) (v := .int (nI g)) rfl dX4_span_1 ?_
  refine lv_if_eq hx hb dX4_span_4 (tgt := 18) rfl (fun h_4 => ?_) (fun h_4 => ?_)
  · have h_4 : g = 0 := rs_z1 (by omega) h_4
    refine lv_iconst hx hb dX4_span_18 (v := (-1)) (by decide) ?_
    refine lv_goto hx hb dX4_span_19 (tgt := 27) rfl ?_
    exact rs_iret () hx hb hr hlk hQ hK hP hD hS rfl rfl rfl dX4_span_27
  · have h_4 : 0 < g := rs_z2 (by omega) h_4
    refine lv_iload_n hx hb dX4_span_7 rfl (lv_at hl 1 rfl) ?_
    refine lv_if_lt hx hb dX4_span_8 (tgt := 18) rfl (fun h_8 => ?_) (fun h_8 => ?_)
    · skip
      refine lv_iconst hx hb dX4_span_18 (v := (-1)) (by decide) ?_
      refine lv_goto hx hb dX4_span_19 (tgt := 27) rfl ?_
      exact rs_iret () hx hb hr hlk hQ hK hP hD hS rfl rfl rfl dX4_span_27
    · skip
      refine lv_iload_n hx hb dX4_span_11 rfl (lv_at hl 1 rfl) ?_
      refine lv_sipush hx hb dX4_span_12 (v := nI 360) (by decide) ?_
      refine lv_icmp_le hx hb dX4_span_15 (tgt := 22) rfl (fun h_15 => ?_) (fun h_15 => ?_)
      · skip
        exact absurd ⟨by omega, h_8, fun z => Int32.not_le.mpr z h_15⟩ hF
      · skip
        refine lv_iconst hx hb dX4_span_18 (v := (-1)) (by decide) ?_
        refine lv_goto hx hb dX4_span_19 (tgt := 27) rfl ?_
        exact rs_iret () hx hb hr hlk hQ hK hP hD hS rfl rfl rfl dX4_span_27

def rm_X4_vertex : Room := { frames := 1, cells := 0, slots := 0, locals := 64 }
set_option maxHeartbeats 4000000 in
set_option maxRecDepth 100000 in
theorem c_X4_vertex (l : Launch) (D : va_G) (aI aJ aL : ClassId) (sz : Nat) (q : Nat → Nat) (dd : Nat) (dp : Nat) (dk : Nat) (dx : Nat → Int32) (dy : Nat → Int32) (dw : Nat → Int32) (dn : Nat → Nat) (g : Nat) (tm : Nat → Nat) (pz : Nat → Int64) (tk : Nat → Nat) (nn : Nat) (vn : Nat) (vt : Nat → Nat) (po : Nat → Int64) (vl : Nat → Int64) (ea : Nat → Nat) (la : Nat → Nat) (i : Int32) (hvn : vn ≤ 400) : rs_MI (S := Unit) l yX4_vertex (Cond.code yX4_vertex prog_6_method_32_code 2 (some .int) :: rsW) rm_X4_vertex D vwCl (rs_tys aI aJ aL) rs_nw [.ref (q 0), .int i] (wM aI aJ aL q dd dp dk dx dy dw dn g tm pz tk nn vn vt po vl ea la) sz (rs_vtx vt vn i) (fun uu => wM aI aJ aL q dd dp dk dx dy dw dn g tm pz tk nn vn vt po vl ea la) := by
  refine rs_ent (cc := cX4_vertex) (maxL := 2) (ret := some .int) (Qc := rs_QI D vwCl _ _ _) (by decide) rfl (Nat.le_of_ble_eq_true rfl) ?_
  intro p e s m args below meth c ls A Q hx hb hr hml hlk hts hown hin hK hN hP hD hS hA hQ hl
  have hl : lv_has ls 2 [(0, .ref (q 0)), (1, .int i)] := hl
  refine lv_iload_n hx hb dX4_vertex_0 rfl (lv_at hl 1 rfl) ?_
  refine lv_if_lt hx hb dX4_vertex_1 (tgt := 12) rfl (fun h_1 => ?_) (fun h_1 => ?_)
  · skip
    refine lv_iconst hx hb dX4_vertex_12 (v := (-1)) (by decide) ?_
    refine lv_goto hx hb dX4_vertex_13 (tgt := 22) rfl ?_
    exact rs_iret () hx hb hr hlk hQ hK hP hD hS rfl (by first | exact rs_vtx_3 ha2 (by omega) | exact rs_vtx_1 h_1 | exact rs_vtx_2 h_9) rfl dX4_vertex_22
  · skip
    refine lv_iload_n hx hb dX4_vertex_4 rfl (lv_at hl 1 rfl) ?_
    refine lv_aload_n hx hb dX4_vertex_5 rfl (lv_at hl 0 rfl) ?_
    refine va_get hx hb hts inX4 hown hK hP 0 (ci := 4) (C := RX4) (T := TX4) (N := 18) rfl rfl 12 (by decide) (hts _ rw_403) (fun _ h => h) (v := .int (nI vn)) rfl dX4_vertex_6 ?_
    refine lv_icmp_lt hx hb dX4_vertex_9 (tgt := 16) rfl (fun h_9 => ?_) (fun h_9 => ?_)
    · skip
      obtain ⟨a, ha, rfl⟩ := nI_of h_1
      have ha2 : a < vn := (nI_ltI ha (by omega)).1 h_9
      refine lv_aload_n hx hb dX4_vertex_16 rfl (lv_at hl 0 rfl) ?_
      refine va_get hx hb hts inX4 hown hK hP 0 (ci := 4) (C := RX4) (T := TX4) (N := 18) rfl rfl 13 (by decide) (hts _ rw_404) (fun _ h => h) (v := .ref (q 8)) rfl dX4_vertex_17 ?_
      refine lv_iload_n hx hb dX4_vertex_20 rfl (lv_at hl 1 rfl) ?_
      refine rs_iald hx hb hK hP 8 0 rfl rfl (i := a) (by omega) (by decide) (v := nI (vt a)) rfl dX4_vertex_21 ?_
      exact rs_iret () hx hb hr hlk hQ hK hP hD hS rfl (by first | exact rs_vtx_3 ha2 (by omega) | exact rs_vtx_1 h_1 | exact rs_vtx_2 h_9) rfl dX4_vertex_22
    · skip
      refine lv_iconst hx hb dX4_vertex_12 (v := (-1)) (by decide) ?_
      refine lv_goto hx hb dX4_vertex_13 (tgt := 22) rfl ?_
      exact rs_iret () hx hb hr hlk hQ hK hP hD hS rfl (by first | exact rs_vtx_3 ha2 (by omega) | exact rs_vtx_1 h_1 | exact rs_vtx_2 h_9) rfl dX4_vertex_22

def rm_X4_insert : Room := { frames := 2, cells := 0, slots := 0, locals := 152 }
set_option maxHeartbeats 4000000 in
set_option maxRecDepth 100000 in
theorem c_X4_insert (l : Launch) (D : va_G) (aI aJ aL : ClassId) (sz : Nat) (q : Nat → Nat) (dd : Nat) (dp : Nat) (dk : Nat) (dx : Nat → Int32) (dy : Nat → Int32) (dw : Nat → Int32) (dn : Nat → Nat) (g : Nat) (tm : Nat → Nat) (pz : Nat → Int64) (tk : Nat → Nat) (nn : Nat) (vn : Nat) (vt : Nat → Nat) (po : Nat → Int64) (vl : Nat → Int64) (ea : Nat → Nat) (la : Nat → Nat) (k : Nat) (hg : g ≤ 3) (hg1 : 1 ≤ g) (htk : ∀ i, tk i ≤ 6) (hk1 : 1 ≤ k) (hk5 : k ≤ 5) (hkg : tm k < g) (hc7 : ∀ j, j ≤ 7 → rs_c7 g (rs_up tm k (tm k + 1)) j ≤ 23) : rs_MI (S := {x : Nat → Nat // (∀ i, i < rs_cu g (rs_up tm k (tm k + 1)) 6 + (g + 1) → x i = rs_val (rs_cu g (rs_up tm k (tm k + 1))) i) ∧ ∀ i, x i ≤ 6}) l yX4_insert (Cond.code yX4_insert prog_6_method_15_code 2 (some .int) :: rsW) rm_X4_insert D vwCl (rs_tys aI aJ aL) rs_nw [.ref (q 0), .int (nI k)] (wM aI aJ aL q dd dp dk dx dy dw dn g tm pz tk nn vn vt po vl ea la) sz (nI (tm k + 1)) (fun uu => wM aI aJ aL q dd dp dk dx dy dw dn g (rs_up tm k (tm k + 1)) pz uu.1 (rs_cu g (rs_up tm k (tm k + 1)) 6) vn vt po vl ea la) := by
  refine rs_ent (cc := cX4_insert) (maxL := 2) (ret := some .int) (Qc := rs_QI D vwCl _ _ _) (by decide) rfl (Nat.le_of_ble_eq_true rfl) ?_
  intro p e s m args below meth c ls A Q hx hb hr hml hlk hts hown hin hK hN hP hD hS hA hQ hl
  have hl : lv_has ls 2 [(0, .ref (q 0)), (1, .int (nI k))] := hl
  refine lv_aload_n hx hb dX4_insert_0 rfl (lv_at hl 0 rfl) ?_
  refine va_get hx hb hts inX4 hown hK hP 0 (ci := 4) (C := RX4) (T := TX4) (N := 18) rfl rfl 7 (by decide) (hts _ rw_398) (fun _ h => h) (v := .int (nI g)) rfl dX4_insert_1 ?_
  refine lv_if_eq hx hb dX4_insert_4 (tgt := 30) rfl (fun h_4 => ?_) (fun h_4 => ?_)
  · have h_4 : g = 0 := rs_z1 (by omega) h_4
    omega
  · have h_4 : 0 < g := rs_z2 (by omega) h_4
    refine lv_iload_n hx hb dX4_insert_7 rfl (lv_at hl 1 rfl) ?_
    refine lv_iconst hx hb dX4_insert_8 (v := nI 1) (by decide) ?_
    refine lv_icmp_lt hx hb dX4_insert_9 (tgt := 30) rfl (fun h_9 => ?_) (fun h_9 => ?_)
    · have h_9 : k < 1 := (nI_ltI (by omega) (by omega)).1 h_9
      omega
    · have h_9 : 1 ≤ k := Nat.le_of_not_lt (fun z => h_9 ((nI_ltI (by omega) (by omega)).2 z))
      refine lv_iload_n hx hb dX4_insert_12 rfl (lv_at hl 1 rfl) ?_
      refine lv_iconst hx hb dX4_insert_13 (v := nI 5) (by decide) ?_
      refine lv_icmp_gt hx hb dX4_insert_14 (tgt := 30) rfl (fun h_14 => ?_) (fun h_14 => ?_)
      · have h_14 : 5 < k := (nI_ltI (by omega) (by omega)).1 h_14
        omega
      · have h_14 : k ≤ 5 := Nat.le_of_not_lt (fun z => h_14 ((nI_ltI (by omega) (by omega)).2 z))
        refine lv_aload_n hx hb dX4_insert_17 rfl (lv_at hl 0 rfl) ?_
        refine va_get hx hb hts inX4 hown hK hP 0 (ci := 4) (C := RX4) (T := TX4) (N := 18) rfl rfl 8 (by decide) (hts _ rw_399) (fun _ h => h) (v := .ref (q 5)) rfl dX4_insert_18 ?_
        refine lv_iload_n hx hb dX4_insert_21 rfl (lv_at hl 1 rfl) ?_
        refine rs_iald hx hb hK hP 5 0 rfl rfl (i := k) (by omega) (by decide) (v := nI (tm k)) rfl dX4_insert_22 ?_
        refine lv_aload_n hx hb dX4_insert_23 rfl (lv_at hl 0 rfl) ?_
        refine va_get hx hb hts inX4 hown hK hP 0 (ci := 4) (C := RX4) (T := TX4) (N := 18) rfl rfl 7 (by decide) (hts _ rw_398) (fun _ h => h) (v := .int (nI g)) rfl dX4_insert_24 ?_
        refine lv_icmp_lt hx hb dX4_insert_27 (tgt := 32) rfl (fun h_27 => ?_) (fun h_27 => ?_)
        · have h_27 : (tm k) < g := (nI_ltI (by omega) (by omega)).1 h_27
          refine lv_aload_n hx hb dX4_insert_32 rfl (lv_at hl 0 rfl) ?_
          refine va_get hx hb hts inX4 hown hK hP 0 (ci := 4) (C := RX4) (T := TX4) (N := 18) rfl rfl 8 (by decide) (hts _ rw_399) (fun _ h => h) (v := .ref (q 5)) rfl dX4_insert_33 ?_
          refine lv_iload_n hx hb dX4_insert_36 rfl (lv_at hl 1 rfl) ?_
          refine lv_dup2_11 hx hb dX4_insert_37 rfl rfl ?_
          refine rs_iald hx hb hK hP 5 0 rfl rfl (i := k) (by omega) (by decide) (v := nI (tm k)) rfl dX4_insert_38 ?_
          refine lv_iconst hx hb dX4_insert_39 (v := nI 1) (by decide) ?_
          refine rs_iadd hx hb dX4_insert_40 (v := nI ((tm k) + 1)) (nI_add _ _) ?_
          refine rs_iast hx hb hK hP hD hS 5 0 rfl rfl (i := k) (by omega) (by decide) (rs_upI _ _ _) dX4_insert_41 (ws' := wM aI aJ aL q dd dp dk dx dy dw dn g (rs_up tm k ((tm k) + 1)) pz tk nn vn vt po vl ea la) rfl (fun H locs hP hD hS => ?_)
          refine lv_aload_n hx hb dX4_insert_42 rfl (lv_at hl 0 rfl) ?_
          refine rs_cVV (rest := []) (wr := []) (ws' := fun u_43 => wM aI aJ aL q dd dp dk dx dy dw dn g (rs_up tm k ((tm k) + 1)) pz u_43.1 (rs_cu g (rs_up tm k ((tm k) + 1)) 6) vn vt po vl ea la) ⟨hx, hb, hml, hown, hts⟩ (c_X4_layKnots l D aI aJ aL _ q dd dp dk dx dy dw dn g (rs_up tm k ((tm k) + 1)) pz tk nn vn vt po vl ea la hg htk hc7) (cwV 0 hts (rs_gV rw_462 rw_464 rv_13 rw_5 rw_465) rfl rfl rfl (by decide +kernel) ⟨Nat.le_of_ble_eq_true rfl, Nat.le_of_ble_eq_true rfl⟩) hK hN hP hD hS hA [0, 1, 2, 3, 4, 5, 6, 7, 8, 9, 10, 11, 12] [] [0, 1, 2, 3, 4, 5, 6, 7, 8, 9, 10, 11, 12] (by decide) rfl rfl (fun _ => rfl) 0 rfl rfl hl.1 rfl rfl (Nat.le_of_ble_eq_true rfl) dX4_insert_43 ⟨Nat.le_refl _, Nat.le_refl _⟩ (fun u_43 H locs hP hD hS => ?_)
          have hP : va_P D vwCl (wM aI aJ aL q dd dp dk dx dy dw dn g (rs_up tm k ((tm k) + 1)) pz u_43.1 (rs_cu g (rs_up tm k ((tm k) + 1)) 6) vn vt po vl ea la) H := hP
          have hD : va_D A (wM aI aJ aL q dd dp dk dx dy dw dn g (rs_up tm k ((tm k) + 1)) pz u_43.1 (rs_cu g (rs_up tm k ((tm k) + 1)) 6) vn vt po vl ea la) := hD
          refine lv_aload_n hx hb dX4_insert_46 rfl (lv_at hl 0 rfl) ?_
          refine va_get hx hb hts inX4 hown hK hP 0 (ci := 4) (C := RX4) (T := TX4) (N := 18) rfl rfl 8 (by decide) (hts _ rw_399) (fun _ h => h) (v := .ref (q 5)) rfl dX4_insert_47 ?_
          refine lv_iload_n hx hb dX4_insert_50 rfl (lv_at hl 1 rfl) ?_
          refine rs_iald hx hb hK hP 5 0 rfl rfl (i := k) (by omega) (by decide) (v := nI ((rs_up tm k ((tm k) + 1)) k)) rfl dX4_insert_51 ?_
          exact rs_iret u_43 hx hb hr hlk hQ hK hP hD hS rfl (congrArg nI (rs_up_s _ _ _)) rfl dX4_insert_52
        · have h_27 : g ≤ (tm k) := Nat.le_of_not_lt (fun z => h_27 ((nI_ltI (by omega) (by omega)).2 z))
          omega

def rm_X4_insertF : Room := { frames := 2, cells := 0, slots := 0, locals := 152 }
set_option maxHeartbeats 4000000 in
set_option maxRecDepth 100000 in
theorem c_X4_insertF (l : Launch) (D : va_G) (aI aJ aL : ClassId) (sz : Nat) (q : Nat → Nat) (dd : Nat) (dp : Nat) (dk : Nat) (dx : Nat → Int32) (dy : Nat → Int32) (dw : Nat → Int32) (dn : Nat → Nat) (g : Nat) (tm : Nat → Nat) (pz : Nat → Int64) (tk : Nat → Nat) (nn : Nat) (vn : Nat) (vt : Nat → Nat) (po : Nat → Int64) (vl : Nat → Int64) (ea : Nat → Nat) (la : Nat → Nat) (k : Nat) (hg : g ≤ 3) (htm : ∀ k, tm k ≤ 3) (hk1 : 1 ≤ k) (hk5 : k ≤ 5) (hF : ¬ (0 < g ∧ tm k < g)) : rs_MI (S := Unit) l yX4_insert (Cond.code yX4_insert prog_6_method_15_code 2 (some .int) :: rsW) rm_X4_insertF D vwCl (rs_tys aI aJ aL) rs_nw [.ref (q 0), .int (nI k)] (wM aI aJ aL q dd dp dk dx dy dw dn g tm pz tk nn vn vt po vl ea la) sz ((-1)) (fun uu => wM aI aJ aL q dd dp dk dx dy dw dn g tm pz tk nn vn vt po vl ea la) := by
  refine rs_ent (cc := cX4_insert) (maxL := 2) (ret := some .int) (Qc := rs_QI D vwCl _ _ _) (by decide) rfl (Nat.le_of_ble_eq_true rfl) ?_
  intro p e s m args below meth c ls A Q hx hb hr hml hlk hts hown hin hK hN hP hD hS hA hQ hl
  have hl : lv_has ls 2 [(0, .ref (q 0)), (1, .int (nI k))] := hl
  refine lv_aload_n hx hb dX4_insert_0 rfl (lv_at hl 0 rfl) ?_
  refine va_get hx hb hts inX4 hown hK hP 0 (ci := 4) (C := RX4) (T := TX4) (N := 18) rfl rfl 7 (by decide) (hts _ rw_398) (fun _ h => h) (v := .int (nI g)) rfl dX4_insert_1 ?_
  refine lv_if_eq hx hb dX4_insert_4 (tgt := 30) rfl (fun h_4 => ?_) (fun h_4 => ?_)
  · have h_4 : g = 0 := rs_z1 (by omega) h_4
    refine lv_iconst hx hb dX4_insert_30 (v := (-1)) (by decide) ?_
    exact rs_iret () hx hb hr hlk hQ hK hP hD hS rfl rfl rfl dX4_insert_31
  · have h_4 : 0 < g := rs_z2 (by omega) h_4
    refine lv_iload_n hx hb dX4_insert_7 rfl (lv_at hl 1 rfl) ?_
    refine lv_iconst hx hb dX4_insert_8 (v := nI 1) (by decide) ?_
    refine lv_icmp_lt hx hb dX4_insert_9 (tgt := 30) rfl (fun h_9 => ?_) (fun h_9 => ?_)
    · have h_9 : k < 1 := (nI_ltI (by omega) (by omega)).1 h_9
      refine lv_iconst hx hb dX4_insert_30 (v := (-1)) (by decide) ?_
      exact rs_iret () hx hb hr hlk hQ hK hP hD hS rfl rfl rfl dX4_insert_31
    · have h_9 : 1 ≤ k := Nat.le_of_not_lt (fun z => h_9 ((nI_ltI (by omega) (by omega)).2 z))
      refine lv_iload_n hx hb dX4_insert_12 rfl (lv_at hl 1 rfl) ?_
      refine lv_iconst hx hb dX4_insert_13 (v := nI 5) (by decide) ?_
      refine lv_icmp_gt hx hb dX4_insert_14 (tgt := 30) rfl (fun h_14 => ?_) (fun h_14 => ?_)
      · have h_14 : 5 < k := (nI_ltI (by omega) (by omega)).1 h_14
        refine lv_iconst hx hb dX4_insert_30 (v := (-1)) (by decide) ?_
        exact rs_iret () hx hb hr hlk hQ hK hP hD hS rfl rfl rfl dX4_insert_31
      · have h_14 : k ≤ 5 := Nat.le_of_not_lt (fun z => h_14 ((nI_ltI (by omega) (by omega)).2 z))
        refine lv_aload_n hx hb dX4_insert_17 rfl (lv_at hl 0 rfl) ?_
        refine va_get hx hb hts inX4 hown hK hP 0 (ci := 4) (C := RX4) (T := TX4) (N := 18) rfl rfl 8 (by decide) (hts _ rw_399) (fun _ h => h) (v := .ref (q 5)) rfl dX4_insert_18 ?_
        refine lv_iload_n hx hb dX4_insert_21 rfl (lv_at hl 1 rfl) ?_
        have hb7 := htm k
        refine rs_iald hx hb hK hP 5 0 rfl rfl (i := k) (by omega) (by decide) (v := nI (tm k)) rfl dX4_insert_22 ?_
        refine lv_aload_n hx hb dX4_insert_23 rfl (lv_at hl 0 rfl) ?_
        refine va_get hx hb hts inX4 hown hK hP 0 (ci := 4) (C := RX4) (T := TX4) (N := 18) rfl rfl 7 (by decide) (hts _ rw_398) (fun _ h => h) (v := .int (nI g)) rfl dX4_insert_24 ?_
        refine lv_icmp_lt hx hb dX4_insert_27 (tgt := 32) rfl (fun h_27 => ?_) (fun h_27 => ?_)
        · have h_27 : (tm k) < g := (nI_ltI (by omega) (by omega)).1 h_27
          exact absurd ⟨by omega, h_27⟩ hF
        · have h_27 : g ≤ (tm k) := Nat.le_of_not_lt (fun z => h_27 ((nI_ltI (by omega) (by omega)).2 z))
          refine lv_iconst hx hb dX4_insert_30 (v := (-1)) (by decide) ?_
          exact rs_iret () hx hb hr hlk hQ hK hP hD hS rfl rfl rfl dX4_insert_31

def rm_X4_insertG : Room := { frames := 2, cells := 0, slots := 0, locals := 152 }
set_option maxHeartbeats 4000000 in
set_option maxRecDepth 100000 in
theorem c_X4_insertG (l : Launch) (D : va_G) (aI aJ aL : ClassId) (sz : Nat) (q : Nat → Nat) (dd : Nat) (dp : Nat) (dk : Nat) (dx : Nat → Int32) (dy : Nat → Int32) (dw : Nat → Int32) (dn : Nat → Nat) (g : Nat) (tm : Nat → Nat) (pz : Nat → Int64) (tk : Nat → Nat) (nn : Nat) (vn : Nat) (vt : Nat → Nat) (po : Nat → Int64) (vl : Nat → Int64) (ea : Nat → Nat) (la : Nat → Nat) (k : Int32) (hg : g ≤ 3) (hF : ¬ (¬ k < nI 1 ∧ ¬ nI 5 < k)) : rs_MI (S := Unit) l yX4_insert (Cond.code yX4_insert prog_6_method_15_code 2 (some .int) :: rsW) rm_X4_insertG D vwCl (rs_tys aI aJ aL) rs_nw [.ref (q 0), .int k] (wM aI aJ aL q dd dp dk dx dy dw dn g tm pz tk nn vn vt po vl ea la) sz ((-1)) (fun uu => wM aI aJ aL q dd dp dk dx dy dw dn g tm pz tk nn vn vt po vl ea la) := by
  refine rs_ent (cc := cX4_insert) (maxL := 2) (ret := some .int) (Qc := rs_QI D vwCl _ _ _) (by decide) rfl (Nat.le_of_ble_eq_true rfl) ?_
  intro p e s m args below meth c ls A Q hx hb hr hml hlk hts hown hin hK hN hP hD hS hA hQ hl
  have hl : lv_has ls 2 [(0, .ref (q 0)), (1, .int k)] := hl
  refine lv_aload_n hx hb dX4_insert_0 rfl (lv_at hl 0 rfl) ?_
  refine va_get hx hb hts inX4 hown hK hP 0 (ci := 4) (C := RX4) (T := TX4) (N := 18) rfl rfl 7 (by decide) (hts _ rw_398) (fun _ h => h) (v := .int (nI g)) rfl dX4_insert_1 ?_
  refine lv_if_eq hx hb dX4_insert_4 (tgt := 30) rfl (fun h_4 => ?_) (fun h_4 => ?_)
  · have h_4 : g = 0 := rs_z1 (by omega) h_4
    refine lv_iconst hx hb dX4_insert_30 (v := (-1)) (by decide) ?_
    exact rs_iret () hx hb hr hlk hQ hK hP hD hS rfl rfl rfl dX4_insert_31
  · have h_4 : 0 < g := rs_z2 (by omega) h_4
    refine lv_iload_n hx hb dX4_insert_7 rfl (lv_at hl 1 rfl) ?_
    refine lv_iconst hx hb dX4_insert_8 (v := nI 1) (by decide) ?_
    refine lv_icmp_lt hx hb dX4_insert_9 (tgt := 30) rfl (fun h_9 => ?_) (fun h_9 => ?_)
    · skip
      refine lv_iconst hx hb dX4_insert_30 (v := (-1)) (by decide) ?_
      exact rs_iret () hx hb hr hlk hQ hK hP hD hS rfl rfl rfl dX4_insert_31
    · skip
      refine lv_iload_n hx hb dX4_insert_12 rfl (lv_at hl 1 rfl) ?_
      refine lv_iconst hx hb dX4_insert_13 (v := nI 5) (by decide) ?_
      refine lv_icmp_gt hx hb dX4_insert_14 (tgt := 30) rfl (fun h_14 => ?_) (fun h_14 => ?_)
      · skip
        refine lv_iconst hx hb dX4_insert_30 (v := (-1)) (by decide) ?_
        exact rs_iret () hx hb hr hlk hQ hK hP hD hS rfl rfl rfl dX4_insert_31
      · skip
        exact absurd ⟨h_9, h_14⟩ hF

def rm_X4_drafted : Room := { frames := 1, cells := 0, slots := 0, locals := 64 }
set_option maxHeartbeats 4000000 in
set_option maxRecDepth 100000 in
theorem c_X4_drafted (l : Launch) (D : va_G) (aI aJ aL : ClassId) (sz : Nat) (q : Nat → Nat) (dd : Nat) (dp : Nat) (dk : Nat) (dx : Nat → Int32) (dy : Nat → Int32) (dw : Nat → Int32) (dn : Nat → Nat) (g : Nat) (tm : Nat → Nat) (pz : Nat → Int64) (tk : Nat → Nat) (nn : Nat) (vn : Nat) (vt : Nat → Nat) (po : Nat → Int64) (vl : Nat → Int64) (ea : Nat → Nat) (la : Nat → Nat) (i : Nat) (ax : Nat) (hi : i < 19) (hax : ax < 3) : rs_ML (S := Unit) l yX4_drafted (Cond.code yX4_drafted prog_6_method_8_code 5 (some .long) :: rsW) rm_X4_drafted D vwCl (rs_tys aI aJ aL) rs_nw [.ref (q 0), .int (nI i), .int (nI ax)] (wM aI aJ aL q dd dp dk dx dy dw dn g tm pz tk nn vn vt po vl ea la) sz (rs_dra dx dy dw i ax) (fun uu => wM aI aJ aL q dd dp dk dx dy dw dn g tm pz tk nn vn vt po vl ea la) := by
  refine rs_ent (cc := cX4_drafted) (maxL := 5) (ret := some .long) (Qc := rs_QL D vwCl _ _ _) (by decide) rfl (Nat.le_of_ble_eq_true rfl) ?_
  intro p e s m args below meth c ls A Q hx hb hr hml hlk hts hown hin hK hN hP hD hS hA hQ hl
  have hl : lv_has ls 5 [(0, .ref (q 0)), (1, .int (nI i)), (2, .int (nI ax))] := hl
  refine lv_aload_n hx hb dX4_drafted_0 rfl (lv_at hl 0 rfl) ?_
  refine va_get hx hb hts inX4 hown hK hP 0 (ci := 4) (C := RX4) (T := TX4) (N := 18) rfl rfl 5 (by decide) (hts _ rw_396) (fun _ h => h) (v := .ref (q 3)) rfl dX4_drafted_1 ?_
  refine lv_iload_n hx hb dX4_drafted_4 rfl (lv_at hl 1 rfl) ?_
  refine rs_iald hx hb hK hP 3 0 rfl rfl (i := i) (by omega) (by decide) (v := dw i) rfl dX4_drafted_5 ?_
  refine lv_i2l hx hb dX4_drafted_6 (v := (dw i).toInt64) rfl ?_
  refine lv_lstore_n hx hb dX4_drafted_7 rfl hl (lv' := [(3, .long ((dw i).toInt64)), (0, .ref (q 0)), (1, .int (nI i)), (2, .int (nI ax))]) (by decide) rfl (fun ls hl => ?_)
  refine lv_iload_n hx hb dX4_drafted_8 rfl (lv_at hl 3 rfl) ?_
  refine lv_if_ne hx hb dX4_drafted_9 (tgt := 24) rfl (fun h_9 => ?_) (fun h_9 => ?_)
  · have h_9 : 0 < ax := rs_z2 (by omega) h_9
    refine lv_iload_n hx hb dX4_drafted_24 rfl (lv_at hl 3 rfl) ?_
    refine lv_iconst hx hb dX4_drafted_25 (v := nI 1) (by decide) ?_
    refine lv_icmp_ne hx hb dX4_drafted_26 (tgt := 41) rfl (fun h_26 => ?_) (fun h_26 => ?_)
    · have h_26 : ¬ ax = 1 := fun z => h_26 ((nI_eq (by omega) (by omega)).2 z)
      refine lv_lload_n hx hb dX4_drafted_41 rfl (lv_at hl 0 rfl) ?_
      exact rs_lret () hx hb hr hlk hQ hK hP hD hS (by first | exact (if_pos h_9).symm | exact ((if_neg (by omega)).trans (if_pos h_26)).symm | exact ((if_neg (by omega)).trans (if_neg h_26)).symm) rfl dX4_drafted_42
    · have h_26 : ax = 1 := (nI_eq (by omega) (by omega)).1 h_26
      refine lv_aload_n hx hb dX4_drafted_29 rfl (lv_at hl 1 rfl) ?_
      refine va_get hx hb hts inX4 hown hK hP 0 (ci := 4) (C := RX4) (T := TX4) (N := 18) rfl rfl 4 (by decide) (hts _ rw_395) (fun _ h => h) (v := .ref (q 2)) rfl dX4_drafted_30 ?_
      refine lv_iload_n hx hb dX4_drafted_33 rfl (lv_at hl 2 rfl) ?_
      refine rs_iald hx hb hK hP 2 0 rfl rfl (i := i) (by omega) (by decide) (v := dy i) rfl dX4_drafted_34 ?_
      refine lv_i2l hx hb dX4_drafted_35 (v := (dy i).toInt64) rfl ?_
      refine lv_lload_n hx hb dX4_drafted_36 rfl (lv_at hl 0 rfl) ?_
      refine lv_lmul hx hb dX4_drafted_37 ?_
      refine lv_goto hx hb dX4_drafted_38 (tgt := 42) rfl ?_
      exact rs_lret () hx hb hr hlk hQ hK hP hD hS (by first | exact (if_pos h_9).symm | exact ((if_neg (by omega)).trans (if_pos h_26)).symm | exact ((if_neg (by omega)).trans (if_neg h_26)).symm) rfl dX4_drafted_42
  · have h_9 : ax = 0 := rs_z1 (by omega) h_9
    refine lv_aload_n hx hb dX4_drafted_12 rfl (lv_at hl 1 rfl) ?_
    refine va_get hx hb hts inX4 hown hK hP 0 (ci := 4) (C := RX4) (T := TX4) (N := 18) rfl rfl 3 (by decide) (hts _ rw_394) (fun _ h => h) (v := .ref (q 1)) rfl dX4_drafted_13 ?_
    refine lv_iload_n hx hb dX4_drafted_16 rfl (lv_at hl 2 rfl) ?_
    refine rs_iald hx hb hK hP 1 0 rfl rfl (i := i) (by omega) (by decide) (v := dx i) rfl dX4_drafted_17 ?_
    refine lv_i2l hx hb dX4_drafted_18 (v := (dx i).toInt64) rfl ?_
    refine lv_lload_n hx hb dX4_drafted_19 rfl (lv_at hl 0 rfl) ?_
    refine lv_lmul hx hb dX4_drafted_20 ?_
    refine lv_goto hx hb dX4_drafted_21 (tgt := 42) rfl ?_
    exact rs_lret () hx hb hr hlk hQ hK hP hD hS (by first | exact (if_pos h_9).symm | exact ((if_neg (by omega)).trans (if_pos h_26)).symm | exact ((if_neg (by omega)).trans (if_neg h_26)).symm) rfl dX4_drafted_42

def rm_X4_elevate : Room := { frames := 2, cells := 0, slots := 0, locals := 152 }
set_option maxHeartbeats 4000000 in
set_option maxRecDepth 100000 in
theorem c_X4_elevate (l : Launch) (D : va_G) (aI aJ aL : ClassId) (sz : Nat) (q : Nat → Nat) (dd : Nat) (dp : Nat) (dk : Nat) (dx : Nat → Int32) (dy : Nat → Int32) (dw : Nat → Int32) (dn : Nat → Nat) (g : Nat) (tm : Nat → Nat) (pz : Nat → Int64) (tk : Nat → Nat) (nn : Nat) (vn : Nat) (vt : Nat → Nat) (po : Nat → Int64) (vl : Nat → Int64) (ea : Nat → Nat) (la : Nat → Nat) (hg1 : 1 ≤ g) (hg2 : g ≤ 2) (htk : ∀ i, tk i ≤ 6) (htm : ∀ k, tm k ≤ 3) (hc7 : ∀ j, j ≤ 7 → rs_c7 (g + 1) (rs_elk tm 6) j ≤ 23) : rs_MI (S := {x : Nat → Nat // (∀ i, i < rs_cu (g + 1) (rs_elk tm 6) 6 + (g + 1 + 1) → x i = rs_val (rs_cu (g + 1) (rs_elk tm 6)) i) ∧ ∀ i, x i ≤ 6}) l yX4_elevate (Cond.code yX4_elevate prog_6_method_19_code 2 (some .boolean) :: rsW) rm_X4_elevate D vwCl (rs_tys aI aJ aL) rs_nw [.ref (q 0)] (wM aI aJ aL q dd dp dk dx dy dw dn g tm pz tk nn vn vt po vl ea la) sz (nI 1) (fun uu => wM aI aJ aL q dd dp dk dx dy dw dn (g + 1) (rs_elk tm 6) pz uu.1 (rs_cu (g + 1) (rs_elk tm 6) 6) vn vt po vl ea la) := by
  refine rs_ent (cc := cX4_elevate) (maxL := 2) (ret := some .boolean) (Qc := rs_QI D vwCl _ _ _) (by decide) rfl (Nat.le_of_ble_eq_true rfl) ?_
  intro p e s m args below meth c ls A Q hx hb hr hml hlk hts hown hin hK hN hP hD hS hA hQ hl
  have hl : lv_has ls 2 [(0, .ref (q 0))] := hl
  refine lv_aload_n hx hb dX4_elevate_0 rfl (lv_at hl 0 rfl) ?_
  refine va_get hx hb hts inX4 hown hK hP 0 (ci := 4) (C := RX4) (T := TX4) (N := 18) rfl rfl 7 (by decide) (hts _ rw_398) (fun _ h => h) (v := .int (nI g)) rfl dX4_elevate_1 ?_
  refine lv_if_eq hx hb dX4_elevate_4 (tgt := 15) rfl (fun h_4 => ?_) (fun h_4 => ?_)
  · have h_4 : g = 0 := rs_z1 (by omega) h_4
    omega
  · have h_4 : 0 < g := rs_z2 (by omega) h_4
    refine lv_aload_n hx hb dX4_elevate_7 rfl (lv_at hl 0 rfl) ?_
    refine va_get hx hb hts inX4 hown hK hP 0 (ci := 4) (C := RX4) (T := TX4) (N := 18) rfl rfl 7 (by decide) (hts _ rw_398) (fun _ h => h) (v := .int (nI g)) rfl dX4_elevate_8 ?_
    refine lv_iconst hx hb dX4_elevate_11 (v := nI 3) (by decide) ?_
    refine lv_icmp_ne hx hb dX4_elevate_12 (tgt := 17) rfl (fun h_12 => ?_) (fun h_12 => ?_)
    · have h_12 : ¬ g = 3 := fun z => h_12 ((nI_eq (by omega) (by omega)).2 z)
      refine lv_aload_n hx hb dX4_elevate_17 rfl (lv_at hl 0 rfl) ?_
      refine lv_dup hx hb dX4_elevate_18 rfl ?_
      refine va_get hx hb hts inX4 hown hK hP 0 (ci := 4) (C := RX4) (T := TX4) (N := 18) rfl rfl 7 (by decide) (hts _ rw_398) (fun _ h => h) (v := .int (nI g)) rfl dX4_elevate_19 ?_
      refine lv_iconst hx hb dX4_elevate_22 (v := nI 1) (by decide) ?_
      refine rs_iadd hx hb dX4_elevate_23 (v := nI (g + 1)) (nI_add _ _) ?_
      refine va_put hx hb hts inX4 (ty0 := tyX4) tyX4_ok nmX4 hown hK hP hD hS 0 (ci := 4) (C := RX4) (T := TX4) (N := 18) rfl rfl 7 (by decide) (hts _ rw_398) (fun _ h => h) rfl (ty := .int) (by decide +kernel) rfl rfl (Nat.le_of_ble_eq_true rfl) dX4_elevate_24 (fun H locs hP hD hS => ?_)
      have hP : va_P D vwCl (wM aI aJ aL q dd dp dk dx dy dw dn (g + 1) tm pz tk nn vn vt po vl ea la) H := hP
      have hD : va_D A (wM aI aJ aL q dd dp dk dx dy dw dn (g + 1) tm pz tk nn vn vt po vl ea la) := hD
      refine lv_iconst hx hb dX4_elevate_27 (v := nI 1) (by decide) ?_
      refine lv_istore_n hx hb dX4_elevate_28 rfl hl (lv' := [(1, .int (nI 1)), (0, .ref (q 0))]) (by decide) rfl (fun ls hl => ?_)
      have L_29 : ∀ (k_29 : Nat) (k : Nat) (H : Heap) (locs : List Loc) (ls : Array Slot), 6 - k < k_29 → (1 ≤ k) → (k ≤ 6) → lv_has ls 2 [(0, .ref (q 0)), (1, .int (nI k))] → va_P D vwCl (wM aI aJ aL q dd dp dk dx dy dw dn (g + 1) (rs_elk tm k) pz tk nn vn vt po vl ea la) H → va_D A (wM aI aJ aL q dd dp dk dx dy dw dn (g + 1) (rs_elk tm k) pz tk nn vn vt po vl ea la) → va_S A s.heap H locs → W p l e rm_X4_elevate s m args below meth c H locs 0 0 Q (F0 m 29 ls []) := by
        intro k_29
        induction k_29 with
        | zero => intro k H locs ls hk_29; exact absurd hk_29 (Nat.not_lt_zero _)
        | succ k_29 ih_29 =>
          intro k H locs ls hk_29 hk1 hk hl hP hD hS
          refine lv_iload_n hx hb dX4_elevate_29 rfl (lv_at hl 1 rfl) ?_
          refine lv_iconst hx hb dX4_elevate_30 (v := nI 5) (by decide) ?_
          refine lv_icmp_gt hx hb dX4_elevate_31 (tgt := 67) rfl (fun h_31 => ?_) (fun h_31 => ?_)
          · have h_31 : 5 < k := (nI_ltI (by omega) (by omega)).1 h_31
            have hk6 : k = 6 := by omega
            subst hk6
            refine lv_aload_n hx hb dX4_elevate_67 rfl (lv_at hl 0 rfl) ?_
            refine rs_cVV (rest := []) (wr := []) (ws' := fun u_68 => wM aI aJ aL q dd dp dk dx dy dw dn (g + 1) (rs_elk tm 6) pz u_68.1 (rs_cu (g + 1) (rs_elk tm 6) 6) vn vt po vl ea la) ⟨hx, hb, hml, hown, hts⟩ (c_X4_layKnots l D aI aJ aL _ q dd dp dk dx dy dw dn (g + 1) (rs_elk tm 6) pz tk nn vn vt po vl ea la (by omega) htk hc7) (cwV 0 hts (rs_gV rw_462 rw_464 rv_13 rw_5 rw_465) rfl rfl rfl (by decide +kernel) ⟨Nat.le_of_ble_eq_true rfl, Nat.le_of_ble_eq_true rfl⟩) hK hN hP hD hS hA [0, 1, 2, 3, 4, 5, 6, 7, 8, 9, 10, 11, 12] [] [0, 1, 2, 3, 4, 5, 6, 7, 8, 9, 10, 11, 12] (by decide) rfl rfl (fun _ => rfl) 0 rfl rfl hl.1 rfl rfl (Nat.le_of_ble_eq_true rfl) dX4_elevate_68 ⟨Nat.le_refl _, Nat.le_refl _⟩ (fun u_68 H locs hP hD hS => ?_)
            have hP : va_P D vwCl (wM aI aJ aL q dd dp dk dx dy dw dn (g + 1) (rs_elk tm 6) pz u_68.1 (rs_cu (g + 1) (rs_elk tm 6) 6) vn vt po vl ea la) H := hP
            have hD : va_D A (wM aI aJ aL q dd dp dk dx dy dw dn (g + 1) (rs_elk tm 6) pz u_68.1 (rs_cu (g + 1) (rs_elk tm 6) 6) vn vt po vl ea la) := hD
            refine lv_iconst hx hb dX4_elevate_71 (v := nI 1) (by decide) ?_
            exact rs_iret u_68 hx hb hr hlk hQ hK hP hD hS (by decide) rfl rfl dX4_elevate_72
          · have h_31 : k ≤ 5 := Nat.le_of_not_lt (fun z => h_31 ((nI_ltI (by omega) (by omega)).2 z))
            refine lv_aload_n hx hb dX4_elevate_34 rfl (lv_at hl 0 rfl) ?_
            refine va_get hx hb hts inX4 hown hK hP 0 (ci := 4) (C := RX4) (T := TX4) (N := 18) rfl rfl 8 (by decide) (hts _ rw_399) (fun _ h => h) (v := .ref (q 5)) rfl dX4_elevate_35 ?_
            refine lv_iload_n hx hb dX4_elevate_38 rfl (lv_at hl 1 rfl) ?_
            refine lv_aload_n hx hb dX4_elevate_39 rfl (lv_at hl 0 rfl) ?_
            refine va_get hx hb hts inX4 hown hK hP 0 (ci := 4) (C := RX4) (T := TX4) (N := 18) rfl rfl 8 (by decide) (hts _ rw_399) (fun _ h => h) (v := .ref (q 5)) rfl dX4_elevate_40 ?_
            refine lv_iload_n hx hb dX4_elevate_43 rfl (lv_at hl 1 rfl) ?_
            have hb7 := htm k
            have hb8 := rs_elk_at tm k
            refine rs_iald hx hb hK hP 5 0 rfl rfl (i := k) (by omega) (by decide) (v := nI ((rs_elk tm k) k)) rfl dX4_elevate_44 ?_
            refine lv_if_le hx hb dX4_elevate_45 (tgt := 59) rfl (fun h_45 => ?_) (fun h_45 => ?_)
            · have h_45 : ((rs_elk tm k) k) = 0 := rs_z5 (by omega) h_45
              have e_k : rs_elk tm (k + 1) = rs_up (rs_elk tm k) k 0 := (rs_elk_s tm hk1).trans (congrArg (rs_up (rs_elk tm k) k) (if_pos h_45))
              refine lv_iconst hx hb dX4_elevate_59 (v := nI 0) (by decide) ?_
              refine rs_iast hx hb hK hP hD hS 5 0 rfl rfl (i := k) (by omega) (by decide) (rs_upI _ _ _) dX4_elevate_60 (ws' := wM aI aJ aL q dd dp dk dx dy dw dn (g + 1) (rs_up (rs_elk tm k) k 0) pz tk nn vn vt po vl ea la) rfl (fun H locs hP hD hS => ?_)
              refine lv_iinc hx hb dX4_elevate_61 hl (k := 1) rfl (v := nI (k + 1)) (rs_inc _ _) (by decide) (lv' := [(1, .int (nI (k + 1))), (0, .ref (q 0))]) rfl (fun ls hl => ?_)
              refine lv_goto hx hb dX4_elevate_64 (tgt := 29) rfl ?_
              exact ih_29 (k + 1) _ _ _ (by omega) (by omega) (by omega) (lv_sub hl [1, 0] rfl) (by rw [e_k]; exact hP) (by rw [e_k]; exact hD) hS
            · have h_45 : 0 < ((rs_elk tm k) k) := rs_z6 (by omega) h_45
              have e_k : rs_elk tm (k + 1) = rs_up (rs_elk tm k) k (rs_elk tm k k + 1) := (rs_elk_s tm hk1).trans (congrArg (rs_up (rs_elk tm k) k) (if_neg (by omega)))
              refine lv_aload_n hx hb dX4_elevate_48 rfl (lv_at hl 0 rfl) ?_
              refine va_get hx hb hts inX4 hown hK hP 0 (ci := 4) (C := RX4) (T := TX4) (N := 18) rfl rfl 8 (by decide) (hts _ rw_399) (fun _ h => h) (v := .ref (q 5)) rfl dX4_elevate_49 ?_
              refine lv_iload_n hx hb dX4_elevate_52 rfl (lv_at hl 1 rfl) ?_
              refine rs_iald hx hb hK hP 5 0 rfl rfl (i := k) (by omega) (by decide) (v := nI ((rs_elk tm k) k)) rfl dX4_elevate_53 ?_
              refine lv_iconst hx hb dX4_elevate_54 (v := nI 1) (by decide) ?_
              refine rs_iadd hx hb dX4_elevate_55 (v := nI (((rs_elk tm k) k) + 1)) (nI_add _ _) ?_
              refine lv_goto hx hb dX4_elevate_56 (tgt := 60) rfl ?_
              refine rs_iast hx hb hK hP hD hS 5 0 rfl rfl (i := k) (by omega) (by decide) (rs_upI _ _ _) dX4_elevate_60 (ws' := wM aI aJ aL q dd dp dk dx dy dw dn (g + 1) (rs_up (rs_elk tm k) k (((rs_elk tm k) k) + 1)) pz tk nn vn vt po vl ea la) rfl (fun H locs hP hD hS => ?_)
              refine lv_iinc hx hb dX4_elevate_61 hl (k := 1) rfl (v := nI (k + 1)) (rs_inc _ _) (by decide) (lv' := [(1, .int (nI (k + 1))), (0, .ref (q 0))]) rfl (fun ls hl => ?_)
              refine lv_goto hx hb dX4_elevate_64 (tgt := 29) rfl ?_
              exact ih_29 (k + 1) _ _ _ (by omega) (by omega) (by omega) (lv_sub hl [1, 0] rfl) (by rw [e_k]; exact hP) (by rw [e_k]; exact hD) hS
      exact L_29 ((6 - 1) + 1) 1 _ _ _ (Nat.lt_succ_self _) (by decide) (by decide) (lv_sub hl [1, 0] rfl) (by rw [← rs_elk_1 tm]; exact hP) (by rw [← rs_elk_1 tm]; exact hD) hS
    · have h_12 : g = 3 := (nI_eq (by omega) (by omega)).1 h_12
      omega

def rm_X4_elevateF : Room := { frames := 2, cells := 0, slots := 0, locals := 152 }
set_option maxHeartbeats 4000000 in
set_option maxRecDepth 100000 in
theorem c_X4_elevateF (l : Launch) (D : va_G) (aI aJ aL : ClassId) (sz : Nat) (q : Nat → Nat) (dd : Nat) (dp : Nat) (dk : Nat) (dx : Nat → Int32) (dy : Nat → Int32) (dw : Nat → Int32) (dn : Nat → Nat) (g : Nat) (tm : Nat → Nat) (pz : Nat → Int64) (tk : Nat → Nat) (nn : Nat) (vn : Nat) (vt : Nat → Nat) (po : Nat → Int64) (vl : Nat → Int64) (ea : Nat → Nat) (la : Nat → Nat) (hg : g ≤ 3) (hF : g = 0 ∨ g = 3) : rs_MI (S := Unit) l yX4_elevate (Cond.code yX4_elevate prog_6_method_19_code 2 (some .boolean) :: rsW) rm_X4_elevateF D vwCl (rs_tys aI aJ aL) rs_nw [.ref (q 0)] (wM aI aJ aL q dd dp dk dx dy dw dn g tm pz tk nn vn vt po vl ea la) sz (nI 0) (fun uu => wM aI aJ aL q dd dp dk dx dy dw dn g tm pz tk nn vn vt po vl ea la) := by
  refine rs_ent (cc := cX4_elevate) (maxL := 2) (ret := some .boolean) (Qc := rs_QI D vwCl _ _ _) (by decide) rfl (Nat.le_of_ble_eq_true rfl) ?_
  intro p e s m args below meth c ls A Q hx hb hr hml hlk hts hown hin hK hN hP hD hS hA hQ hl
  have hl : lv_has ls 2 [(0, .ref (q 0))] := hl
  refine lv_aload_n hx hb dX4_elevate_0 rfl (lv_at hl 0 rfl) ?_
  refine va_get hx hb hts inX4 hown hK hP 0 (ci := 4) (C := RX4) (T := TX4) (N := 18) rfl rfl 7 (by decide) (hts _ rw_398) (fun _ h => h) (v := .int (nI g)) rfl dX4_elevate_1 ?_
  refine lv_if_eq hx hb dX4_elevate_4 (tgt := 15) rfl (fun h_4 => ?_) (fun h_4 => ?_)
  · have h_4 : g = 0 := rs_z1 (by omega) h_4
    refine lv_iconst hx hb dX4_elevate_15 (v := nI 0) (by decide) ?_
    exact rs_iret () hx hb hr hlk hQ hK hP hD hS (by decide) rfl rfl dX4_elevate_16
  · have h_4 : 0 < g := rs_z2 (by omega) h_4
    refine lv_aload_n hx hb dX4_elevate_7 rfl (lv_at hl 0 rfl) ?_
    refine va_get hx hb hts inX4 hown hK hP 0 (ci := 4) (C := RX4) (T := TX4) (N := 18) rfl rfl 7 (by decide) (hts _ rw_398) (fun _ h => h) (v := .int (nI g)) rfl dX4_elevate_8 ?_
    refine lv_iconst hx hb dX4_elevate_11 (v := nI 3) (by decide) ?_
    refine lv_icmp_ne hx hb dX4_elevate_12 (tgt := 17) rfl (fun h_12 => ?_) (fun h_12 => ?_)
    · have h_12 : ¬ g = 3 := fun z => h_12 ((nI_eq (by omega) (by omega)).2 z)
      omega
    · have h_12 : g = 3 := (nI_eq (by omega) (by omega)).1 h_12
      refine lv_iconst hx hb dX4_elevate_15 (v := nI 0) (by decide) ?_
      exact rs_iret () hx hb hr hlk hQ hK hP hD hS (by decide) rfl rfl dX4_elevate_16

def rm_X4_decompose : Room := { frames := 2, cells := 0, slots := 0, locals := 152 }
set_option maxHeartbeats 4000000 in
set_option maxRecDepth 100000 in
theorem c_X4_decompose (l : Launch) (D : va_G) (aI aJ aL : ClassId) (sz : Nat) (q : Nat → Nat) (dd : Nat) (dp : Nat) (dk : Nat) (dx : Nat → Int32) (dy : Nat → Int32) (dw : Nat → Int32) (dn : Nat → Nat) (g : Nat) (tm : Nat → Nat) (pz : Nat → Int64) (tk : Nat → Nat) (nn : Nat) (vn : Nat) (vt : Nat → Nat) (po : Nat → Int64) (vl : Nat → Int64) (ea : Nat → Nat) (la : Nat → Nat) (hg1 : 1 ≤ g) (hg : g ≤ 3) (htk : ∀ i, tk i ≤ 6) (htm : ∀ k, tm k ≤ g) (hc7 : ∀ j, j ≤ 7 → rs_c7 g (rs_dck g tm 6) j ≤ 23) : rs_MI (S := {x : Nat → Nat // (∀ i, i < rs_cu g (rs_dck g tm 6) 6 + (g + 1) → x i = rs_val (rs_cu g (rs_dck g tm 6)) i) ∧ ∀ i, x i ≤ 6}) l yX4_decompose (Cond.code yX4_decompose prog_6_method_17_code 3 (some .int) :: rsW) rm_X4_decompose D vwCl (rs_tys aI aJ aL) rs_nw [.ref (q 0)] (wM aI aJ aL q dd dp dk dx dy dw dn g tm pz tk nn vn vt po vl ea la) sz (nI (rs_dcs g tm 5)) (fun uu => wM aI aJ aL q dd dp dk dx dy dw dn g (rs_dck g tm 6) pz uu.1 (rs_cu g (rs_dck g tm 6) 6) vn vt po vl ea la) := by
  refine rs_ent (cc := cX4_decompose) (maxL := 3) (ret := some .int) (Qc := rs_QI D vwCl _ _ _) (by decide) rfl (Nat.le_of_ble_eq_true rfl) ?_
  intro p e s m args below meth c ls A Q hx hb hr hml hlk hts hown hin hK hN hP hD hS hA hQ hl
  have hl : lv_has ls 3 [(0, .ref (q 0))] := hl
  refine lv_aload_n hx hb dX4_decompose_0 rfl (lv_at hl 0 rfl) ?_
  refine va_get hx hb hts inX4 hown hK hP 0 (ci := 4) (C := RX4) (T := TX4) (N := 18) rfl rfl 7 (by decide) (hts _ rw_398) (fun _ h => h) (v := .int (nI g)) rfl dX4_decompose_1 ?_
  refine lv_if_ne hx hb dX4_decompose_4 (tgt := 9) rfl (fun h_4 => ?_) (fun h_4 => ?_)
  · have h_4 : 0 < g := rs_z2 (by omega) h_4
    refine lv_iconst hx hb dX4_decompose_9 (v := nI 0) (by decide) ?_
    refine lv_istore_n hx hb dX4_decompose_10 rfl hl (lv' := [(1, .int (nI 0)), (0, .ref (q 0))]) (by decide) rfl (fun ls hl => ?_)
    refine lv_iconst hx hb dX4_decompose_11 (v := nI 1) (by decide) ?_
    refine lv_istore_n hx hb dX4_decompose_12 rfl hl (lv' := [(2, .int (nI 1)), (1, .int (nI 0)), (0, .ref (q 0))]) (by decide) rfl (fun ls hl => ?_)
    have L_13 : ∀ (k_13 : Nat) (k : Nat) (H : Heap) (locs : List Loc) (ls : Array Slot), 5 - k < k_13 → (k ≤ 5) → lv_has ls 3 [(0, .ref (q 0)), (1, .int (nI (rs_dcs g tm k))), (2, .int (nI (k + 1)))] → va_P D vwCl (wM aI aJ aL q dd dp dk dx dy dw dn g (rs_dck g tm (k + 1)) pz tk nn vn vt po vl ea la) H → va_D A (wM aI aJ aL q dd dp dk dx dy dw dn g (rs_dck g tm (k + 1)) pz tk nn vn vt po vl ea la) → va_S A s.heap H locs → W p l e rm_X4_decompose s m args below meth c H locs 0 0 Q (F0 m 13 ls []) := by
      intro k_13
      induction k_13 with
      | zero => intro k H locs ls hk_13; exact absurd hk_13 (Nat.not_lt_zero _)
      | succ k_13 ih_13 =>
        intro k H locs ls hk_13 hk hl hP hD hS
        refine lv_iload_n hx hb dX4_decompose_13 rfl (lv_at hl 2 rfl) ?_
        refine lv_iconst hx hb dX4_decompose_14 (v := nI 5) (by decide) ?_
        refine lv_icmp_gt hx hb dX4_decompose_15 (tgt := 57) rfl (fun h_15 => ?_) (fun h_15 => ?_)
        · have h_15 : 5 < (k + 1) := (nI_ltI (by omega) (by omega)).1 h_15
          have hk6 : k = 5 := by omega
          subst hk6
          refine lv_aload_n hx hb dX4_decompose_57 rfl (lv_at hl 0 rfl) ?_
          refine rs_cVV (rest := []) (wr := []) (ws' := fun u_58 => wM aI aJ aL q dd dp dk dx dy dw dn g (rs_dck g tm (5 + 1)) pz u_58.1 (rs_cu g (rs_dck g tm (5 + 1)) 6) vn vt po vl ea la) ⟨hx, hb, hml, hown, hts⟩ (c_X4_layKnots l D aI aJ aL _ q dd dp dk dx dy dw dn g (rs_dck g tm (5 + 1)) pz tk nn vn vt po vl ea la hg htk hc7) (cwV 0 hts (rs_gV rw_462 rw_464 rv_13 rw_5 rw_465) rfl rfl rfl (by decide +kernel) ⟨Nat.le_of_ble_eq_true rfl, Nat.le_of_ble_eq_true rfl⟩) hK hN hP hD hS hA [0, 1, 2, 3, 4, 5, 6, 7, 8, 9, 10, 11, 12] [] [0, 1, 2, 3, 4, 5, 6, 7, 8, 9, 10, 11, 12] (by decide) rfl rfl (fun _ => rfl) 0 rfl rfl hl.1 rfl rfl (Nat.le_of_ble_eq_true rfl) dX4_decompose_58 ⟨Nat.le_refl _, Nat.le_refl _⟩ (fun u_58 H locs hP hD hS => ?_)
          have hP : va_P D vwCl (wM aI aJ aL q dd dp dk dx dy dw dn g (rs_dck g tm (5 + 1)) pz u_58.1 (rs_cu g (rs_dck g tm (5 + 1)) 6) vn vt po vl ea la) H := hP
          have hD : va_D A (wM aI aJ aL q dd dp dk dx dy dw dn g (rs_dck g tm (5 + 1)) pz u_58.1 (rs_cu g (rs_dck g tm (5 + 1)) 6) vn vt po vl ea la) := hD
          refine lv_iload_n hx hb dX4_decompose_61 rfl (lv_at hl 1 rfl) ?_
          exact rs_iret u_58 hx hb hr hlk hQ hK hP hD hS rfl rfl rfl dX4_decompose_62
        · have h_15 : (k + 1) ≤ 5 := Nat.le_of_not_lt (fun z => h_15 ((nI_ltI (by omega) (by omega)).2 z))
          refine lv_aload_n hx hb dX4_decompose_18 rfl (lv_at hl 0 rfl) ?_
          refine va_get hx hb hts inX4 hown hK hP 0 (ci := 4) (C := RX4) (T := TX4) (N := 18) rfl rfl 8 (by decide) (hts _ rw_399) (fun _ h => h) (v := .ref (q 5)) rfl dX4_decompose_19 ?_
          refine lv_iload_n hx hb dX4_decompose_22 rfl (lv_at hl 2 rfl) ?_
          have hb7 := htm (k + 1)
          have hb8 := rs_dck_at g tm (k + 1)
          have hb9 := rs_dcs_b g tm hg k
          refine rs_iald hx hb hK hP 5 0 rfl rfl (i := (k + 1)) (by omega) (by decide) (v := nI ((rs_dck g tm (k + 1)) (k + 1))) rfl dX4_decompose_23 ?_
          refine lv_if_le hx hb dX4_decompose_24 (tgt := 51) rfl (fun h_24 => ?_) (fun h_24 => ?_)
          · have h_24 : ((rs_dck g tm (k + 1)) (k + 1)) = 0 := rs_z5 (by omega) h_24
            have e_k : rs_dck g tm (k + 1 + 1) = rs_dck g tm (k + 1) := rs_dck_z g tm (by omega)
            have e_s : rs_dcs g tm (k + 1) = rs_dcs g tm k := if_neg (by omega)
            refine lv_iinc hx hb dX4_decompose_51 hl (k := 2) rfl (v := nI ((k + 1) + 1)) (rs_inc _ _) (by decide) (lv' := [(2, .int (nI ((k + 1) + 1))), (0, .ref (q 0)), (1, .int (nI (rs_dcs g tm k)))]) rfl (fun ls hl => ?_)
            refine lv_goto hx hb dX4_decompose_54 (tgt := 13) rfl ?_
            exact ih_13 (k + 1) _ _ _ (by omega) (by omega) (by rw [e_s]; exact lv_sub hl [1, 2, 0] rfl) (by rw [e_k]; exact hP) (by rw [e_k]; exact hD) hS
          · have h_24 : 0 < ((rs_dck g tm (k + 1)) (k + 1)) := rs_z6 (by omega) h_24
            have e_k : rs_dck g tm (k + 1 + 1) = rs_up (rs_dck g tm (k + 1)) (k + 1) g := rs_dck_p g tm (by omega) (by omega)
            have e_s : rs_dcs g tm (k + 1) = rs_dcs g tm k + g - rs_dck g tm (k + 1) (k + 1) := by rw [hb8]; exact if_pos (by omega)
            refine lv_iload_n hx hb dX4_decompose_27 rfl (lv_at hl 1 rfl) ?_
            refine lv_aload_n hx hb dX4_decompose_28 rfl (lv_at hl 0 rfl) ?_
            refine va_get hx hb hts inX4 hown hK hP 0 (ci := 4) (C := RX4) (T := TX4) (N := 18) rfl rfl 7 (by decide) (hts _ rw_398) (fun _ h => h) (v := .int (nI g)) rfl dX4_decompose_29 ?_
            refine rs_iadd hx hb dX4_decompose_32 (v := nI ((rs_dcs g tm k) + g)) (nI_add _ _) ?_
            refine lv_aload_n hx hb dX4_decompose_33 rfl (lv_at hl 0 rfl) ?_
            refine va_get hx hb hts inX4 hown hK hP 0 (ci := 4) (C := RX4) (T := TX4) (N := 18) rfl rfl 8 (by decide) (hts _ rw_399) (fun _ h => h) (v := .ref (q 5)) rfl dX4_decompose_34 ?_
            refine lv_iload_n hx hb dX4_decompose_37 rfl (lv_at hl 2 rfl) ?_
            refine rs_iald hx hb hK hP 5 0 rfl rfl (i := (k + 1)) (by omega) (by decide) (v := nI ((rs_dck g tm (k + 1)) (k + 1))) rfl dX4_decompose_38 ?_
            refine rs_isub hx hb dX4_decompose_39 (v := nI (((rs_dcs g tm k) + g) - ((rs_dck g tm (k + 1)) (k + 1)))) (pk_sub (by omega)) ?_
            refine lv_istore_n hx hb dX4_decompose_40 rfl hl (lv' := [(1, .int (nI (((rs_dcs g tm k) + g) - ((rs_dck g tm (k + 1)) (k + 1))))), (0, .ref (q 0)), (2, .int (nI (k + 1)))]) (by decide) rfl (fun ls hl => ?_)
            refine lv_aload_n hx hb dX4_decompose_41 rfl (lv_at hl 1 rfl) ?_
            refine va_get hx hb hts inX4 hown hK hP 0 (ci := 4) (C := RX4) (T := TX4) (N := 18) rfl rfl 8 (by decide) (hts _ rw_399) (fun _ h => h) (v := .ref (q 5)) rfl dX4_decompose_42 ?_
            refine lv_iload_n hx hb dX4_decompose_45 rfl (lv_at hl 2 rfl) ?_
            refine lv_aload_n hx hb dX4_decompose_46 rfl (lv_at hl 1 rfl) ?_
            refine va_get hx hb hts inX4 hown hK hP 0 (ci := 4) (C := RX4) (T := TX4) (N := 18) rfl rfl 7 (by decide) (hts _ rw_398) (fun _ h => h) (v := .int (nI g)) rfl dX4_decompose_47 ?_
            refine rs_iast hx hb hK hP hD hS 5 0 rfl rfl (i := (k + 1)) (by omega) (by decide) (rs_upI _ _ _) dX4_decompose_50 (ws' := wM aI aJ aL q dd dp dk dx dy dw dn g (rs_up (rs_dck g tm (k + 1)) (k + 1) g) pz tk nn vn vt po vl ea la) rfl (fun H locs hP hD hS => ?_)
            refine lv_iinc hx hb dX4_decompose_51 hl (k := 2) rfl (v := nI ((k + 1) + 1)) (rs_inc _ _) (by decide) (lv' := [(2, .int (nI ((k + 1) + 1))), (1, .int (nI (((rs_dcs g tm k) + g) - ((rs_dck g tm (k + 1)) (k + 1))))), (0, .ref (q 0))]) rfl (fun ls hl => ?_)
            refine lv_goto hx hb dX4_decompose_54 (tgt := 13) rfl ?_
            exact ih_13 (k + 1) _ _ _ (by omega) (by omega) (by rw [e_s]; exact lv_sub hl [2, 1, 0] rfl) (by rw [e_k]; exact hP) (by rw [e_k]; exact hD) hS
    exact L_13 ((5 - 0) + 1) 0 _ _ _ (Nat.lt_succ_self _) (by omega) (lv_sub hl [2, 1, 0] rfl) (by rw [← rs_dck_1 g tm]; exact hP) (by rw [← rs_dck_1 g tm]; exact hD) hS
  · have h_4 : g = 0 := rs_z1 (by omega) h_4
    omega

def rm_X4_decomposeF : Room := { frames := 2, cells := 0, slots := 0, locals := 152 }
set_option maxHeartbeats 4000000 in
set_option maxRecDepth 100000 in
theorem c_X4_decomposeF (l : Launch) (D : va_G) (aI aJ aL : ClassId) (sz : Nat) (q : Nat → Nat) (dd : Nat) (dp : Nat) (dk : Nat) (dx : Nat → Int32) (dy : Nat → Int32) (dw : Nat → Int32) (dn : Nat → Nat) (g : Nat) (tm : Nat → Nat) (pz : Nat → Int64) (tk : Nat → Nat) (nn : Nat) (vn : Nat) (vt : Nat → Nat) (po : Nat → Int64) (vl : Nat → Int64) (ea : Nat → Nat) (la : Nat → Nat) (hF : g = 0) : rs_MI (S := Unit) l yX4_decompose (Cond.code yX4_decompose prog_6_method_17_code 3 (some .int) :: rsW) rm_X4_decomposeF D vwCl (rs_tys aI aJ aL) rs_nw [.ref (q 0)] (wM aI aJ aL q dd dp dk dx dy dw dn g tm pz tk nn vn vt po vl ea la) sz ((-1)) (fun uu => wM aI aJ aL q dd dp dk dx dy dw dn g tm pz tk nn vn vt po vl ea la) := by
  refine rs_ent (cc := cX4_decompose) (maxL := 3) (ret := some .int) (Qc := rs_QI D vwCl _ _ _) (by decide) rfl (Nat.le_of_ble_eq_true rfl) ?_
  intro p e s m args below meth c ls A Q hx hb hr hml hlk hts hown hin hK hN hP hD hS hA hQ hl
  have hl : lv_has ls 3 [(0, .ref (q 0))] := hl
  refine lv_aload_n hx hb dX4_decompose_0 rfl (lv_at hl 0 rfl) ?_
  refine va_get hx hb hts inX4 hown hK hP 0 (ci := 4) (C := RX4) (T := TX4) (N := 18) rfl rfl 7 (by decide) (hts _ rw_398) (fun _ h => h) (v := .int (nI g)) rfl dX4_decompose_1 ?_
  refine lv_if_ne hx hb dX4_decompose_4 (tgt := 9) rfl (fun h_4 => ?_) (fun h_4 => ?_)
  · have h_4 : 0 < g := rs_z2 (by omega) h_4
    omega
  · have h_4 : g = 0 := rs_z1 (by omega) h_4
    refine lv_iconst hx hb dX4_decompose_7 (v := (-1)) (by decide) ?_
    exact rs_iret () hx hb hr hlk hQ hK hP hD hS rfl rfl rfl dX4_decompose_8
