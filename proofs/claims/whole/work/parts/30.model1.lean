def rm_X4_begin : Room := { frames := 1, cells := 0, slots := 0, locals := 64 }
set_option maxHeartbeats 4000000 in
set_option maxRecDepth 100000 in
theorem c_X4_begin (l : Launch) (D : va_G) (aI aJ aL : ClassId) (sz : Nat) (q : Nat → Nat) (dd : Nat) (dp : Nat) (dk : Nat) (dx : Nat → Int32) (dy : Nat → Int32) (dw : Nat → Int32) (dn : Nat → Nat) (g : Nat) (tm : Nat → Nat) (pz : Nat → Int64) (tk : Nat → Nat) (nn : Nat) (vn : Nat) (vt : Nat → Nat) (po : Nat → Int64) (vl : Nat → Int64) (ea : Nat → Nat) (la : Nat → Nat) (x : Nat) (hx1 : 1 ≤ x) (hx3 : x ≤ 3) : rs_MI (S := Unit) l yX4_begin (Cond.code yX4_begin prog_6_method_2_code 2 (some .boolean) :: rsW) rm_X4_begin D vwCl (rs_tys aI aJ aL) rs_nw [.ref (q 0), .int (nI x)] (wM aI aJ aL q dd dp dk dx dy dw dn g tm pz tk nn vn vt po vl ea la) sz (nI 1) (fun uu => wM aI aJ aL q x 0 0 dx dy dw dn g tm pz tk nn vn vt po vl ea la) := by
  refine rs_ent (cc := cX4_begin) (maxL := 2) (ret := some .boolean) (Qc := rs_QI D vwCl _ _ _) (by decide) rfl (Nat.le_of_ble_eq_true rfl) ?_
  intro p e s m args below meth c ls A Q hx hb hr hml hlk hts hown hin hK hN hP hD hS hA hQ hl
  have hl : lv_has ls 2 [(0, .ref (q 0)), (1, .int (nI x))] := hl
  refine lv_iload_n hx hb dX4_begin_0 rfl (lv_at hl 1 rfl) ?_
  refine lv_iconst hx hb dX4_begin_1 (v := nI 1) (by decide) ?_
  refine lv_icmp_lt hx hb dX4_begin_2 (tgt := 10) rfl (fun h_2 => ?_) (fun h_2 => ?_)
  · have h_2 : x < 1 := (nI_ltI (by omega) (by omega)).1 h_2
    omega
  · have h_2 : 1 ≤ x := Nat.le_of_not_lt (fun z => h_2 ((nI_ltI (by omega) (by omega)).2 z))
    refine lv_iload_n hx hb dX4_begin_5 rfl (lv_at hl 1 rfl) ?_
    refine lv_iconst hx hb dX4_begin_6 (v := nI 3) (by decide) ?_
    refine lv_icmp_le hx hb dX4_begin_7 (tgt := 12) rfl (fun h_7 => ?_) (fun h_7 => ?_)
    · have h_7 : x ≤ 3 := (nI_leI (by omega) (by omega)).1 h_7
      refine lv_aload_n hx hb dX4_begin_12 rfl (lv_at hl 0 rfl) ?_
      refine lv_iload_n hx hb dX4_begin_13 rfl (lv_at hl 1 rfl) ?_
      refine va_put hx hb hts inX4 (ty0 := tyX4) tyX4_ok nmX4 hown hK hP hD hS 0 (ci := 4) (C := RX4) (T := TX4) (N := 18) rfl rfl 0 (by decide) (hts _ rw_391) (fun _ h => h) rfl (ty := .int) (by decide +kernel) rfl rfl (Nat.le_of_ble_eq_true rfl) dX4_begin_14 (fun H locs hP hD hS => ?_)
      have hP : va_P D vwCl (wM aI aJ aL q x dp dk dx dy dw dn g tm pz tk nn vn vt po vl ea la) H := hP
      have hD : va_D A (wM aI aJ aL q x dp dk dx dy dw dn g tm pz tk nn vn vt po vl ea la) := hD
      refine lv_aload_n hx hb dX4_begin_17 rfl (lv_at hl 0 rfl) ?_
      refine lv_iconst hx hb dX4_begin_18 (v := nI 0) (by decide) ?_
      refine va_put hx hb hts inX4 (ty0 := tyX4) tyX4_ok nmX4 hown hK hP hD hS 0 (ci := 4) (C := RX4) (T := TX4) (N := 18) rfl rfl 1 (by decide) (hts _ rw_392) (fun _ h => h) rfl (ty := .int) (by decide +kernel) rfl rfl (Nat.le_of_ble_eq_true rfl) dX4_begin_19 (fun H locs hP hD hS => ?_)
      have hP : va_P D vwCl (wM aI aJ aL q x 0 dk dx dy dw dn g tm pz tk nn vn vt po vl ea la) H := hP
      have hD : va_D A (wM aI aJ aL q x 0 dk dx dy dw dn g tm pz tk nn vn vt po vl ea la) := hD
      refine lv_aload_n hx hb dX4_begin_22 rfl (lv_at hl 0 rfl) ?_
      refine lv_iconst hx hb dX4_begin_23 (v := nI 0) (by decide) ?_
      refine va_put hx hb hts inX4 (ty0 := tyX4) tyX4_ok nmX4 hown hK hP hD hS 0 (ci := 4) (C := RX4) (T := TX4) (N := 18) rfl rfl 2 (by decide) (hts _ rw_393) (fun _ h => h) rfl (ty := .int) (by decide +kernel) rfl rfl (Nat.le_of_ble_eq_true rfl) dX4_begin_24 (fun H locs hP hD hS => ?_)
      have hP : va_P D vwCl (wM aI aJ aL q x 0 0 dx dy dw dn g tm pz tk nn vn vt po vl ea la) H := hP
      have hD : va_D A (wM aI aJ aL q x 0 0 dx dy dw dn g tm pz tk nn vn vt po vl ea la) := hD
      refine lv_iconst hx hb dX4_begin_27 (v := nI 1) (by decide) ?_
      exact rs_iret () hx hb hr hlk hQ hK hP hD hS (by decide) rfl rfl dX4_begin_28
    · have h_7 : 3 < x := Nat.lt_of_not_le (fun z => h_7 ((nI_leI (by omega) (by omega)).2 z))
      omega

def rm_X4_beginF : Room := { frames := 1, cells := 0, slots := 0, locals := 64 }
set_option maxHeartbeats 4000000 in
set_option maxRecDepth 100000 in
theorem c_X4_beginF (l : Launch) (D : va_G) (aI aJ aL : ClassId) (sz : Nat) (q : Nat → Nat) (dd : Nat) (dp : Nat) (dk : Nat) (dx : Nat → Int32) (dy : Nat → Int32) (dw : Nat → Int32) (dn : Nat → Nat) (g : Nat) (tm : Nat → Nat) (pz : Nat → Int64) (tk : Nat → Nat) (nn : Nat) (vn : Nat) (vt : Nat → Nat) (po : Nat → Int64) (vl : Nat → Int64) (ea : Nat → Nat) (la : Nat → Nat) (x : Int32) (hF : x < nI 1 ∨ nI 3 < x) : rs_MI (S := Unit) l yX4_begin (Cond.code yX4_begin prog_6_method_2_code 2 (some .boolean) :: rsW) rm_X4_beginF D vwCl (rs_tys aI aJ aL) rs_nw [.ref (q 0), .int x] (wM aI aJ aL q dd dp dk dx dy dw dn g tm pz tk nn vn vt po vl ea la) sz (nI 0) (fun uu => wM aI aJ aL q dd dp dk dx dy dw dn g tm pz tk nn vn vt po vl ea la) := by
  refine rs_ent (cc := cX4_begin) (maxL := 2) (ret := some .boolean) (Qc := rs_QI D vwCl _ _ _) (by decide) rfl (Nat.le_of_ble_eq_true rfl) ?_
  intro p e s m args below meth c ls A Q hx hb hr hml hlk hts hown hin hK hN hP hD hS hA hQ hl
  have hl : lv_has ls 2 [(0, .ref (q 0)), (1, .int x)] := hl
  refine lv_iload_n hx hb dX4_begin_0 rfl (lv_at hl 1 rfl) ?_
  refine lv_iconst hx hb dX4_begin_1 (v := nI 1) (by decide) ?_
  refine lv_icmp_lt hx hb dX4_begin_2 (tgt := 10) rfl (fun h_2 => ?_) (fun h_2 => ?_)
  · skip
    refine lv_iconst hx hb dX4_begin_10 (v := nI 0) (by decide) ?_
    exact rs_iret () hx hb hr hlk hQ hK hP hD hS (by decide) rfl rfl dX4_begin_11
  · skip
    refine lv_iload_n hx hb dX4_begin_5 rfl (lv_at hl 1 rfl) ?_
    refine lv_iconst hx hb dX4_begin_6 (v := nI 3) (by decide) ?_
    refine lv_icmp_le hx hb dX4_begin_7 (tgt := 12) rfl (fun h_7 => ?_) (fun h_7 => ?_)
    · skip
      exact absurd hF (fun z => z.elim h_2 (fun z2 => Int32.not_le.mpr z2 h_7))
    · skip
      refine lv_iconst hx hb dX4_begin_10 (v := nI 0) (by decide) ?_
      exact rs_iret () hx hb hr hlk hQ hK hP hD hS (by decide) rfl rfl dX4_begin_11

def rm_X4_point : Room := { frames := 1, cells := 0, slots := 0, locals := 64 }
set_option maxHeartbeats 4000000 in
set_option maxRecDepth 100000 in
theorem c_X4_point (l : Launch) (D : va_G) (aI aJ aL : ClassId) (sz : Nat) (q : Nat → Nat) (dd : Nat) (dp : Nat) (dk : Nat) (dx : Nat → Int32) (dy : Nat → Int32) (dw : Nat → Int32) (dn : Nat → Nat) (g : Nat) (tm : Nat → Nat) (pz : Nat → Int64) (tk : Nat → Nat) (nn : Nat) (vn : Nat) (vt : Nat → Nat) (po : Nat → Int64) (vl : Nat → Int64) (ea : Nat → Nat) (la : Nat → Nat) (x : Int32) (y : Int32) (w : Int32) (hdd : dd ≤ 3) (hdp : dp ≤ 19) : rs_MI (S := Unit) l yX4_point (Cond.code yX4_point prog_6_method_3_code 4 (some .boolean) :: rsW) rm_X4_point D vwCl (rs_tys aI aJ aL) rs_nw [.ref (q 0), .int x, .int y, .int w] (wM aI aJ aL q dd dp dk dx dy dw dn g tm pz tk nn vn vt po vl ea la) sz (rs_b (decide (rs_okp dd dp x y w))) (fun uu => if rs_okp dd dp x y w then wM aI aJ aL q dd (dp + 1) dk (upd dx dp x) (upd dy dp y) (upd dw dp w) dn g tm pz tk nn vn vt po vl ea la else wM aI aJ aL q dd dp dk dx dy dw dn g tm pz tk nn vn vt po vl ea la) := by
  refine rs_ent (cc := cX4_point) (maxL := 4) (ret := some .boolean) (Qc := rs_QI D vwCl _ _ _) (by decide) rfl (Nat.le_of_ble_eq_true rfl) ?_
  intro p e s m args below meth c ls A Q hx hb hr hml hlk hts hown hin hK hN hP hD hS hA hQ hl
  have hl : lv_has ls 4 [(0, .ref (q 0)), (1, .int x), (2, .int y), (3, .int w)] := hl
  refine lv_aload_n hx hb dX4_point_0 rfl (lv_at hl 0 rfl) ?_
  refine va_get hx hb hts inX4 hown hK hP 0 (ci := 4) (C := RX4) (T := TX4) (N := 18) rfl rfl 0 (by decide) (hts _ rw_391) (fun _ h => h) (v := .int (nI dd)) rfl dX4_point_1 ?_
  refine lv_if_eq hx hb dX4_point_4 (tgt := 55) rfl (fun h_4 => ?_) (fun h_4 => ?_)
  · have h_4 : dd = 0 := rs_z1 (by omega) h_4
    refine lv_iconst hx hb dX4_point_55 (v := nI 0) (by decide) ?_
    have hno : ¬ rs_okp dd dp x y w := (by rintro ⟨z1, z2, z3, z4, z5, z6⟩; first | omega | exact z3.1 h_20 | exact z3.2 h_27 | exact z4.1 h_34 | exact z4.2 h_41 | exact z5 h_46 | exact h_52 z6)
    exact rs_iret () hx hb hr hlk hQ hK hP hD hS (by decide) (rs_bF hno) (if_neg hno).symm dX4_point_56
  · have h_4 : 0 < dd := rs_z2 (by omega) h_4
    refine lv_aload_n hx hb dX4_point_7 rfl (lv_at hl 0 rfl) ?_
    refine va_get hx hb hts inX4 hown hK hP 0 (ci := 4) (C := RX4) (T := TX4) (N := 18) rfl rfl 1 (by decide) (hts _ rw_392) (fun _ h => h) (v := .int (nI dp)) rfl dX4_point_8 ?_
    refine lv_bipush hx hb dX4_point_11 (v := nI 19) (by decide) ?_
    refine lv_icmp_eq hx hb dX4_point_13 (tgt := 55) rfl (fun h_13 => ?_) (fun h_13 => ?_)
    · have h_13 : dp = 19 := (nI_eq (by omega) (by omega)).1 h_13
      refine lv_iconst hx hb dX4_point_55 (v := nI 0) (by decide) ?_
      have hno : ¬ rs_okp dd dp x y w := (by rintro ⟨z1, z2, z3, z4, z5, z6⟩; first | omega | exact z3.1 h_20 | exact z3.2 h_27 | exact z4.1 h_34 | exact z4.2 h_41 | exact z5 h_46 | exact h_52 z6)
      exact rs_iret () hx hb hr hlk hQ hK hP hD hS (by decide) (rs_bF hno) (if_neg hno).symm dX4_point_56
    · have h_13 : ¬ dp = 19 := fun z => h_13 ((nI_eq (by omega) (by omega)).2 z)
      refine lv_iload_n hx hb dX4_point_16 rfl (lv_at hl 1 rfl) ?_
      refine lv_sipush hx hb dX4_point_17 (v := (-1000)) (by decide) ?_
      refine lv_icmp_lt hx hb dX4_point_20 (tgt := 55) rfl (fun h_20 => ?_) (fun h_20 => ?_)
      · skip
        refine lv_iconst hx hb dX4_point_55 (v := nI 0) (by decide) ?_
        have hno : ¬ rs_okp dd dp x y w := (by rintro ⟨z1, z2, z3, z4, z5, z6⟩; first | omega | exact z3.1 h_20 | exact z3.2 h_27 | exact z4.1 h_34 | exact z4.2 h_41 | exact z5 h_46 | exact h_52 z6)
        exact rs_iret () hx hb hr hlk hQ hK hP hD hS (by decide) (rs_bF hno) (if_neg hno).symm dX4_point_56
      · skip
        refine lv_iload_n hx hb dX4_point_23 rfl (lv_at hl 1 rfl) ?_
        refine lv_sipush hx hb dX4_point_24 (v := nI 1000) (by decide) ?_
        refine lv_icmp_gt hx hb dX4_point_27 (tgt := 55) rfl (fun h_27 => ?_) (fun h_27 => ?_)
        · skip
          refine lv_iconst hx hb dX4_point_55 (v := nI 0) (by decide) ?_
          have hno : ¬ rs_okp dd dp x y w := (by rintro ⟨z1, z2, z3, z4, z5, z6⟩; first | omega | exact z3.1 h_20 | exact z3.2 h_27 | exact z4.1 h_34 | exact z4.2 h_41 | exact z5 h_46 | exact h_52 z6)
          exact rs_iret () hx hb hr hlk hQ hK hP hD hS (by decide) (rs_bF hno) (if_neg hno).symm dX4_point_56
        · skip
          refine lv_iload_n hx hb dX4_point_30 rfl (lv_at hl 2 rfl) ?_
          refine lv_sipush hx hb dX4_point_31 (v := (-1000)) (by decide) ?_
          refine lv_icmp_lt hx hb dX4_point_34 (tgt := 55) rfl (fun h_34 => ?_) (fun h_34 => ?_)
          · skip
            refine lv_iconst hx hb dX4_point_55 (v := nI 0) (by decide) ?_
            have hno : ¬ rs_okp dd dp x y w := (by rintro ⟨z1, z2, z3, z4, z5, z6⟩; first | omega | exact z3.1 h_20 | exact z3.2 h_27 | exact z4.1 h_34 | exact z4.2 h_41 | exact z5 h_46 | exact h_52 z6)
            exact rs_iret () hx hb hr hlk hQ hK hP hD hS (by decide) (rs_bF hno) (if_neg hno).symm dX4_point_56
          · skip
            refine lv_iload_n hx hb dX4_point_37 rfl (lv_at hl 2 rfl) ?_
            refine lv_sipush hx hb dX4_point_38 (v := nI 1000) (by decide) ?_
            refine lv_icmp_gt hx hb dX4_point_41 (tgt := 55) rfl (fun h_41 => ?_) (fun h_41 => ?_)
            · skip
              refine lv_iconst hx hb dX4_point_55 (v := nI 0) (by decide) ?_
              have hno : ¬ rs_okp dd dp x y w := (by rintro ⟨z1, z2, z3, z4, z5, z6⟩; first | omega | exact z3.1 h_20 | exact z3.2 h_27 | exact z4.1 h_34 | exact z4.2 h_41 | exact z5 h_46 | exact h_52 z6)
              exact rs_iret () hx hb hr hlk hQ hK hP hD hS (by decide) (rs_bF hno) (if_neg hno).symm dX4_point_56
            · skip
              refine lv_iload_n hx hb dX4_point_44 rfl (lv_at hl 3 rfl) ?_
              refine lv_iconst hx hb dX4_point_45 (v := nI 1) (by decide) ?_
              refine lv_icmp_lt hx hb dX4_point_46 (tgt := 55) rfl (fun h_46 => ?_) (fun h_46 => ?_)
              · skip
                refine lv_iconst hx hb dX4_point_55 (v := nI 0) (by decide) ?_
                have hno : ¬ rs_okp dd dp x y w := (by rintro ⟨z1, z2, z3, z4, z5, z6⟩; first | omega | exact z3.1 h_20 | exact z3.2 h_27 | exact z4.1 h_34 | exact z4.2 h_41 | exact z5 h_46 | exact h_52 z6)
                exact rs_iret () hx hb hr hlk hQ hK hP hD hS (by decide) (rs_bF hno) (if_neg hno).symm dX4_point_56
              · skip
                refine lv_iload_n hx hb dX4_point_49 rfl (lv_at hl 3 rfl) ?_
                refine lv_bipush hx hb dX4_point_50 (v := nI 16) (by decide) ?_
                refine lv_icmp_le hx hb dX4_point_52 (tgt := 57) rfl (fun h_52 => ?_) (fun h_52 => ?_)
                · skip
                  refine lv_aload_n hx hb dX4_point_57 rfl (lv_at hl 0 rfl) ?_
                  refine va_get hx hb hts inX4 hown hK hP 0 (ci := 4) (C := RX4) (T := TX4) (N := 18) rfl rfl 3 (by decide) (hts _ rw_394) (fun _ h => h) (v := .ref (q 1)) rfl dX4_point_58 ?_
                  refine lv_aload_n hx hb dX4_point_61 rfl (lv_at hl 0 rfl) ?_
                  refine va_get hx hb hts inX4 hown hK hP 0 (ci := 4) (C := RX4) (T := TX4) (N := 18) rfl rfl 1 (by decide) (hts _ rw_392) (fun _ h => h) (v := .int (nI dp)) rfl dX4_point_62 ?_
                  refine lv_iload_n hx hb dX4_point_65 rfl (lv_at hl 1 rfl) ?_
                  refine rs_iast hx hb hK hP hD hS 1 0 rfl rfl (i := dp) (by omega) (by decide) rfl dX4_point_66 (ws' := wM aI aJ aL q dd dp dk (upd dx dp x) dy dw dn g tm pz tk nn vn vt po vl ea la) rfl (fun H locs hP hD hS => ?_)
                  refine lv_aload_n hx hb dX4_point_67 rfl (lv_at hl 0 rfl) ?_
                  refine va_get hx hb hts inX4 hown hK hP 0 (ci := 4) (C := RX4) (T := TX4) (N := 18) rfl rfl 4 (by decide) (hts _ rw_395) (fun _ h => h) (v := .ref (q 2)) rfl dX4_point_68 ?_
                  refine lv_aload_n hx hb dX4_point_71 rfl (lv_at hl 0 rfl) ?_
                  refine va_get hx hb hts inX4 hown hK hP 0 (ci := 4) (C := RX4) (T := TX4) (N := 18) rfl rfl 1 (by decide) (hts _ rw_392) (fun _ h => h) (v := .int (nI dp)) rfl dX4_point_72 ?_
                  refine lv_iload_n hx hb dX4_point_75 rfl (lv_at hl 2 rfl) ?_
                  refine rs_iast hx hb hK hP hD hS 2 0 rfl rfl (i := dp) (by omega) (by decide) rfl dX4_point_76 (ws' := wM aI aJ aL q dd dp dk (upd dx dp x) (upd dy dp y) dw dn g tm pz tk nn vn vt po vl ea la) rfl (fun H locs hP hD hS => ?_)
                  refine lv_aload_n hx hb dX4_point_77 rfl (lv_at hl 0 rfl) ?_
                  refine va_get hx hb hts inX4 hown hK hP 0 (ci := 4) (C := RX4) (T := TX4) (N := 18) rfl rfl 5 (by decide) (hts _ rw_396) (fun _ h => h) (v := .ref (q 3)) rfl dX4_point_78 ?_
                  refine lv_aload_n hx hb dX4_point_81 rfl (lv_at hl 0 rfl) ?_
                  refine va_get hx hb hts inX4 hown hK hP 0 (ci := 4) (C := RX4) (T := TX4) (N := 18) rfl rfl 1 (by decide) (hts _ rw_392) (fun _ h => h) (v := .int (nI dp)) rfl dX4_point_82 ?_
                  refine lv_iload_n hx hb dX4_point_85 rfl (lv_at hl 3 rfl) ?_
                  refine rs_iast hx hb hK hP hD hS 3 0 rfl rfl (i := dp) (by omega) (by decide) rfl dX4_point_86 (ws' := wM aI aJ aL q dd dp dk (upd dx dp x) (upd dy dp y) (upd dw dp w) dn g tm pz tk nn vn vt po vl ea la) rfl (fun H locs hP hD hS => ?_)
                  refine lv_aload_n hx hb dX4_point_87 rfl (lv_at hl 0 rfl) ?_
                  refine lv_dup hx hb dX4_point_88 rfl ?_
                  refine va_get hx hb hts inX4 hown hK hP 0 (ci := 4) (C := RX4) (T := TX4) (N := 18) rfl rfl 1 (by decide) (hts _ rw_392) (fun _ h => h) (v := .int (nI dp)) rfl dX4_point_89 ?_
                  refine lv_iconst hx hb dX4_point_92 (v := nI 1) (by decide) ?_
                  refine rs_iadd hx hb dX4_point_93 (v := nI (dp + 1)) (nI_add _ _) ?_
                  refine va_put hx hb hts inX4 (ty0 := tyX4) tyX4_ok nmX4 hown hK hP hD hS 0 (ci := 4) (C := RX4) (T := TX4) (N := 18) rfl rfl 1 (by decide) (hts _ rw_392) (fun _ h => h) rfl (ty := .int) (by decide +kernel) rfl rfl (Nat.le_of_ble_eq_true rfl) dX4_point_94 (fun H locs hP hD hS => ?_)
                  have hP : va_P D vwCl (wM aI aJ aL q dd (dp + 1) dk (upd dx dp x) (upd dy dp y) (upd dw dp w) dn g tm pz tk nn vn vt po vl ea la) H := hP
                  have hD : va_D A (wM aI aJ aL q dd (dp + 1) dk (upd dx dp x) (upd dy dp y) (upd dw dp w) dn g tm pz tk nn vn vt po vl ea la) := hD
                  refine lv_iconst hx hb dX4_point_97 (v := nI 1) (by decide) ?_
                  have hok : rs_okp dd dp x y w := ⟨by omega, by omega, ⟨h_20, h_27⟩, ⟨h_34, h_41⟩, h_46, h_52⟩
                  exact rs_iret () hx hb hr hlk hQ hK hP hD hS (by decide) (rs_bT hok) (if_pos hok).symm dX4_point_98
                · skip
                  refine lv_iconst hx hb dX4_point_55 (v := nI 0) (by decide) ?_
                  have hno : ¬ rs_okp dd dp x y w := (by rintro ⟨z1, z2, z3, z4, z5, z6⟩; first | omega | exact z3.1 h_20 | exact z3.2 h_27 | exact z4.1 h_34 | exact z4.2 h_41 | exact z5 h_46 | exact h_52 z6)
                  exact rs_iret () hx hb hr hlk hQ hK hP hD hS (by decide) (rs_bF hno) (if_neg hno).symm dX4_point_56

def rm_X4_knot : Room := { frames := 1, cells := 0, slots := 0, locals := 64 }
set_option maxHeartbeats 4000000 in
set_option maxRecDepth 100000 in
theorem c_X4_knot (l : Launch) (D : va_G) (aI aJ aL : ClassId) (sz : Nat) (q : Nat → Nat) (dd : Nat) (dp : Nat) (dk : Nat) (dx : Nat → Int32) (dy : Nat → Int32) (dw : Nat → Int32) (dn : Nat → Nat) (g : Nat) (tm : Nat → Nat) (pz : Nat → Int64) (tk : Nat → Nat) (nn : Nat) (vn : Nat) (vt : Nat → Nat) (po : Nat → Int64) (vl : Nat → Int64) (ea : Nat → Nat) (la : Nat → Nat) (k : Nat) (hdd : dd ≤ 3) (hdk : dk ≤ 15) (hk1 : 1 ≤ k) (hk5 : k ≤ 5) (hdn : ∀ i, dn i ≤ 6) (hful : rs_okm dd dk dn k → dk < 15) : rs_MI (S := Unit) l yX4_knot (Cond.code yX4_knot prog_6_method_4_code 4 (some .boolean) :: rsW) rm_X4_knot D vwCl (rs_tys aI aJ aL) rs_nw [.ref (q 0), .int (nI k)] (wM aI aJ aL q dd dp dk dx dy dw dn g tm pz tk nn vn vt po vl ea la) sz (rs_b (decide (rs_okm dd dk dn k))) (fun uu => if rs_okm dd dk dn k then wM aI aJ aL q dd dp (dk + 1) dx dy dw (rs_up dn dk k) g tm pz tk nn vn vt po vl ea la else wM aI aJ aL q dd dp dk dx dy dw dn g tm pz tk nn vn vt po vl ea la) := by
  refine rs_ent (cc := cX4_knot) (maxL := 4) (ret := some .boolean) (Qc := rs_QI D vwCl _ _ _) (by decide) rfl (Nat.le_of_ble_eq_true rfl) ?_
  intro p e s m args below meth c ls A Q hx hb hr hml hlk hts hown hin hK hN hP hD hS hA hQ hl
  have hl : lv_has ls 4 [(0, .ref (q 0)), (1, .int (nI k))] := hl
  refine lv_aload_n hx hb dX4_knot_0 rfl (lv_at hl 0 rfl) ?_
  refine va_get hx hb hts inX4 hown hK hP 0 (ci := 4) (C := RX4) (T := TX4) (N := 18) rfl rfl 0 (by decide) (hts _ rw_391) (fun _ h => h) (v := .int (nI dd)) rfl dX4_knot_1 ?_
  refine lv_if_eq hx hb dX4_knot_4 (tgt := 17) rfl (fun h_4 => ?_) (fun h_4 => ?_)
  · have h_4 : dd = 0 := rs_z1 (by omega) h_4
    refine lv_iconst hx hb dX4_knot_17 (v := nI 0) (by decide) ?_
    have hno : ¬ rs_okm dd dk dn k := (fun z => by have := z.1; omega)
    exact rs_iret () hx hb hr hlk hQ hK hP hD hS (by decide) (rs_bF hno) (if_neg hno).symm dX4_knot_18
  · have h_4 : 0 < dd := rs_z2 (by omega) h_4
    refine lv_iload_n hx hb dX4_knot_7 rfl (lv_at hl 1 rfl) ?_
    refine lv_iconst hx hb dX4_knot_8 (v := nI 1) (by decide) ?_
    refine lv_icmp_lt hx hb dX4_knot_9 (tgt := 17) rfl (fun h_9 => ?_) (fun h_9 => ?_)
    · have h_9 : k < 1 := (nI_ltI (by omega) (by omega)).1 h_9
      omega
    · have h_9 : 1 ≤ k := Nat.le_of_not_lt (fun z => h_9 ((nI_ltI (by omega) (by omega)).2 z))
      refine lv_iload_n hx hb dX4_knot_12 rfl (lv_at hl 1 rfl) ?_
      refine lv_iconst hx hb dX4_knot_13 (v := nI 5) (by decide) ?_
      refine lv_icmp_le hx hb dX4_knot_14 (tgt := 19) rfl (fun h_14 => ?_) (fun h_14 => ?_)
      · have h_14 : k ≤ 5 := (nI_leI (by omega) (by omega)).1 h_14
        refine lv_iconst hx hb dX4_knot_19 (v := nI 0) (by decide) ?_
        refine lv_istore_n hx hb dX4_knot_20 rfl hl (lv' := [(2, .int (nI 0)), (0, .ref (q 0)), (1, .int (nI k))]) (by decide) rfl (fun ls hl => ?_)
        refine lv_iconst hx hb dX4_knot_21 (v := nI 0) (by decide) ?_
        refine lv_istore_n hx hb dX4_knot_22 rfl hl (lv' := [(3, .int (nI 0)), (2, .int (nI 0)), (0, .ref (q 0)), (1, .int (nI k))]) (by decide) rfl (fun ls hl => ?_)
        have L_23 : ∀ (k_23 : Nat) (j : Nat) (H : Heap) (locs : List Loc) (ls : Array Slot), dk - j < k_23 → (j ≤ dk) → (∀ i, i < j → dn i ≤ k) → lv_has ls 4 [(0, .ref (q 0)), (1, .int (nI k)), (2, .int (nI (rs_cn dn k j))), (3, .int (nI j))] → va_P D vwCl (wM aI aJ aL q dd dp dk dx dy dw dn g tm pz tk nn vn vt po vl ea la) H → va_D A (wM aI aJ aL q dd dp dk dx dy dw dn g tm pz tk nn vn vt po vl ea la) → va_S A s.heap H locs → W p l e rm_X4_knot s m args below meth c H locs 0 0 Q (F0 m 23 ls []) := by
          intro k_23
          induction k_23 with
          | zero => intro j H locs ls hk_23; exact absurd hk_23 (Nat.not_lt_zero _)
          | succ k_23 ih_23 =>
            intro j H locs ls hk_23 hj hle hl hP hD hS
            refine lv_iload_n hx hb dX4_knot_23 rfl (lv_at hl 3 rfl) ?_
            refine lv_aload_n hx hb dX4_knot_24 rfl (lv_at hl 0 rfl) ?_
            refine va_get hx hb hts inX4 hown hK hP 0 (ci := 4) (C := RX4) (T := TX4) (N := 18) rfl rfl 2 (by decide) (hts _ rw_393) (fun _ h => h) (v := .int (nI dk)) rfl dX4_knot_25 ?_
            refine lv_icmp_ge hx hb dX4_knot_28 (tgt := 67) rfl (fun h_28 => ?_) (fun h_28 => ?_)
            · have h_28 : dk ≤ j := (nI_leI (by omega) (by omega)).1 h_28
              refine lv_iload_n hx hb dX4_knot_67 rfl (lv_at hl 2 rfl) ?_
              refine lv_aload_n hx hb dX4_knot_68 rfl (lv_at hl 0 rfl) ?_
              refine va_get hx hb hts inX4 hown hK hP 0 (ci := 4) (C := RX4) (T := TX4) (N := 18) rfl rfl 0 (by decide) (hts _ rw_391) (fun _ h => h) (v := .int (nI dd)) rfl dX4_knot_69 ?_
              have hj9 : rs_cn dn k j = rs_cn dn k dk := by rw [show j = dk by omega]
              have hb8 := rs_cn_le dn k j
              refine lv_icmp_lt hx hb dX4_knot_72 (tgt := 77) rfl (fun h_72 => ?_) (fun h_72 => ?_)
              · have h_72 : (rs_cn dn k j) < dd := (nI_ltI (by omega) (by omega)).1 h_72
                refine lv_aload_n hx hb dX4_knot_77 rfl (lv_at hl 0 rfl) ?_
                refine va_get hx hb hts inX4 hown hK hP 0 (ci := 4) (C := RX4) (T := TX4) (N := 18) rfl rfl 6 (by decide) (hts _ rw_397) (fun _ h => h) (v := .ref (q 4)) rfl dX4_knot_78 ?_
                refine lv_aload_n hx hb dX4_knot_81 rfl (lv_at hl 0 rfl) ?_
                refine va_get hx hb hts inX4 hown hK hP 0 (ci := 4) (C := RX4) (T := TX4) (N := 18) rfl rfl 2 (by decide) (hts _ rw_393) (fun _ h => h) (v := .int (nI dk)) rfl dX4_knot_82 ?_
                refine lv_iload_n hx hb dX4_knot_85 rfl (lv_at hl 1 rfl) ?_
                have hok : rs_okm dd dk dn k := ⟨by omega, fun i hi => hle i (by omega), by omega⟩
                have hfu := hful hok
                refine rs_iast hx hb hK hP hD hS 4 0 rfl rfl (i := dk) (by omega) (by decide) (rs_upI _ _ _) dX4_knot_86 (ws' := wM aI aJ aL q dd dp dk dx dy dw (rs_up dn dk k) g tm pz tk nn vn vt po vl ea la) rfl (fun H locs hP hD hS => ?_)
                refine lv_aload_n hx hb dX4_knot_87 rfl (lv_at hl 0 rfl) ?_
                refine lv_dup hx hb dX4_knot_88 rfl ?_
                refine va_get hx hb hts inX4 hown hK hP 0 (ci := 4) (C := RX4) (T := TX4) (N := 18) rfl rfl 2 (by decide) (hts _ rw_393) (fun _ h => h) (v := .int (nI dk)) rfl dX4_knot_89 ?_
                refine lv_iconst hx hb dX4_knot_92 (v := nI 1) (by decide) ?_
                refine rs_iadd hx hb dX4_knot_93 (v := nI (dk + 1)) (nI_add _ _) ?_
                refine va_put hx hb hts inX4 (ty0 := tyX4) tyX4_ok nmX4 hown hK hP hD hS 0 (ci := 4) (C := RX4) (T := TX4) (N := 18) rfl rfl 2 (by decide) (hts _ rw_393) (fun _ h => h) rfl (ty := .int) (by decide +kernel) rfl rfl (Nat.le_of_ble_eq_true rfl) dX4_knot_94 (fun H locs hP hD hS => ?_)
                have hP : va_P D vwCl (wM aI aJ aL q dd dp (dk + 1) dx dy dw (rs_up dn dk k) g tm pz tk nn vn vt po vl ea la) H := hP
                have hD : va_D A (wM aI aJ aL q dd dp (dk + 1) dx dy dw (rs_up dn dk k) g tm pz tk nn vn vt po vl ea la) := hD
                refine lv_iconst hx hb dX4_knot_97 (v := nI 1) (by decide) ?_
                exact rs_iret () hx hb hr hlk hQ hK hP hD hS (by decide) (rs_bT hok) (if_pos hok).symm dX4_knot_98
              · have h_72 : dd ≤ (rs_cn dn k j) := Nat.le_of_not_lt (fun z => h_72 ((nI_ltI (by omega) (by omega)).2 z))
                refine lv_iconst hx hb dX4_knot_75 (v := nI 0) (by decide) ?_
                have hno : ¬ rs_okm dd dk dn k := (fun z => by have := z.2.2; omega)
                exact rs_iret () hx hb hr hlk hQ hK hP hD hS (by decide) (rs_bF hno) (if_neg hno).symm dX4_knot_76
            · have h_28 : j < dk := Nat.lt_of_not_le (fun z => h_28 ((nI_leI (by omega) (by omega)).2 z))
              refine lv_aload_n hx hb dX4_knot_31 rfl (lv_at hl 0 rfl) ?_
              refine va_get hx hb hts inX4 hown hK hP 0 (ci := 4) (C := RX4) (T := TX4) (N := 18) rfl rfl 6 (by decide) (hts _ rw_397) (fun _ h => h) (v := .ref (q 4)) rfl dX4_knot_32 ?_
              refine lv_iload_n hx hb dX4_knot_35 rfl (lv_at hl 3 rfl) ?_
              have hb7 := hdn j
              have hb9 := rs_cn_le dn k j
              refine rs_iald hx hb hK hP 4 0 rfl rfl (i := j) (by omega) (by decide) (v := nI (dn j)) rfl dX4_knot_36 ?_
              refine lv_iload_n hx hb dX4_knot_37 rfl (lv_at hl 1 rfl) ?_
              refine lv_icmp_le hx hb dX4_knot_38 (tgt := 43) rfl (fun h_38 => ?_) (fun h_38 => ?_)
              · have h_38 : (dn j) ≤ k := (nI_leI (by omega) (by omega)).1 h_38
                refine lv_aload_n hx hb dX4_knot_43 rfl (lv_at hl 0 rfl) ?_
                refine va_get hx hb hts inX4 hown hK hP 0 (ci := 4) (C := RX4) (T := TX4) (N := 18) rfl rfl 6 (by decide) (hts _ rw_397) (fun _ h => h) (v := .ref (q 4)) rfl dX4_knot_44 ?_
                refine lv_iload_n hx hb dX4_knot_47 rfl (lv_at hl 3 rfl) ?_
                refine rs_iald hx hb hK hP 4 0 rfl rfl (i := j) (by omega) (by decide) (v := nI (dn j)) rfl dX4_knot_48 ?_
                refine lv_iload_n hx hb dX4_knot_49 rfl (lv_at hl 1 rfl) ?_
                refine lv_icmp_ne hx hb dX4_knot_50 (tgt := 59) rfl (fun h_50 => ?_) (fun h_50 => ?_)
                · have h_50 : ¬ (dn j) = k := fun z => h_50 ((nI_eq (by omega) (by omega)).2 z)
                  have e_j : rs_cn dn k (j + 1) = rs_cn dn k j := if_neg h_50
                  refine lv_iload_n hx hb dX4_knot_59 rfl (lv_at hl 2 rfl) ?_
                  refine lv_istore_n hx hb dX4_knot_60 rfl hl (lv' := [(2, .int (nI (rs_cn dn k j))), (0, .ref (q 0)), (1, .int (nI k)), (3, .int (nI j))]) (by decide) rfl (fun ls hl => ?_)
                  refine lv_iinc hx hb dX4_knot_61 hl (k := 3) rfl (v := nI (j + 1)) (rs_inc _ _) (by decide) (lv' := [(3, .int (nI (j + 1))), (2, .int (nI (rs_cn dn k j))), (0, .ref (q 0)), (1, .int (nI k))]) rfl (fun ls hl => ?_)
                  refine lv_goto hx hb dX4_knot_64 (tgt := 23) rfl ?_
                  exact ih_23 (j + 1) _ _ _ (by omega) (by omega) (lt_s hle h_38) (by rw [e_j]; exact lv_sub hl [2, 3, 1, 0] rfl) hP hD hS
                · have h_50 : (dn j) = k := (nI_eq (by omega) (by omega)).1 h_50
                  have e_j : rs_cn dn k (j + 1) = rs_cn dn k j + 1 := if_pos h_50
                  refine lv_iload_n hx hb dX4_knot_53 rfl (lv_at hl 2 rfl) ?_
                  refine lv_iconst hx hb dX4_knot_54 (v := nI 1) (by decide) ?_
                  refine rs_iadd hx hb dX4_knot_55 (v := nI ((rs_cn dn k j) + 1)) (nI_add _ _) ?_
                  refine lv_goto hx hb dX4_knot_56 (tgt := 60) rfl ?_
                  refine lv_istore_n hx hb dX4_knot_60 rfl hl (lv' := [(2, .int (nI ((rs_cn dn k j) + 1))), (0, .ref (q 0)), (1, .int (nI k)), (3, .int (nI j))]) (by decide) rfl (fun ls hl => ?_)
                  refine lv_iinc hx hb dX4_knot_61 hl (k := 3) rfl (v := nI (j + 1)) (rs_inc _ _) (by decide) (lv' := [(3, .int (nI (j + 1))), (2, .int (nI ((rs_cn dn k j) + 1))), (0, .ref (q 0)), (1, .int (nI k))]) rfl (fun ls hl => ?_)
                  refine lv_goto hx hb dX4_knot_64 (tgt := 23) rfl ?_
                  exact ih_23 (j + 1) _ _ _ (by omega) (by omega) (lt_s hle h_38) (by rw [e_j]; exact lv_sub hl [2, 3, 1, 0] rfl) hP hD hS
              · have h_38 : k < (dn j) := Nat.lt_of_not_le (fun z => h_38 ((nI_leI (by omega) (by omega)).2 z))
                refine lv_iconst hx hb dX4_knot_41 (v := nI 0) (by decide) ?_
                have hno : ¬ rs_okm dd dk dn k := (fun z => by have := z.2.1 j (by omega); omega)
                exact rs_iret () hx hb hr hlk hQ hK hP hD hS (by decide) (rs_bF hno) (if_neg hno).symm dX4_knot_42
        exact L_23 ((dk - 0) + 1) 0 _ _ _ (Nat.lt_succ_self _) (Nat.zero_le _) lt_0 (lv_sub hl [2, 3, 1, 0] rfl) hP hD hS
      · have h_14 : 5 < k := Nat.lt_of_not_le (fun z => h_14 ((nI_leI (by omega) (by omega)).2 z))
        omega

def rm_X4_knotF : Room := { frames := 1, cells := 0, slots := 0, locals := 64 }
set_option maxHeartbeats 4000000 in
set_option maxRecDepth 100000 in
theorem c_X4_knotF (l : Launch) (D : va_G) (aI aJ aL : ClassId) (sz : Nat) (q : Nat → Nat) (dd : Nat) (dp : Nat) (dk : Nat) (dx : Nat → Int32) (dy : Nat → Int32) (dw : Nat → Int32) (dn : Nat → Nat) (g : Nat) (tm : Nat → Nat) (pz : Nat → Int64) (tk : Nat → Nat) (nn : Nat) (vn : Nat) (vt : Nat → Nat) (po : Nat → Int64) (vl : Nat → Int64) (ea : Nat → Nat) (la : Nat → Nat) (k : Int32) (hdd : dd ≤ 3) (hF : ¬ (¬ k < nI 1 ∧ k ≤ nI 5)) : rs_MI (S := Unit) l yX4_knot (Cond.code yX4_knot prog_6_method_4_code 4 (some .boolean) :: rsW) rm_X4_knotF D vwCl (rs_tys aI aJ aL) rs_nw [.ref (q 0), .int k] (wM aI aJ aL q dd dp dk dx dy dw dn g tm pz tk nn vn vt po vl ea la) sz (nI 0) (fun uu => wM aI aJ aL q dd dp dk dx dy dw dn g tm pz tk nn vn vt po vl ea la) := by
  refine rs_ent (cc := cX4_knot) (maxL := 4) (ret := some .boolean) (Qc := rs_QI D vwCl _ _ _) (by decide) rfl (Nat.le_of_ble_eq_true rfl) ?_
  intro p e s m args below meth c ls A Q hx hb hr hml hlk hts hown hin hK hN hP hD hS hA hQ hl
  have hl : lv_has ls 4 [(0, .ref (q 0)), (1, .int k)] := hl
  refine lv_aload_n hx hb dX4_knot_0 rfl (lv_at hl 0 rfl) ?_
  refine va_get hx hb hts inX4 hown hK hP 0 (ci := 4) (C := RX4) (T := TX4) (N := 18) rfl rfl 0 (by decide) (hts _ rw_391) (fun _ h => h) (v := .int (nI dd)) rfl dX4_knot_1 ?_
  refine lv_if_eq hx hb dX4_knot_4 (tgt := 17) rfl (fun h_4 => ?_) (fun h_4 => ?_)
  · have h_4 : dd = 0 := rs_z1 (by omega) h_4
    refine lv_iconst hx hb dX4_knot_17 (v := nI 0) (by decide) ?_
    exact rs_iret () hx hb hr hlk hQ hK hP hD hS (by decide) rfl rfl dX4_knot_18
  · have h_4 : 0 < dd := rs_z2 (by omega) h_4
    refine lv_iload_n hx hb dX4_knot_7 rfl (lv_at hl 1 rfl) ?_
    refine lv_iconst hx hb dX4_knot_8 (v := nI 1) (by decide) ?_
    refine lv_icmp_lt hx hb dX4_knot_9 (tgt := 17) rfl (fun h_9 => ?_) (fun h_9 => ?_)
    · skip
      refine lv_iconst hx hb dX4_knot_17 (v := nI 0) (by decide) ?_
      exact rs_iret () hx hb hr hlk hQ hK hP hD hS (by decide) rfl rfl dX4_knot_18
    · skip
      refine lv_iload_n hx hb dX4_knot_12 rfl (lv_at hl 1 rfl) ?_
      refine lv_iconst hx hb dX4_knot_13 (v := nI 5) (by decide) ?_
      refine lv_icmp_le hx hb dX4_knot_14 (tgt := 19) rfl (fun h_14 => ?_) (fun h_14 => ?_)
      · skip
        exact absurd ⟨h_9, h_14⟩ hF
      · skip
        refine lv_iconst hx hb dX4_knot_17 (v := nI 0) (by decide) ?_
        exact rs_iret () hx hb hr hlk hQ hK hP hD hS (by decide) rfl rfl dX4_knot_18

def rm_X4_layKnots : Room := { frames := 1, cells := 0, slots := 0, locals := 64 }
set_option maxHeartbeats 4000000 in
set_option maxRecDepth 100000 in
theorem c_X4_layKnots (l : Launch) (D : va_G) (aI aJ aL : ClassId) (sz : Nat) (q : Nat → Nat) (dd : Nat) (dp : Nat) (dk : Nat) (dx : Nat → Int32) (dy : Nat → Int32) (dw : Nat → Int32) (dn : Nat → Nat) (g : Nat) (tm : Nat → Nat) (pz : Nat → Int64) (tk : Nat → Nat) (nn : Nat) (vn : Nat) (vt : Nat → Nat) (po : Nat → Int64) (vl : Nat → Int64) (ea : Nat → Nat) (la : Nat → Nat) (hg : g ≤ 3) (htk : ∀ i, tk i ≤ 6) (hc7 : ∀ k, k ≤ 7 → rs_c7 g tm k ≤ 23) : rs_MV (S := {x : Nat → Nat // (∀ i, i < rs_cu g tm 6 + (g + 1) → x i = rs_val (rs_cu g tm) i) ∧ ∀ i, x i ≤ 6}) l yX4_layKnots (Cond.code yX4_layKnots prog_6_method_6_code 5 none :: rsW) rm_X4_layKnots D vwCl (rs_tys aI aJ aL) rs_nw [.ref (q 0)] (wM aI aJ aL q dd dp dk dx dy dw dn g tm pz tk nn vn vt po vl ea la) sz (fun uu => wM aI aJ aL q dd dp dk dx dy dw dn g tm pz uu.1 (rs_cu g tm 6) vn vt po vl ea la) := by
  refine rs_ent (cc := cX4_layKnots) (maxL := 5) (ret := none) (Qc := rs_QV D vwCl _ _) (by decide) rfl (Nat.le_of_ble_eq_true rfl) ?_
  intro p e s m args below meth c ls A Q hx hb hr hml hlk hts hown hin hK hN hP hD hS hA hQ hl
  have hl : lv_has ls 5 [(0, .ref (q 0))] := hl
  refine lv_iconst hx hb dX4_layKnots_0 (v := nI 0) (by decide) ?_
  refine lv_istore_n hx hb dX4_layKnots_1 rfl hl (lv' := [(1, .int (nI 0)), (0, .ref (q 0))]) (by decide) rfl (fun ls hl => ?_)
  refine lv_iconst hx hb dX4_layKnots_2 (v := nI 0) (by decide) ?_
  refine lv_istore_n hx hb dX4_layKnots_3 rfl hl (lv' := [(2, .int (nI 0)), (1, .int (nI 0)), (0, .ref (q 0))]) (by decide) rfl (fun ls hl => ?_)
  have L_4 : ∀ (k_4 : Nat) (k : Nat) (tk : Nat → Nat) (H : Heap) (locs : List Loc) (ls : Array Slot), 7 - k < k_4 → (k ≤ 7) → (∀ i, tk i ≤ 6) → (∀ x, x < rs_c7 g tm k → tk x = rs_val (rs_cu g tm) x) → lv_has ls 5 [(0, .ref (q 0)), (1, .int (nI (rs_c7 g tm k))), (2, .int (nI k))] → va_P D vwCl (wM aI aJ aL q dd dp dk dx dy dw dn g tm pz tk nn vn vt po vl ea la) H → va_D A (wM aI aJ aL q dd dp dk dx dy dw dn g tm pz tk nn vn vt po vl ea la) → va_S A s.heap H locs → W p l e rm_X4_layKnots s m args below meth c H locs 0 0 Q (F0 m 4 ls []) := by
    intro k_4
    induction k_4 with
    | zero => intro k tk H locs ls hk_4; exact absurd hk_4 (Nat.not_lt_zero _)
    | succ k_4 ih_4 =>
      intro k tk H locs ls hk_4 hk htk hv hl hP hD hS
      refine lv_iload_n hx hb dX4_layKnots_4 rfl (lv_at hl 2 rfl) ?_
      refine lv_bipush hx hb dX4_layKnots_5 (v := nI 6) (by decide) ?_
      refine lv_icmp_gt hx hb dX4_layKnots_7 (tgt := 67) rfl (fun h_7 => ?_) (fun h_7 => ?_)
      · have h_7 : 6 < k := (nI_ltI (by omega) (by omega)).1 h_7
        have hk9 : rs_c7 g tm k = rs_cu g tm 6 + (g + 1) := by rw [show k = 7 by omega]; rfl
        have hb6 := hc7 k (by omega)
        refine lv_aload_n hx hb dX4_layKnots_67 rfl (lv_at hl 0 rfl) ?_
        refine lv_iload_n hx hb dX4_layKnots_68 rfl (lv_at hl 1 rfl) ?_
        refine lv_aload_n hx hb dX4_layKnots_69 rfl (lv_at hl 0 rfl) ?_
        refine va_get hx hb hts inX4 hown hK hP 0 (ci := 4) (C := RX4) (T := TX4) (N := 18) rfl rfl 7 (by decide) (hts _ rw_398) (fun _ h => h) (v := .int (nI g)) rfl dX4_layKnots_70 ?_
        refine rs_isub hx hb dX4_layKnots_73 (v := nI ((rs_c7 g tm k) - g)) (pk_sub (by omega)) ?_
        refine lv_iconst hx hb dX4_layKnots_74 (v := nI 1) (by decide) ?_
        refine rs_isub hx hb dX4_layKnots_75 (v := nI (rs_cu g tm 6)) (by rw [pk_sub (by omega)]; exact congrArg nI (by omega)) ?_
        refine va_put hx hb hts inX4 (ty0 := tyX4) tyX4_ok nmX4 hown hK hP hD hS 0 (ci := 4) (C := RX4) (T := TX4) (N := 18) rfl rfl 11 (by decide) (hts _ rw_402) (fun _ h => h) rfl (ty := .int) (by decide +kernel) rfl rfl (Nat.le_of_ble_eq_true rfl) dX4_layKnots_76 (fun H locs hP hD hS => ?_)
        have hP : va_P D vwCl (wM aI aJ aL q dd dp dk dx dy dw dn g tm pz tk (rs_cu g tm 6) vn vt po vl ea la) H := hP
        have hD : va_D A (wM aI aJ aL q dd dp dk dx dy dw dn g tm pz tk (rs_cu g tm 6) vn vt po vl ea la) := hD
        exact rs_vret ⟨tk, fun i hi => hv i (by omega), htk⟩ hx hb hr hlk hQ hK hP hD hS rfl dX4_layKnots_79
      · have h_7 : k ≤ 6 := Nat.le_of_not_lt (fun z => h_7 ((nI_ltI (by omega) (by omega)).2 z))
        have hb6 := hc7 k (by omega)
        have hb7 := hc7 (k + 1) (by omega)
        refine lv_iload_n hx hb dX4_layKnots_10 rfl (lv_at hl 2 rfl) ?_
        have L_35 : ∀ (o : Nat) (H : Heap) (locs : List Loc) (ls : Array Slot), (rs_c7 g tm (k + 1) = rs_c7 g tm k + o) → lv_has ls 5 [(0, .ref (q 0)), (1, .int (nI (rs_c7 g tm k))), (2, .int (nI k))] → va_P D vwCl (wM aI aJ aL q dd dp dk dx dy dw dn g tm pz tk nn vn vt po vl ea la) H → va_D A (wM aI aJ aL q dd dp dk dx dy dw dn g tm pz tk nn vn vt po vl ea la) → va_S A s.heap H locs → W p l e rm_X4_layKnots s m args below meth c H locs 0 0 Q (F0 m 35 ls [.int (nI o)]) := by
          intro o H locs ls ho hl hP hD hS
          refine lv_istore_n hx hb dX4_layKnots_35 rfl hl (lv' := [(3, .int (nI o)), (0, .ref (q 0)), (1, .int (nI (rs_c7 g tm k))), (2, .int (nI k))]) (by decide) rfl (fun ls hl => ?_)
          refine lv_iconst hx hb dX4_layKnots_36 (v := nI 0) (by decide) ?_
          refine lv_istore hx hb dX4_layKnots_37 hl (lv' := [(4, .int (nI 0)), (3, .int (nI o)), (0, .ref (q 0)), (1, .int (nI (rs_c7 g tm k))), (2, .int (nI k))]) (by decide) rfl (fun ls hl => ?_)
          have L_39 : ∀ (k_39 : Nat) (j : Nat) (tk : Nat → Nat) (H : Heap) (locs : List Loc) (ls : Array Slot), o - j < k_39 → (j ≤ o) → (∀ i, tk i ≤ 6) → (∀ x, x < rs_c7 g tm k + j → tk x = rs_val (rs_cu g tm) x) → lv_has ls 5 [(0, .ref (q 0)), (1, .int (nI (rs_c7 g tm k + j))), (2, .int (nI k)), (3, .int (nI o)), (4, .int (nI j))] → va_P D vwCl (wM aI aJ aL q dd dp dk dx dy dw dn g tm pz tk nn vn vt po vl ea la) H → va_D A (wM aI aJ aL q dd dp dk dx dy dw dn g tm pz tk nn vn vt po vl ea la) → va_S A s.heap H locs → W p l e rm_X4_layKnots s m args below meth c H locs 0 0 Q (F0 m 39 ls []) := by
            intro k_39
            induction k_39 with
            | zero => intro j tk H locs ls hk_39; exact absurd hk_39 (Nat.not_lt_zero _)
            | succ k_39 ih_39 =>
              intro j tk H locs ls hk_39 hj htk hv hl hP hD hS
              refine lv_iload hx hb dX4_layKnots_39 (lv_at hl 4 rfl) ?_
              refine lv_iload_n hx hb dX4_layKnots_41 rfl (lv_at hl 3 rfl) ?_
              refine lv_icmp_ge hx hb dX4_layKnots_42 (tgt := 61) rfl (fun h_42 => ?_) (fun h_42 => ?_)
              · have h_42 : o ≤ j := (nI_leI (by omega) (by omega)).1 h_42
                refine lv_iinc hx hb dX4_layKnots_61 hl (k := 2) rfl (v := nI (k + 1)) (rs_inc _ _) (by decide) (lv' := [(2, .int (nI (k + 1))), (0, .ref (q 0)), (1, .int (nI (rs_c7 g tm k + j))), (3, .int (nI o)), (4, .int (nI j))]) rfl (fun ls hl => ?_)
                refine lv_goto hx hb dX4_layKnots_64 (tgt := 4) rfl ?_
                exact ih_4 (k + 1) _ _ _ _ (by omega) (by omega) htk (by rw [ho, show o = j by omega]; exact hv) (by rw [(show rs_c7 g tm (k + 1) = rs_c7 g tm k + j by omega)]; exact lv_sub hl [1, 2, 0] rfl) hP hD hS
              · have h_42 : j < o := Nat.lt_of_not_le (fun z => h_42 ((nI_leI (by omega) (by omega)).2 z))
                refine lv_aload_n hx hb dX4_layKnots_45 rfl (lv_at hl 0 rfl) ?_
                refine va_get hx hb hts inX4 hown hK hP 0 (ci := 4) (C := RX4) (T := TX4) (N := 18) rfl rfl 10 (by decide) (hts _ rw_401) (fun _ h => h) (v := .ref (q 7)) rfl dX4_layKnots_46 ?_
                refine lv_iload_n hx hb dX4_layKnots_49 rfl (lv_at hl 1 rfl) ?_
                refine lv_iload_n hx hb dX4_layKnots_50 rfl (lv_at hl 2 rfl) ?_
                refine rs_iast hx hb hK hP hD hS 7 0 rfl rfl (i := (rs_c7 g tm k + j)) (by omega) (by decide) (rs_upI _ _ _) dX4_layKnots_51 (ws' := wM aI aJ aL q dd dp dk dx dy dw dn g tm pz (rs_up tk (rs_c7 g tm k + j) k) nn vn vt po vl ea la) rfl (fun H locs hP hD hS => ?_)
                refine lv_iinc hx hb dX4_layKnots_52 hl (k := 1) rfl (v := nI ((rs_c7 g tm k + j) + 1)) (rs_inc _ _) (by decide) (lv' := [(1, .int (nI ((rs_c7 g tm k + j) + 1))), (0, .ref (q 0)), (2, .int (nI k)), (3, .int (nI o)), (4, .int (nI j))]) rfl (fun ls hl => ?_)
                refine lv_iinc hx hb dX4_layKnots_55 hl (k := 4) rfl (v := nI (j + 1)) (rs_inc _ _) (by decide) (lv' := [(4, .int (nI (j + 1))), (1, .int (nI ((rs_c7 g tm k + j) + 1))), (0, .ref (q 0)), (2, .int (nI k)), (3, .int (nI o))]) rfl (fun ls hl => ?_)
                refine lv_goto hx hb dX4_layKnots_58 (tgt := 39) rfl ?_
                exact ih_39 (j + 1) _ _ _ _ (by omega) (by omega) (rs_up_le htk (by omega)) (rs_wN_up hv (rs_c7_val g tm (x := rs_c7 g tm k + j) (by omega) (by omega) (by omega))) (lv_sub hl [2, 1, 3, 4, 0] rfl) hP hD hS
          exact L_39 ((o - 0) + 1) 0 tk _ _ _ (Nat.lt_succ_self _) (Nat.zero_le _) htk hv (lv_sub hl [2, 3, 4, 1, 0] rfl) hP hD hS
        refine lv_if_eq hx hb dX4_layKnots_11 (tgt := 20) rfl (fun h_11 => ?_) (fun h_11 => ?_)
        · have h_11 : k = 0 := rs_z1 (by omega) h_11
          refine lv_aload_n hx hb dX4_layKnots_20 rfl (lv_at hl 0 rfl) ?_
          refine va_get hx hb hts inX4 hown hK hP 0 (ci := 4) (C := RX4) (T := TX4) (N := 18) rfl rfl 7 (by decide) (hts _ rw_398) (fun _ h => h) (v := .int (nI g)) rfl dX4_layKnots_21 ?_
          refine lv_iconst hx hb dX4_layKnots_24 (v := nI 1) (by decide) ?_
          refine rs_iadd hx hb dX4_layKnots_25 (v := nI (g + 1)) (nI_add _ _) ?_
          refine lv_goto hx hb dX4_layKnots_26 (tgt := 35) rfl ?_
          exact L_35 _ _ _ _ (by first | (rw [rs_c7_s g tm (by omega), if_pos (by omega)]) | (rw [rs_c7_s g tm (by omega), if_neg (by omega)])) (lv_sub hl [0, 1, 2] rfl) hP hD hS
        · have h_11 : 0 < k := rs_z2 (by omega) h_11
          refine lv_iload_n hx hb dX4_layKnots_14 rfl (lv_at hl 2 rfl) ?_
          refine lv_bipush hx hb dX4_layKnots_15 (v := nI 6) (by decide) ?_
          refine lv_icmp_ne hx hb dX4_layKnots_17 (tgt := 29) rfl (fun h_17 => ?_) (fun h_17 => ?_)
          · have h_17 : ¬ k = 6 := fun z => h_17 ((nI_eq (by omega) (by omega)).2 z)
            refine lv_aload_n hx hb dX4_layKnots_29 rfl (lv_at hl 0 rfl) ?_
            refine va_get hx hb hts inX4 hown hK hP 0 (ci := 4) (C := RX4) (T := TX4) (N := 18) rfl rfl 8 (by decide) (hts _ rw_399) (fun _ h => h) (v := .ref (q 5)) rfl dX4_layKnots_30 ?_
            refine lv_iload_n hx hb dX4_layKnots_33 rfl (lv_at hl 2 rfl) ?_
            refine rs_iald hx hb hK hP 5 0 rfl rfl (i := k) (by omega) (by decide) (v := nI (tm k)) rfl dX4_layKnots_34 ?_
            exact L_35 _ _ _ _ (by first | (rw [rs_c7_s g tm (by omega), if_pos (by omega)]) | (rw [rs_c7_s g tm (by omega), if_neg (by omega)])) (lv_sub hl [0, 1, 2] rfl) hP hD hS
          · have h_17 : k = 6 := (nI_eq (by omega) (by omega)).1 h_17
            refine lv_aload_n hx hb dX4_layKnots_20 rfl (lv_at hl 0 rfl) ?_
            refine va_get hx hb hts inX4 hown hK hP 0 (ci := 4) (C := RX4) (T := TX4) (N := 18) rfl rfl 7 (by decide) (hts _ rw_398) (fun _ h => h) (v := .int (nI g)) rfl dX4_layKnots_21 ?_
            refine lv_iconst hx hb dX4_layKnots_24 (v := nI 1) (by decide) ?_
            refine rs_iadd hx hb dX4_layKnots_25 (v := nI (g + 1)) (nI_add _ _) ?_
            refine lv_goto hx hb dX4_layKnots_26 (tgt := 35) rfl ?_
            exact L_35 _ _ _ _ (by first | (rw [rs_c7_s g tm (by omega), if_pos (by omega)]) | (rw [rs_c7_s g tm (by omega), if_neg (by omega)])) (lv_sub hl [0, 1, 2] rfl) hP hD hS
  exact L_4 ((7 - 0) + 1) 0 tk _ _ _ (Nat.lt_succ_self _) (Nat.zero_le _) htk lt_0 (lv_sub hl [2, 1, 0] rfl) hP hD hS

def rm_X4_spanOf : Room := { frames := 1, cells := 0, slots := 0, locals := 64 }
set_option maxHeartbeats 4000000 in
set_option maxRecDepth 100000 in
theorem c_X4_spanOf (l : Launch) (D : va_G) (aI aJ aL : ClassId) (sz : Nat) (q : Nat → Nat) (dd : Nat) (dp : Nat) (dk : Nat) (dx : Nat → Int32) (dy : Nat → Int32) (dw : Nat → Int32) (dn : Nat → Nat) (g : Nat) (tm : Nat → Nat) (pz : Nat → Int64) (tk : Nat → Nat) (nn : Nat) (vn : Nat) (vt : Nat → Nat) (po : Nat → Int64) (vl : Nat → Int64) (ea : Nat → Nat) (la : Nat → Nat) (u : Nat) (hg : g ≤ 3) (hnn : nn ≤ 19) (htk : ∀ i, tk i ≤ 6) (hu : u < 1000) : rs_MI (S := Unit) l yX4_spanOf (Cond.code yX4_spanOf prog_6_method_7_code 4 (some .int) :: rsW) rm_X4_spanOf D vwCl (rs_tys aI aJ aL) rs_nw [.ref (q 0), .int (nI u)] (wM aI aJ aL q dd dp dk dx dy dw dn g tm pz tk nn vn vt po vl ea la) sz (nI (rs_ms tk g u (nn - g))) (fun uu => wM aI aJ aL q dd dp dk dx dy dw dn g tm pz tk nn vn vt po vl ea la) := by
  refine rs_ent (cc := cX4_spanOf) (maxL := 4) (ret := some .int) (Qc := rs_QI D vwCl _ _ _) (by decide) rfl (Nat.le_of_ble_eq_true rfl) ?_
  intro p e s m args below meth c ls A Q hx hb hr hml hlk hts hown hin hK hN hP hD hS hA hQ hl
  have hl : lv_has ls 4 [(0, .ref (q 0)), (1, .int (nI u))] := hl
  refine lv_aload_n hx hb dX4_spanOf_0 rfl (lv_at hl 0 rfl) ?_
  refine va_get hx hb hts inX4 hown hK hP 0 (ci := 4) (C := RX4) (T := TX4) (N := 18) rfl rfl 7 (by decide) (hts _ rw_398) (fun _ h => h) (v := .int (nI g)) rfl dX4_spanOf_1 ?_
  refine lv_istore_n hx hb dX4_spanOf_4 rfl hl (lv' := [(2, .int (nI g)), (0, .ref (q 0)), (1, .int (nI u))]) (by decide) rfl (fun ls hl => ?_)
  refine lv_aload_n hx hb dX4_spanOf_5 rfl (lv_at hl 1 rfl) ?_
  refine va_get hx hb hts inX4 hown hK hP 0 (ci := 4) (C := RX4) (T := TX4) (N := 18) rfl rfl 7 (by decide) (hts _ rw_398) (fun _ h => h) (v := .int (nI g)) rfl dX4_spanOf_6 ?_
  refine lv_istore_n hx hb dX4_spanOf_9 rfl hl (lv' := [(3, .int (nI g)), (2, .int (nI g)), (0, .ref (q 0)), (1, .int (nI u))]) (by decide) rfl (fun ls hl => ?_)
  have L_10 : ∀ (k_10 : Nat) (j : Nat) (H : Heap) (locs : List Loc) (ls : Array Slot), nn - g - j < k_10 → (j ≤ nn - g) → lv_has ls 4 [(0, .ref (q 0)), (1, .int (nI u)), (2, .int (nI (rs_ms tk g u j))), (3, .int (nI (g + j)))] → va_P D vwCl (wM aI aJ aL q dd dp dk dx dy dw dn g tm pz tk nn vn vt po vl ea la) H → va_D A (wM aI aJ aL q dd dp dk dx dy dw dn g tm pz tk nn vn vt po vl ea la) → va_S A s.heap H locs → W p l e rm_X4_spanOf s m args below meth c H locs 0 0 Q (F0 m 10 ls []) := by
    intro k_10
    induction k_10 with
    | zero => intro j H locs ls hk_10; exact absurd hk_10 (Nat.not_lt_zero _)
    | succ k_10 ih_10 =>
      intro j H locs ls hk_10 hj hl hP hD hS
      refine lv_iload_n hx hb dX4_spanOf_10 rfl (lv_at hl 3 rfl) ?_
      refine lv_aload_n hx hb dX4_spanOf_11 rfl (lv_at hl 0 rfl) ?_
      refine va_get hx hb hts inX4 hown hK hP 0 (ci := 4) (C := RX4) (T := TX4) (N := 18) rfl rfl 11 (by decide) (hts _ rw_402) (fun _ h => h) (v := .int (nI nn)) rfl dX4_spanOf_12 ?_
      refine lv_icmp_ge hx hb dX4_spanOf_15 (tgt := 43) rfl (fun h_15 => ?_) (fun h_15 => ?_)
      · have h_15 : nn ≤ (g + j) := (nI_leI (by omega) (by omega)).1 h_15
        refine lv_iload_n hx hb dX4_spanOf_43 rfl (lv_at hl 2 rfl) ?_
        have hj9 : j = nn - g := by omega
        subst hj9
        exact rs_iret () hx hb hr hlk hQ hK hP hD hS rfl rfl rfl dX4_spanOf_44
      · have h_15 : (g + j) < nn := Nat.lt_of_not_le (fun z => h_15 ((nI_leI (by omega) (by omega)).2 z))
        refine lv_bipush hx hb dX4_spanOf_18 (v := nI 60) (by decide) ?_
        refine lv_aload_n hx hb dX4_spanOf_20 rfl (lv_at hl 0 rfl) ?_
        refine va_get hx hb hts inX4 hown hK hP 0 (ci := 4) (C := RX4) (T := TX4) (N := 18) rfl rfl 10 (by decide) (hts _ rw_401) (fun _ h => h) (v := .ref (q 7)) rfl dX4_spanOf_21 ?_
        refine lv_iload_n hx hb dX4_spanOf_24 rfl (lv_at hl 3 rfl) ?_
        refine rs_iald hx hb hK hP 7 0 rfl rfl (i := (g + j)) (by omega) (by decide) (v := nI (tk (g + j))) rfl dX4_spanOf_25 ?_
        have hk1 := htk (g + j)
        refine rs_imul hx hb dX4_spanOf_26 (v := nI (60 * (tk (g + j)))) (pk_mul _ _) ?_
        refine lv_iload_n hx hb dX4_spanOf_27 rfl (lv_at hl 1 rfl) ?_
        refine lv_icmp_gt hx hb dX4_spanOf_28 (tgt := 35) rfl (fun h_28 => ?_) (fun h_28 => ?_)
        · have h_28 : u < (60 * (tk (g + j))) := (nI_ltI (by omega) (by omega)).1 h_28
          have e_j : rs_ms tk g u (j + 1) = rs_ms tk g u j := if_neg (by omega)
          refine lv_iload_n hx hb dX4_spanOf_35 rfl (lv_at hl 2 rfl) ?_
          refine lv_istore_n hx hb dX4_spanOf_36 rfl hl (lv' := [(2, .int (nI (rs_ms tk g u j))), (0, .ref (q 0)), (1, .int (nI u)), (3, .int (nI (g + j)))]) (by decide) rfl (fun ls hl => ?_)
          refine lv_iinc hx hb dX4_spanOf_37 hl (k := 3) rfl (v := nI ((g + j) + 1)) (rs_inc _ _) (by decide) (lv' := [(3, .int (nI ((g + j) + 1))), (2, .int (nI (rs_ms tk g u j))), (0, .ref (q 0)), (1, .int (nI u))]) rfl (fun ls hl => ?_)
          refine lv_goto hx hb dX4_spanOf_40 (tgt := 10) rfl ?_
          exact ih_10 (j + 1) _ _ _ (by omega) (by omega) (by rw [e_j]; exact lv_sub hl [2, 3, 1, 0] rfl) hP hD hS
        · have h_28 : (60 * (tk (g + j))) ≤ u := Nat.le_of_not_lt (fun z => h_28 ((nI_ltI (by omega) (by omega)).2 z))
          have e_j : rs_ms tk g u (j + 1) = g + j := if_pos h_28
          refine lv_iload_n hx hb dX4_spanOf_31 rfl (lv_at hl 3 rfl) ?_
          refine lv_goto hx hb dX4_spanOf_32 (tgt := 36) rfl ?_
          refine lv_istore_n hx hb dX4_spanOf_36 rfl hl (lv' := [(2, .int (nI (g + j))), (0, .ref (q 0)), (1, .int (nI u)), (3, .int (nI (g + j)))]) (by decide) rfl (fun ls hl => ?_)
          refine lv_iinc hx hb dX4_spanOf_37 hl (k := 3) rfl (v := nI ((g + j) + 1)) (rs_inc _ _) (by decide) (lv' := [(3, .int (nI ((g + j) + 1))), (2, .int (nI (g + j))), (0, .ref (q 0)), (1, .int (nI u))]) rfl (fun ls hl => ?_)
          refine lv_goto hx hb dX4_spanOf_40 (tgt := 10) rfl ?_
          exact ih_10 (j + 1) _ _ _ (by omega) (by omega) (by rw [e_j]; exact lv_sub hl [2, 3, 1, 0] rfl) hP hD hS
  exact L_10 ((nn - g - 0) + 1) 0 _ _ _ (Nat.lt_succ_self _) (by omega) (lv_sub hl [2, 3, 1, 0] rfl) hP hD hS

def rm_X4_controlOf : Room := { frames := 1, cells := 0, slots := 0, locals := 64 }
set_option maxHeartbeats 4000000 in
set_option maxRecDepth 100000 in
theorem c_X4_controlOf (l : Launch) (D : va_G) (aI aJ aL : ClassId) (sz : Nat) (q : Nat → Nat) (dd : Nat) (dp : Nat) (dk : Nat) (dx : Nat → Int32) (dy : Nat → Int32) (dw : Nat → Int32) (dn : Nat → Nat) (g : Nat) (tm : Nat → Nat) (pz : Nat → Int64) (tk : Nat → Nat) (nn : Nat) (vn : Nat) (vt : Nat → Nat) (po : Nat → Int64) (vl : Nat → Int64) (ea : Nat → Nat) (la : Nat → Nat) (i : Nat) (ax : Nat) (hg1 : 1 ≤ g) (hg : g ≤ 3) (hi : i + g ≤ 23) (hti : tk i ≤ 5) (hax : ax < 3) : rs_ML (S := Unit) l yX4_controlOf (Cond.code yX4_controlOf prog_6_method_11_code 19 (some .long) :: rsW) rm_X4_controlOf D vwCl (rs_tys aI aJ aL) rs_nw [.ref (q 0), .int (nI i), .int (nI ax)] (wM aI aJ aL q dd dp dk dx dy dw dn g tm pz tk nn vn vt po vl ea la) sz (rs_co pz tk g i ax) (fun uu => wM aI aJ aL q dd dp dk dx dy dw dn g tm pz tk nn vn vt po vl ea la) := by
  refine rs_ent (cc := cX4_controlOf) (maxL := 19) (ret := some .long) (Qc := rs_QL D vwCl _ _ _) (by decide) rfl (Nat.le_of_ble_eq_true rfl) ?_
  intro p e s m args below meth c ls A Q hx hb hr hml hlk hts hown hin hK hN hP hD hS hA hQ hl
  have hl : lv_has ls 19 [(0, .ref (q 0)), (1, .int (nI i)), (2, .int (nI ax))] := hl
  refine lv_aload_n hx hb dX4_controlOf_0 rfl (lv_at hl 0 rfl) ?_
  refine va_get hx hb hts inX4 hown hK hP 0 (ci := 4) (C := RX4) (T := TX4) (N := 18) rfl rfl 10 (by decide) (hts _ rw_401) (fun _ h => h) (v := .ref (q 7)) rfl dX4_controlOf_1 ?_
  refine lv_iload_n hx hb dX4_controlOf_4 rfl (lv_at hl 1 rfl) ?_
  refine rs_iald hx hb hK hP 7 0 rfl rfl (i := i) (by omega) (by decide) (v := nI (tk i)) rfl dX4_controlOf_5 ?_
  refine lv_istore_n hx hb dX4_controlOf_6 rfl hl (lv' := [(3, .int (nI (tk i))), (0, .ref (q 0)), (1, .int (nI i)), (2, .int (nI ax))]) (by decide) rfl (fun ls hl => ?_)
  refine lv_lconst hx hb dX4_controlOf_7 (v := 0) (by decide) ?_
  refine lv_lstore hx hb dX4_controlOf_8 hl (lv' := [(4, .long 0), (3, .int (nI (tk i))), (0, .ref (q 0)), (1, .int (nI i)), (2, .int (nI ax))]) (by decide) rfl (fun ls hl => ?_)
  refine lv_lconst hx hb dX4_controlOf_10 (v := 0) (by decide) ?_
  refine lv_lstore hx hb dX4_controlOf_11 hl (lv' := [(6, .long 0), (4, .long 0), (3, .int (nI (tk i))), (0, .ref (q 0)), (1, .int (nI i)), (2, .int (nI ax))]) (by decide) rfl (fun ls hl => ?_)
  refine lv_lconst hx hb dX4_controlOf_13 (v := 0) (by decide) ?_
  refine lv_lstore hx hb dX4_controlOf_14 hl (lv' := [(8, .long 0), (6, .long 0), (4, .long 0), (3, .int (nI (tk i))), (0, .ref (q 0)), (1, .int (nI i)), (2, .int (nI ax))]) (by decide) rfl (fun ls hl => ?_)
  refine lv_iconst hx hb dX4_controlOf_16 (v := nI 1) (by decide) ?_
  refine lv_istore hx hb dX4_controlOf_17 hl (lv' := [(10, .int (nI 1)), (8, .long 0), (6, .long 0), (4, .long 0), (3, .int (nI (tk i))), (0, .ref (q 0)), (1, .int (nI i)), (2, .int (nI ax))]) (by decide) rfl (fun ls hl => ?_)
  have L_19 : ∀ (k_19 : Nat) (v : Nat) (H : Heap) (locs : List Loc) (ls : Array Slot), g - v < k_19 → (v ≤ g) → lv_has ls 19 [(0, .ref (q 0)), (1, .int (nI i)), (2, .int (nI ax)), (3, .int (nI (tk i))), (4, .long (rs_e1 (rs_ds tk i) v)), (6, .long (rs_e2 (rs_ds tk i) v)), (8, .long (rs_e3 (rs_ds tk i) v)), (10, .int (nI (v + 1)))] → va_P D vwCl (wM aI aJ aL q dd dp dk dx dy dw dn g tm pz tk nn vn vt po vl ea la) H → va_D A (wM aI aJ aL q dd dp dk dx dy dw dn g tm pz tk nn vn vt po vl ea la) → va_S A s.heap H locs → W p l e rm_X4_controlOf s m args below meth c H locs 0 0 Q (F0 m 19 ls []) := by
    intro k_19
    induction k_19 with
    | zero => intro v H locs ls hk_19; exact absurd hk_19 (Nat.not_lt_zero _)
    | succ k_19 ih_19 =>
      intro v H locs ls hk_19 hv hl hP hD hS
      refine lv_iload hx hb dX4_controlOf_19 (lv_at hl 7 rfl) ?_
      refine lv_aload_n hx hb dX4_controlOf_21 rfl (lv_at hl 0 rfl) ?_
      refine va_get hx hb hts inX4 hown hK hP 0 (ci := 4) (C := RX4) (T := TX4) (N := 18) rfl rfl 7 (by decide) (hts _ rw_398) (fun _ h => h) (v := .int (nI g)) rfl dX4_controlOf_22 ?_
      refine lv_icmp_gt hx hb dX4_controlOf_25 (tgt := 75) rfl (fun h_25 => ?_) (fun h_25 => ?_)
      · have h_25 : g < (v + 1) := (nI_ltI (by omega) (by omega)).1 h_25
        have hv9 : v = g := by omega
        refine lv_bipush hx hb dX4_controlOf_75 (v := nI 24) (by decide) ?_
        refine lv_iload_n hx hb dX4_controlOf_77 rfl (lv_at hl 2 rfl) ?_
        refine rs_imul hx hb dX4_controlOf_78 (v := nI (24 * ax)) (pk_mul _ _) ?_
        refine lv_iconst hx hb dX4_controlOf_79 (v := nI 4) (by decide) ?_
        refine lv_iload_n hx hb dX4_controlOf_80 rfl (lv_at hl 3 rfl) ?_
        refine rs_imul hx hb dX4_controlOf_81 (v := nI (4 * (tk i))) (pk_mul _ _) ?_
        refine rs_iadd hx hb dX4_controlOf_82 (v := nI ((24 * ax) + (4 * (tk i)))) (nI_add _ _) ?_
        refine lv_istore hx hb dX4_controlOf_83 hl (lv' := [(10, .int (nI ((24 * ax) + (4 * (tk i))))), (0, .ref (q 0)), (1, .int (nI i)), (2, .int (nI ax)), (3, .int (nI (tk i))), (4, .long (rs_e1 (rs_ds tk i) v)), (6, .long (rs_e2 (rs_ds tk i) v)), (8, .long (rs_e3 (rs_ds tk i) v))]) (by decide) rfl (fun ls hl => ?_)
        refine lv_aload_n hx hb dX4_controlOf_85 rfl (lv_at hl 1 rfl) ?_
        refine va_get hx hb hts inX4 hown hK hP 0 (ci := 4) (C := RX4) (T := TX4) (N := 18) rfl rfl 9 (by decide) (hts _ rw_400) (fun _ h => h) (v := .ref (q 6)) rfl dX4_controlOf_86 ?_
        refine lv_iload hx hb dX4_controlOf_89 (lv_at hl 0 rfl) ?_
        refine rs_lald hx hb hK hP 6 1 rfl rfl (i := ((24 * ax) + (4 * (tk i)))) (by omega) (by decide) (v := pz ((24 * ax) + (4 * (tk i)))) rfl dX4_controlOf_91 ?_
        refine lv_lstore hx hb dX4_controlOf_92 hl (lv' := [(11, .long (pz ((24 * ax) + (4 * (tk i))))), (10, .int (nI ((24 * ax) + (4 * (tk i))))), (0, .ref (q 0)), (1, .int (nI i)), (2, .int (nI ax)), (3, .int (nI (tk i))), (4, .long (rs_e1 (rs_ds tk i) v)), (6, .long (rs_e2 (rs_ds tk i) v)), (8, .long (rs_e3 (rs_ds tk i) v))]) (by decide) rfl (fun ls hl => ?_)
        refine lv_aload_n hx hb dX4_controlOf_94 rfl (lv_at hl 2 rfl) ?_
        refine va_get hx hb hts inX4 hown hK hP 0 (ci := 4) (C := RX4) (T := TX4) (N := 18) rfl rfl 9 (by decide) (hts _ rw_400) (fun _ h => h) (v := .ref (q 6)) rfl dX4_controlOf_95 ?_
        refine lv_iload hx hb dX4_controlOf_98 (lv_at hl 1 rfl) ?_
        refine lv_iconst hx hb dX4_controlOf_100 (v := nI 1) (by decide) ?_
        refine rs_iadd hx hb dX4_controlOf_101 (v := nI (((24 * ax) + (4 * (tk i))) + 1)) (nI_add _ _) ?_
        refine rs_lald hx hb hK hP 6 1 rfl rfl (i := (((24 * ax) + (4 * (tk i))) + 1)) (by omega) (by decide) (v := pz (((24 * ax) + (4 * (tk i))) + 1)) rfl dX4_controlOf_102 ?_
        refine lv_lstore hx hb dX4_controlOf_103 hl (lv' := [(13, .long (pz (((24 * ax) + (4 * (tk i))) + 1))), (11, .long (pz ((24 * ax) + (4 * (tk i))))), (10, .int (nI ((24 * ax) + (4 * (tk i))))), (0, .ref (q 0)), (1, .int (nI i)), (2, .int (nI ax)), (3, .int (nI (tk i))), (4, .long (rs_e1 (rs_ds tk i) v)), (6, .long (rs_e2 (rs_ds tk i) v)), (8, .long (rs_e3 (rs_ds tk i) v))]) (by decide) rfl (fun ls hl => ?_)
        refine lv_aload_n hx hb dX4_controlOf_105 rfl (lv_at hl 3 rfl) ?_
        refine va_get hx hb hts inX4 hown hK hP 0 (ci := 4) (C := RX4) (T := TX4) (N := 18) rfl rfl 9 (by decide) (hts _ rw_400) (fun _ h => h) (v := .ref (q 6)) rfl dX4_controlOf_106 ?_
        refine lv_iload hx hb dX4_controlOf_109 (lv_at hl 2 rfl) ?_
        refine lv_iconst hx hb dX4_controlOf_111 (v := nI 2) (by decide) ?_
        refine rs_iadd hx hb dX4_controlOf_112 (v := nI (((24 * ax) + (4 * (tk i))) + 2)) (nI_add _ _) ?_
        refine rs_lald hx hb hK hP 6 1 rfl rfl (i := (((24 * ax) + (4 * (tk i))) + 2)) (by omega) (by decide) (v := pz (((24 * ax) + (4 * (tk i))) + 2)) rfl dX4_controlOf_113 ?_
        refine lv_lstore hx hb dX4_controlOf_114 hl (lv' := [(15, .long (pz (((24 * ax) + (4 * (tk i))) + 2))), (13, .long (pz (((24 * ax) + (4 * (tk i))) + 1))), (11, .long (pz ((24 * ax) + (4 * (tk i))))), (10, .int (nI ((24 * ax) + (4 * (tk i))))), (0, .ref (q 0)), (1, .int (nI i)), (2, .int (nI ax)), (3, .int (nI (tk i))), (4, .long (rs_e1 (rs_ds tk i) v)), (6, .long (rs_e2 (rs_ds tk i) v)), (8, .long (rs_e3 (rs_ds tk i) v))]) (by decide) rfl (fun ls hl => ?_)
        refine lv_aload_n hx hb dX4_controlOf_116 rfl (lv_at hl 4 rfl) ?_
        refine va_get hx hb hts inX4 hown hK hP 0 (ci := 4) (C := RX4) (T := TX4) (N := 18) rfl rfl 9 (by decide) (hts _ rw_400) (fun _ h => h) (v := .ref (q 6)) rfl dX4_controlOf_117 ?_
        refine lv_iload hx hb dX4_controlOf_120 (lv_at hl 3 rfl) ?_
        refine lv_iconst hx hb dX4_controlOf_122 (v := nI 3) (by decide) ?_
        refine rs_iadd hx hb dX4_controlOf_123 (v := nI (((24 * ax) + (4 * (tk i))) + 3)) (nI_add _ _) ?_
        refine rs_lald hx hb hK hP 6 1 rfl rfl (i := (((24 * ax) + (4 * (tk i))) + 3)) (by omega) (by decide) (v := pz (((24 * ax) + (4 * (tk i))) + 3)) rfl dX4_controlOf_124 ?_
        refine lv_lstore hx hb dX4_controlOf_125 hl (lv' := [(17, .long (pz (((24 * ax) + (4 * (tk i))) + 3))), (15, .long (pz (((24 * ax) + (4 * (tk i))) + 2))), (13, .long (pz (((24 * ax) + (4 * (tk i))) + 1))), (11, .long (pz ((24 * ax) + (4 * (tk i))))), (10, .int (nI ((24 * ax) + (4 * (tk i))))), (0, .ref (q 0)), (1, .int (nI i)), (2, .int (nI ax)), (3, .int (nI (tk i))), (4, .long (rs_e1 (rs_ds tk i) v)), (6, .long (rs_e2 (rs_ds tk i) v)), (8, .long (rs_e3 (rs_ds tk i) v))]) (by decide) rfl (fun ls hl => ?_)
        refine lv_aload_n hx hb dX4_controlOf_127 rfl (lv_at hl 5 rfl) ?_
        refine va_get hx hb hts inX4 hown hK hP 0 (ci := 4) (C := RX4) (T := TX4) (N := 18) rfl rfl 7 (by decide) (hts _ rw_398) (fun _ h => h) (v := .int (nI g)) rfl dX4_controlOf_128 ?_
        refine lv_iconst hx hb dX4_controlOf_131 (v := nI 1) (by decide) ?_
        refine lv_icmp_ne hx hb dX4_controlOf_132 (tgt := 144) rfl (fun h_132 => ?_) (fun h_132 => ?_)
        · have h_132 : ¬ g = 1 := fun z => h_132 ((nI_eq (by omega) (by omega)).2 z)
          refine lv_aload_n hx hb dX4_controlOf_144 rfl (lv_at hl 5 rfl) ?_
          refine va_get hx hb hts inX4 hown hK hP 0 (ci := 4) (C := RX4) (T := TX4) (N := 18) rfl rfl 7 (by decide) (hts _ rw_398) (fun _ h => h) (v := .int (nI g)) rfl dX4_controlOf_145 ?_
          refine lv_iconst hx hb dX4_controlOf_148 (v := nI 2) (by decide) ?_
          refine lv_icmp_ne hx hb dX4_controlOf_149 (tgt := 179) rfl (fun h_149 => ?_) (fun h_149 => ?_)
          · have h_149 : ¬ g = 2 := fun z => h_149 ((nI_eq (by omega) (by omega)).2 z)
            refine lv_ldc2 hx hb hown (hts _ rw_508) dX4_controlOf_179 ?_
            refine lv_lload hx hb dX4_controlOf_182 (lv_at hl 3 rfl) ?_
            refine lv_lmul hx hb dX4_controlOf_184 ?_
            refine lv_lload hx hb dX4_controlOf_185 (lv_at hl 2 rfl) ?_
            refine lv_lload hx hb dX4_controlOf_187 (lv_at hl 9 rfl) ?_
            refine lv_lmul hx hb dX4_controlOf_189 ?_
            refine lv_ladd hx hb dX4_controlOf_190 ?_
            refine lv_lload hx hb dX4_controlOf_191 (lv_at hl 1 rfl) ?_
            refine lv_lload hx hb dX4_controlOf_193 (lv_at hl 10 rfl) ?_
            refine lv_lmul hx hb dX4_controlOf_195 ?_
            refine lv_ladd hx hb dX4_controlOf_196 ?_
            refine lv_ldc2 hx hb hown (hts _ rw_508) dX4_controlOf_197 ?_
            refine lv_lload hx hb dX4_controlOf_200 (lv_at hl 0 rfl) ?_
            refine lv_lmul hx hb dX4_controlOf_202 ?_
            refine lv_lload hx hb dX4_controlOf_203 (lv_at hl 11 rfl) ?_
            refine lv_lmul hx hb dX4_controlOf_205 ?_
            refine lv_ladd hx hb dX4_controlOf_206 ?_
            refine lv_ldc2 hx hb hown (hts _ rw_508) dX4_controlOf_207 ?_
            refine lv_ldiv hx hb dX4_controlOf_210 (by decide) ?_
            exact rs_lret () hx hb hr hlk hQ hK hP hD hS (by rw [hv9]; exact ((if_neg h_132).trans (if_neg h_149)).symm) rfl dX4_controlOf_211
          · have h_149 : g = 2 := (nI_eq (by omega) (by omega)).1 h_149
            refine lv_ldc2 hx hb hown (hts _ rw_507) dX4_controlOf_152 ?_
            refine lv_lload hx hb dX4_controlOf_155 (lv_at hl 3 rfl) ?_
            refine lv_lmul hx hb dX4_controlOf_157 ?_
            refine lv_lload hx hb dX4_controlOf_158 (lv_at hl 2 rfl) ?_
            refine lv_lload hx hb dX4_controlOf_160 (lv_at hl 9 rfl) ?_
            refine lv_lmul hx hb dX4_controlOf_162 ?_
            refine lv_ladd hx hb dX4_controlOf_163 ?_
            refine lv_ldc2 hx hb hown (hts _ rw_507) dX4_controlOf_164 ?_
            refine lv_lload hx hb dX4_controlOf_167 (lv_at hl 1 rfl) ?_
            refine lv_lmul hx hb dX4_controlOf_169 ?_
            refine lv_lload hx hb dX4_controlOf_170 (lv_at hl 10 rfl) ?_
            refine lv_lmul hx hb dX4_controlOf_172 ?_
            refine lv_ladd hx hb dX4_controlOf_173 ?_
            refine lv_ldc2 hx hb hown (hts _ rw_507) dX4_controlOf_174 ?_
            refine lv_ldiv hx hb dX4_controlOf_177 (by decide) ?_
            exact rs_lret () hx hb hr hlk hQ hK hP hD hS (by rw [hv9]; exact ((if_neg h_132).trans (if_pos h_149)).symm) rfl dX4_controlOf_178
        · have h_132 : g = 1 := (nI_eq (by omega) (by omega)).1 h_132
          refine lv_lload hx hb dX4_controlOf_135 (lv_at hl 3 rfl) ?_
          refine lv_lload hx hb dX4_controlOf_137 (lv_at hl 2 rfl) ?_
          refine lv_lload hx hb dX4_controlOf_139 (lv_at hl 9 rfl) ?_
          refine lv_lmul hx hb dX4_controlOf_141 ?_
          refine lv_ladd hx hb dX4_controlOf_142 ?_
          exact rs_lret () hx hb hr hlk hQ hK hP hD hS (by rw [hv9]; exact (if_pos h_132).symm) rfl dX4_controlOf_143
      · have h_25 : (v + 1) ≤ g := Nat.le_of_not_lt (fun z => h_25 ((nI_ltI (by omega) (by omega)).2 z))
        refine lv_aload_n hx hb dX4_controlOf_28 rfl (lv_at hl 0 rfl) ?_
        refine va_get hx hb hts inX4 hown hK hP 0 (ci := 4) (C := RX4) (T := TX4) (N := 18) rfl rfl 10 (by decide) (hts _ rw_401) (fun _ h => h) (v := .ref (q 7)) rfl dX4_controlOf_29 ?_
        refine lv_iload_n hx hb dX4_controlOf_32 rfl (lv_at hl 1 rfl) ?_
        refine lv_iload hx hb dX4_controlOf_33 (lv_at hl 7 rfl) ?_
        refine rs_iadd hx hb dX4_controlOf_35 (v := nI (i + (v + 1))) (nI_add _ _) ?_
        refine rs_iald hx hb hK hP 7 0 rfl rfl (i := (i + (v + 1))) (by omega) (by decide) (v := nI (tk (i + (v + 1)))) rfl dX4_controlOf_36 ?_
        refine lv_iload_n hx hb dX4_controlOf_37 rfl (lv_at hl 3 rfl) ?_
        refine rs_isub hx hb dX4_controlOf_38 (v := (nI (tk (i + (v + 1))) - nI (tk i))) rfl ?_
        refine lv_i2l hx hb dX4_controlOf_39 (v := ((nI (tk (i + (v + 1))) - nI (tk i))).toInt64) rfl ?_
        refine lv_lstore hx hb dX4_controlOf_40 hl (lv' := [(11, .long (((nI (tk (i + (v + 1))) - nI (tk i))).toInt64)), (0, .ref (q 0)), (1, .int (nI i)), (2, .int (nI ax)), (3, .int (nI (tk i))), (4, .long (rs_e1 (rs_ds tk i) v)), (6, .long (rs_e2 (rs_ds tk i) v)), (8, .long (rs_e3 (rs_ds tk i) v)), (10, .int (nI (v + 1)))]) (by decide) rfl (fun ls hl => ?_)
        refine lv_lload hx hb dX4_controlOf_42 (lv_at hl 7 rfl) ?_
        refine lv_lload hx hb dX4_controlOf_44 (lv_at hl 6 rfl) ?_
        refine lv_lload hx hb dX4_controlOf_46 (lv_at hl 0 rfl) ?_
        refine lv_lmul hx hb dX4_controlOf_48 ?_
        refine lv_ladd hx hb dX4_controlOf_49 ?_
        refine lv_lstore hx hb dX4_controlOf_50 hl (lv' := [(8, .long ((rs_e3 (rs_ds tk i) v) + ((rs_e2 (rs_ds tk i) v) * (((nI (tk (i + (v + 1))) - nI (tk i))).toInt64)))), (11, .long (((nI (tk (i + (v + 1))) - nI (tk i))).toInt64)), (0, .ref (q 0)), (1, .int (nI i)), (2, .int (nI ax)), (3, .int (nI (tk i))), (4, .long (rs_e1 (rs_ds tk i) v)), (6, .long (rs_e2 (rs_ds tk i) v)), (10, .int (nI (v + 1)))]) (by decide) rfl (fun ls hl => ?_)
        refine lv_lload hx hb dX4_controlOf_52 (lv_at hl 7 rfl) ?_
        refine lv_lload hx hb dX4_controlOf_54 (lv_at hl 6 rfl) ?_
        refine lv_lload hx hb dX4_controlOf_56 (lv_at hl 1 rfl) ?_
        refine lv_lmul hx hb dX4_controlOf_58 ?_
        refine lv_ladd hx hb dX4_controlOf_59 ?_
        refine lv_lstore hx hb dX4_controlOf_60 hl (lv' := [(6, .long ((rs_e2 (rs_ds tk i) v) + ((rs_e1 (rs_ds tk i) v) * (((nI (tk (i + (v + 1))) - nI (tk i))).toInt64)))), (8, .long ((rs_e3 (rs_ds tk i) v) + ((rs_e2 (rs_ds tk i) v) * (((nI (tk (i + (v + 1))) - nI (tk i))).toInt64)))), (11, .long (((nI (tk (i + (v + 1))) - nI (tk i))).toInt64)), (0, .ref (q 0)), (1, .int (nI i)), (2, .int (nI ax)), (3, .int (nI (tk i))), (4, .long (rs_e1 (rs_ds tk i) v)), (10, .int (nI (v + 1)))]) (by decide) rfl (fun ls hl => ?_)
        refine lv_lload hx hb dX4_controlOf_62 (lv_at hl 7 rfl) ?_
        refine lv_lload hx hb dX4_controlOf_64 (lv_at hl 2 rfl) ?_
        refine lv_ladd hx hb dX4_controlOf_66 ?_
        refine lv_lstore hx hb dX4_controlOf_67 hl (lv' := [(4, .long ((rs_e1 (rs_ds tk i) v) + (((nI (tk (i + (v + 1))) - nI (tk i))).toInt64))), (6, .long ((rs_e2 (rs_ds tk i) v) + ((rs_e1 (rs_ds tk i) v) * (((nI (tk (i + (v + 1))) - nI (tk i))).toInt64)))), (8, .long ((rs_e3 (rs_ds tk i) v) + ((rs_e2 (rs_ds tk i) v) * (((nI (tk (i + (v + 1))) - nI (tk i))).toInt64)))), (11, .long (((nI (tk (i + (v + 1))) - nI (tk i))).toInt64)), (0, .ref (q 0)), (1, .int (nI i)), (2, .int (nI ax)), (3, .int (nI (tk i))), (10, .int (nI (v + 1)))]) (by decide) rfl (fun ls hl => ?_)
        refine lv_iinc hx hb dX4_controlOf_69 hl (k := 8) rfl (v := nI ((v + 1) + 1)) (rs_inc _ _) (by decide) (lv' := [(10, .int (nI ((v + 1) + 1))), (4, .long ((rs_e1 (rs_ds tk i) v) + (((nI (tk (i + (v + 1))) - nI (tk i))).toInt64))), (6, .long ((rs_e2 (rs_ds tk i) v) + ((rs_e1 (rs_ds tk i) v) * (((nI (tk (i + (v + 1))) - nI (tk i))).toInt64)))), (8, .long ((rs_e3 (rs_ds tk i) v) + ((rs_e2 (rs_ds tk i) v) * (((nI (tk (i + (v + 1))) - nI (tk i))).toInt64)))), (11, .long (((nI (tk (i + (v + 1))) - nI (tk i))).toInt64)), (0, .ref (q 0)), (1, .int (nI i)), (2, .int (nI ax)), (3, .int (nI (tk i)))]) rfl (fun ls hl => ?_)
        refine lv_goto hx hb dX4_controlOf_72 (tgt := 19) rfl ?_
        exact ih_19 (v + 1) _ _ _ (by omega) (by omega) (lv_sub hl [5, 6, 7, 8, 1, 2, 3, 0] rfl) hP hD hS
  exact L_19 ((g - 0) + 1) 0 _ _ _ (Nat.lt_succ_self _) (by omega) (lv_sub hl [5, 6, 7, 4, 3, 2, 1, 0] rfl) hP hD hS

def rm_X4_choose : Room := { frames := 1, cells := 0, slots := 0, locals := 64 }
set_option maxHeartbeats 4000000 in
set_option maxRecDepth 100000 in
theorem c_X4_choose (l : Launch) (D : va_G) (aI aJ aL : ClassId) (sz : Nat) (e9 : Nat) (d9 : Nat) (he : e9 < 100) (hd9 : d9 < 100) : rs_ML (S := Unit) l yX4_choose (Cond.code yX4_choose prog_6_method_12_code 2 (some .long) :: rsW) rm_X4_choose D vwCl (rs_tys aI aJ aL) rs_nw [.int (nI e9), .int (nI d9)] ([]) sz (rs_ch e9 d9) (fun uu => []) := by
  refine rs_ent (cc := cX4_choose) (maxL := 2) (ret := some .long) (Qc := rs_QL D vwCl _ _ _) (by decide) rfl (Nat.le_of_ble_eq_true rfl) ?_
  intro p e s m args below meth c ls A Q hx hb hr hml hlk hts hown hin hK hN hP hD hS hA hQ hl
  have hl : lv_has ls 2 [(0, .int (nI e9)), (1, .int (nI d9))] := hl
  refine lv_iload_n hx hb dX4_choose_0 rfl (lv_at hl 1 rfl) ?_
  refine lv_if_eq hx hb dX4_choose_1 (tgt := 9) rfl (fun h_1 => ?_) (fun h_1 => ?_)
  · have h_1 : d9 = 0 := rs_z1 (by omega) h_1
    refine lv_lconst hx hb dX4_choose_9 (v := 1) (by decide) ?_
    refine lv_goto hx hb dX4_choose_10 (tgt := 15) rfl ?_
    exact rs_lret () hx hb hr hlk hQ hK hP hD hS (by first | exact (if_pos (by omega)).symm | exact (if_neg (by omega)).symm) rfl dX4_choose_15
  · have h_1 : 0 < d9 := rs_z2 (by omega) h_1
    refine lv_iload_n hx hb dX4_choose_4 rfl (lv_at hl 1 rfl) ?_
    refine lv_iload_n hx hb dX4_choose_5 rfl (lv_at hl 0 rfl) ?_
    refine lv_icmp_ne hx hb dX4_choose_6 (tgt := 13) rfl (fun h_6 => ?_) (fun h_6 => ?_)
    · have h_6 : ¬ d9 = e9 := fun z => h_6 ((nI_eq (by omega) (by omega)).2 z)
      refine lv_iload_n hx hb dX4_choose_13 rfl (lv_at hl 0 rfl) ?_
      refine lv_i2l hx hb dX4_choose_14 (v := (lN e9)) (nI_l (by omega)) ?_
      exact rs_lret () hx hb hr hlk hQ hK hP hD hS (by first | exact (if_pos (by omega)).symm | exact (if_neg (by omega)).symm) rfl dX4_choose_15
    · have h_6 : d9 = e9 := (nI_eq (by omega) (by omega)).1 h_6
      refine lv_lconst hx hb dX4_choose_9 (v := 1) (by decide) ?_
      refine lv_goto hx hb dX4_choose_10 (tgt := 15) rfl ?_
      exact rs_lret () hx hb hr hlk hQ hK hP hD hS (by first | exact (if_pos (by omega)).symm | exact (if_neg (by omega)).symm) rfl dX4_choose_15

def rm_X4_smooth : Room := { frames := 2, cells := 0, slots := 0, locals := 149 }
set_option maxHeartbeats 4000000 in
set_option maxRecDepth 100000 in
theorem c_X4_smooth (l : Launch) (D : va_G) (aI aJ aL : ClassId) (sz : Nat) (q : Nat → Nat) (dd : Nat) (dp : Nat) (dk : Nat) (dx : Nat → Int32) (dy : Nat → Int32) (dw : Nat → Int32) (dn : Nat → Nat) (g : Nat) (tm : Nat → Nat) (pz : Nat → Int64) (tk : Nat → Nat) (nn : Nat) (vn : Nat) (vt : Nat → Nat) (po : Nat → Int64) (vl : Nat → Int64) (ea : Nat → Nat) (la : Nat → Nat) (k : Nat) (z : Nat) (hk1 : 1 ≤ k) (hk5 : k ≤ 5) (hz : z < 100) : rs_MI (S := Unit) l yX4_smooth (Cond.code yX4_smooth prog_6_method_13_code 9 (some .boolean) :: rsW) rm_X4_smooth D vwCl (rs_tys aI aJ aL) rs_nw [.ref (q 0), .int (nI k), .int (nI z)] (wM aI aJ aL q dd dp dk dx dy dw dn g tm pz tk nn vn vt po vl ea la) sz (rs_b (decide (rs_smo pz k z))) (fun uu => wM aI aJ aL q dd dp dk dx dy dw dn g tm pz tk nn vn vt po vl ea la) := by
  refine rs_ent (cc := cX4_smooth) (maxL := 9) (ret := some .boolean) (Qc := rs_QI D vwCl _ _ _) (by decide) rfl (Nat.le_of_ble_eq_true rfl) ?_
  intro p e s m args below meth c ls A Q hx hb hr hml hlk hts hown hin hK hN hP hD hS hA hQ hl
  have hl : lv_has ls 9 [(0, .ref (q 0)), (1, .int (nI k)), (2, .int (nI z))] := hl
  refine lv_iconst hx hb dX4_smooth_0 (v := nI 0) (by decide) ?_
  refine lv_istore_n hx hb dX4_smooth_1 rfl hl (lv' := [(3, .int (nI 0)), (0, .ref (q 0)), (1, .int (nI k)), (2, .int (nI z))]) (by decide) rfl (fun ls hl => ?_)
  have L_2 : ∀ (k_2 : Nat) (ax : Nat) (H : Heap) (locs : List Loc) (ls : Array Slot), 3 - ax < k_2 → (ax ≤ 3) → (∀ b, b < ax → ∀ d, d < 4 → d < z → rs_su pz (24 * b + 4 * (k - 1)) d (4 - d) = pz (24 * b + 4 * (k - 1) + 4 + d)) → lv_has ls 9 [(0, .ref (q 0)), (1, .int (nI k)), (2, .int (nI z)), (3, .int (nI ax))] → va_P D vwCl (wM aI aJ aL q dd dp dk dx dy dw dn g tm pz tk nn vn vt po vl ea la) H → va_D A (wM aI aJ aL q dd dp dk dx dy dw dn g tm pz tk nn vn vt po vl ea la) → va_S A s.heap H locs → W p l e rm_X4_smooth s m args below meth c H locs 0 0 Q (F0 m 2 ls []) := by
    intro k_2
    induction k_2 with
    | zero => intro ax H locs ls hk_2; exact absurd hk_2 (Nat.not_lt_zero _)
    | succ k_2 ih_2 =>
      intro ax H locs ls hk_2 hax hAx hl hP hD hS
      refine lv_iload_n hx hb dX4_smooth_2 rfl (lv_at hl 3 rfl) ?_
      refine lv_iconst hx hb dX4_smooth_3 (v := nI 3) (by decide) ?_
      refine lv_icmp_ge hx hb dX4_smooth_4 (tgt := 108) rfl (fun h_4 => ?_) (fun h_4 => ?_)
      · have h_4 : 3 ≤ ax := (nI_leI (by omega) (by omega)).1 h_4
        refine lv_iconst hx hb dX4_smooth_108 (v := nI 1) (by decide) ?_
        exact rs_iret () hx hb hr hlk hQ hK hP hD hS (by decide) (rs_bT (fun b hb => hAx b (by omega))) rfl dX4_smooth_109
      · have h_4 : ax < 3 := Nat.lt_of_not_le (fun z => h_4 ((nI_leI (by omega) (by omega)).2 z))
        refine lv_bipush hx hb dX4_smooth_7 (v := nI 24) (by decide) ?_
        refine lv_iload_n hx hb dX4_smooth_9 rfl (lv_at hl 3 rfl) ?_
        refine rs_imul hx hb dX4_smooth_10 (v := nI (24 * ax)) (pk_mul _ _) ?_
        refine lv_iconst hx hb dX4_smooth_11 (v := nI 4) (by decide) ?_
        refine lv_iload_n hx hb dX4_smooth_12 rfl (lv_at hl 1 rfl) ?_
        refine lv_iconst hx hb dX4_smooth_13 (v := nI 1) (by decide) ?_
        refine rs_isub hx hb dX4_smooth_14 (v := nI (k - 1)) (pk_sub (by omega)) ?_
        refine rs_imul hx hb dX4_smooth_15 (v := nI (4 * (k - 1))) (pk_mul _ _) ?_
        refine rs_iadd hx hb dX4_smooth_16 (v := nI ((24 * ax) + (4 * (k - 1)))) (nI_add _ _) ?_
        refine lv_istore hx hb dX4_smooth_17 hl (lv' := [(4, .int (nI ((24 * ax) + (4 * (k - 1))))), (0, .ref (q 0)), (1, .int (nI k)), (2, .int (nI z)), (3, .int (nI ax))]) (by decide) rfl (fun ls hl => ?_)
        refine lv_iconst hx hb dX4_smooth_19 (v := nI 0) (by decide) ?_
        refine lv_istore hx hb dX4_smooth_20 hl (lv' := [(5, .int (nI 0)), (4, .int (nI ((24 * ax) + (4 * (k - 1))))), (0, .ref (q 0)), (1, .int (nI k)), (2, .int (nI z)), (3, .int (nI ax))]) (by decide) rfl (fun ls hl => ?_)
        have L_22 : ∀ (k_22 : Nat) (d : Nat) (H : Heap) (locs : List Loc) (ls : Array Slot), 4 - d < k_22 → (d ≤ 4) → (∀ e9, e9 < d → rs_su pz (24 * ax + 4 * (k - 1)) e9 (4 - e9) = pz (24 * ax + 4 * (k - 1) + 4 + e9)) → lv_has ls 9 [(0, .ref (q 0)), (1, .int (nI k)), (2, .int (nI z)), (3, .int (nI ax)), (4, .int (nI (24 * ax + 4 * (k - 1)))), (5, .int (nI d))] → va_P D vwCl (wM aI aJ aL q dd dp dk dx dy dw dn g tm pz tk nn vn vt po vl ea la) H → va_D A (wM aI aJ aL q dd dp dk dx dy dw dn g tm pz tk nn vn vt po vl ea la) → va_S A s.heap H locs → W p l e rm_X4_smooth s m args below meth c H locs 0 0 Q (F0 m 22 ls []) := by
          intro k_22
          induction k_22 with
          | zero => intro d H locs ls hk_22; exact absurd hk_22 (Nat.not_lt_zero _)
          | succ k_22 ih_22 =>
            intro d H locs ls hk_22 hd hB hl hP hD hS
            refine lv_iload hx hb dX4_smooth_22 (lv_at hl 5 rfl) ?_
            refine lv_iload_n hx hb dX4_smooth_24 rfl (lv_at hl 2 rfl) ?_
            refine lv_icmp_ge hx hb dX4_smooth_25 (tgt := 102) rfl (fun h_25 => ?_) (fun h_25 => ?_)
            · have h_25 : z ≤ d := (nI_leI (by omega) (by omega)).1 h_25
              refine lv_iinc hx hb dX4_smooth_102 hl (k := 3) rfl (v := nI (ax + 1)) (rs_inc _ _) (by decide) (lv' := [(3, .int (nI (ax + 1))), (0, .ref (q 0)), (1, .int (nI k)), (2, .int (nI z)), (4, .int (nI (24 * ax + 4 * (k - 1)))), (5, .int (nI d))]) rfl (fun ls hl => ?_)
              refine lv_goto hx hb dX4_smooth_105 (tgt := 2) rfl ?_
              exact ih_2 (ax + 1) _ _ _ (by omega) (by omega) (lt_s hAx (fun e9 h1 h2 => hB e9 (by omega))) (lv_sub hl [1, 2, 3, 0] rfl) hP hD hS
            · have h_25 : d < z := Nat.lt_of_not_le (fun z => h_25 ((nI_leI (by omega) (by omega)).2 z))
              refine lv_iload hx hb dX4_smooth_28 (lv_at hl 5 rfl) ?_
              refine lv_iconst hx hb dX4_smooth_30 (v := nI 4) (by decide) ?_
              refine lv_icmp_ge hx hb dX4_smooth_31 (tgt := 102) rfl (fun h_31 => ?_) (fun h_31 => ?_)
              · have h_31 : 4 ≤ d := (nI_leI (by omega) (by omega)).1 h_31
                refine lv_iinc hx hb dX4_smooth_102 hl (k := 3) rfl (v := nI (ax + 1)) (rs_inc _ _) (by decide) (lv' := [(3, .int (nI (ax + 1))), (0, .ref (q 0)), (1, .int (nI k)), (2, .int (nI z)), (4, .int (nI (24 * ax + 4 * (k - 1)))), (5, .int (nI d))]) rfl (fun ls hl => ?_)
                refine lv_goto hx hb dX4_smooth_105 (tgt := 2) rfl ?_
                exact ih_2 (ax + 1) _ _ _ (by omega) (by omega) (lt_s hAx (fun e9 h1 h2 => hB e9 (by omega))) (lv_sub hl [1, 2, 3, 0] rfl) hP hD hS
              · have h_31 : d < 4 := Nat.lt_of_not_le (fun z => h_31 ((nI_leI (by omega) (by omega)).2 z))
                refine lv_lconst hx hb dX4_smooth_34 (v := 0) (by decide) ?_
                refine lv_lstore hx hb dX4_smooth_35 hl (lv' := [(6, .long 0), (0, .ref (q 0)), (1, .int (nI k)), (2, .int (nI z)), (3, .int (nI ax)), (4, .int (nI (24 * ax + 4 * (k - 1)))), (5, .int (nI d))]) (by decide) rfl (fun ls hl => ?_)
                refine lv_iload hx hb dX4_smooth_37 (lv_at hl 6 rfl) ?_
                refine lv_istore hx hb dX4_smooth_39 hl (lv' := [(8, .int (nI d)), (6, .long 0), (0, .ref (q 0)), (1, .int (nI k)), (2, .int (nI z)), (3, .int (nI ax)), (4, .int (nI (24 * ax + 4 * (k - 1)))), (5, .int (nI d))]) (by decide) rfl (fun ls hl => ?_)
                have L_41 : ∀ (k_41 : Nat) (w : Nat) (H : Heap) (locs : List Loc) (ls : Array Slot), 4 - d - w < k_41 → (w ≤ 4 - d) → lv_has ls 9 [(0, .ref (q 0)), (1, .int (nI k)), (2, .int (nI z)), (3, .int (nI ax)), (4, .int (nI (24 * ax + 4 * (k - 1)))), (5, .int (nI d)), (6, .long (rs_su pz (24 * ax + 4 * (k - 1)) d w)), (8, .int (nI (d + w)))] → va_P D vwCl (wM aI aJ aL q dd dp dk dx dy dw dn g tm pz tk nn vn vt po vl ea la) H → va_D A (wM aI aJ aL q dd dp dk dx dy dw dn g tm pz tk nn vn vt po vl ea la) → va_S A s.heap H locs → W p l e rm_X4_smooth s m args below meth c H locs 0 0 Q (F0 m 41 ls []) := by
                  intro k_41
                  induction k_41 with
                  | zero => intro w H locs ls hk_41; exact absurd hk_41 (Nat.not_lt_zero _)
                  | succ k_41 ih_41 =>
                    intro w H locs ls hk_41 hw hl hP hD hS
                    refine lv_iload hx hb dX4_smooth_41 (lv_at hl 7 rfl) ?_
                    refine lv_iconst hx hb dX4_smooth_43 (v := nI 4) (by decide) ?_
                    refine lv_icmp_ge hx hb dX4_smooth_44 (tgt := 76) rfl (fun h_44 => ?_) (fun h_44 => ?_)
                    · have h_44 : 4 ≤ (d + w) := (nI_leI (by omega) (by omega)).1 h_44
                      refine lv_lload hx hb dX4_smooth_76 (lv_at hl 6 rfl) ?_
                      refine lv_aload_n hx hb dX4_smooth_78 rfl (lv_at hl 0 rfl) ?_
                      refine va_get hx hb hts inX4 hown hK hP 0 (ci := 4) (C := RX4) (T := TX4) (N := 18) rfl rfl 9 (by decide) (hts _ rw_400) (fun _ h => h) (v := .ref (q 6)) rfl dX4_smooth_79 ?_
                      refine lv_iload hx hb dX4_smooth_82 (lv_at hl 4 rfl) ?_
                      refine lv_iconst hx hb dX4_smooth_84 (v := nI 4) (by decide) ?_
                      refine rs_iadd hx hb dX4_smooth_85 (v := nI ((24 * ax + 4 * (k - 1)) + 4)) (nI_add _ _) ?_
                      refine lv_iload hx hb dX4_smooth_86 (lv_at hl 5 rfl) ?_
                      refine rs_iadd hx hb dX4_smooth_88 (v := nI (((24 * ax + 4 * (k - 1)) + 4) + d)) (nI_add _ _) ?_
                      refine rs_lald hx hb hK hP 6 1 rfl rfl (i := (((24 * ax + 4 * (k - 1)) + 4) + d)) (by omega) (by decide) (v := pz (((24 * ax + 4 * (k - 1)) + 4) + d)) rfl dX4_smooth_89 ?_
                      refine W.lcmp hx hb dX4_smooth_90 ?_
                      refine lv_if_eq hx hb dX4_smooth_91 (tgt := 96) rfl (fun h_91 => ?_) (fun h_91 => ?_)
                      · have h_91 : (rs_su pz (24 * ax + 4 * (k - 1)) d w) = (pz (((24 * ax + 4 * (k - 1)) + 4) + d)) := (lg_cmp_eq _ _).1 h_91
                        have h9 : rs_su pz (24 * ax + 4 * (k - 1)) d (4 - d) = pz (24 * ax + 4 * (k - 1) + 4 + d) := by rw [show w = 4 - d by omega] at h_91; exact h_91
                        refine lv_iinc hx hb dX4_smooth_96 hl (k := 5) rfl (v := nI (d + 1)) (rs_inc _ _) (by decide) (lv' := [(5, .int (nI (d + 1))), (0, .ref (q 0)), (1, .int (nI k)), (2, .int (nI z)), (3, .int (nI ax)), (4, .int (nI (24 * ax + 4 * (k - 1)))), (6, .long (rs_su pz (24 * ax + 4 * (k - 1)) d w)), (8, .int (nI (d + w)))]) rfl (fun ls hl => ?_)
                        refine lv_goto hx hb dX4_smooth_99 (tgt := 22) rfl ?_
                        exact ih_22 (d + 1) _ _ _ (by omega) (by omega) (lt_s hB h9) (lv_sub hl [1, 2, 3, 4, 5, 0] rfl) hP hD hS
                      · have h_91 : ¬ ((rs_su pz (24 * ax + 4 * (k - 1)) d w) = (pz (((24 * ax + 4 * (k - 1)) + 4) + d))) := fun z => h_91 ((lg_cmp_eq _ _).2 z)
                        have h9 : ¬ (rs_su pz (24 * ax + 4 * (k - 1)) d (4 - d) = pz (24 * ax + 4 * (k - 1) + 4 + d)) := by rw [show w = 4 - d by omega] at h_91; exact h_91
                        refine lv_iconst hx hb dX4_smooth_94 (v := nI 0) (by decide) ?_
                        exact rs_iret () hx hb hr hlk hQ hK hP hD hS (by decide) (rs_bF (fun z9 => h9 (z9 ax (by omega) d (by omega) (by omega)))) rfl dX4_smooth_95
                    · have h_44 : (d + w) < 4 := Nat.lt_of_not_le (fun z => h_44 ((nI_leI (by omega) (by omega)).2 z))
                      refine lv_lload hx hb dX4_smooth_47 (lv_at hl 6 rfl) ?_
                      refine lv_iload hx hb dX4_smooth_49 (lv_at hl 7 rfl) ?_
                      refine lv_iload hx hb dX4_smooth_51 (lv_at hl 5 rfl) ?_
                      refine rs_cSL (rest := [.long (rs_su pz (24 * ax + 4 * (k - 1)) d w)]) (wr := (wM aI aJ aL q dd dp dk dx dy dw dn g tm pz tk nn vn vt po vl ea la)) (ws' := fun u_53 => wM aI aJ aL q dd dp dk dx dy dw dn g tm pz tk nn vn vt po vl ea la) ⟨hx, hb, hml, hown, hts⟩ (c_X4_choose l D aI aJ aL _ (d + w) d (by omega) (by omega)) (cwS 2 hts (rs_gS rw_496 rw_497 rw_5 rw_498) rfl rfl rfl (by decide +kernel) ⟨Nat.le_of_ble_eq_true rfl, Nat.le_of_ble_eq_true rfl⟩) hK hN hP hD hS hA [] [0, 1, 2, 3, 4, 5, 6, 7, 8, 9, 10, 11, 12] [0, 1, 2, 3, 4, 5, 6, 7, 8, 9, 10, 11, 12] (by decide) rfl rfl (fun _ => rfl) hl.1 rfl rfl (Nat.le_of_ble_eq_true rfl) dX4_smooth_53 ⟨Nat.le_refl _, Nat.le_refl _⟩ (fun u_53 H locs hP hD hS => ?_)
                      have hP : va_P D vwCl (wM aI aJ aL q dd dp dk dx dy dw dn g tm pz tk nn vn vt po vl ea la) H := hP
                      have hD : va_D A (wM aI aJ aL q dd dp dk dx dy dw dn g tm pz tk nn vn vt po vl ea la) := hD
                      refine lv_aload_n hx hb dX4_smooth_56 rfl (lv_at hl 0 rfl) ?_
                      refine va_get hx hb hts inX4 hown hK hP 0 (ci := 4) (C := RX4) (T := TX4) (N := 18) rfl rfl 9 (by decide) (hts _ rw_400) (fun _ h => h) (v := .ref (q 6)) rfl dX4_smooth_57 ?_
                      refine lv_iload hx hb dX4_smooth_60 (lv_at hl 4 rfl) ?_
                      refine lv_iload hx hb dX4_smooth_62 (lv_at hl 7 rfl) ?_
                      refine rs_iadd hx hb dX4_smooth_64 (v := nI ((24 * ax + 4 * (k - 1)) + (d + w))) (nI_add _ _) ?_
                      refine rs_lald hx hb hK hP 6 1 rfl rfl (i := ((24 * ax + 4 * (k - 1)) + (d + w))) (by omega) (by decide) (v := pz ((24 * ax + 4 * (k - 1)) + (d + w))) rfl dX4_smooth_65 ?_
                      refine lv_lmul hx hb dX4_smooth_66 ?_
                      refine lv_ladd hx hb dX4_smooth_67 ?_
                      refine lv_lstore hx hb dX4_smooth_68 hl (lv' := [(6, .long ((rs_su pz (24 * ax + 4 * (k - 1)) d w) + ((rs_ch (d + w) d) * (pz ((24 * ax + 4 * (k - 1)) + (d + w)))))), (0, .ref (q 0)), (1, .int (nI k)), (2, .int (nI z)), (3, .int (nI ax)), (4, .int (nI (24 * ax + 4 * (k - 1)))), (5, .int (nI d)), (8, .int (nI (d + w)))]) (by decide) rfl (fun ls hl => ?_)
                      refine lv_iinc hx hb dX4_smooth_70 hl (k := 7) rfl (v := nI ((d + w) + 1)) (rs_inc _ _) (by decide) (lv' := [(8, .int (nI ((d + w) + 1))), (6, .long ((rs_su pz (24 * ax + 4 * (k - 1)) d w) + ((rs_ch (d + w) d) * (pz ((24 * ax + 4 * (k - 1)) + (d + w)))))), (0, .ref (q 0)), (1, .int (nI k)), (2, .int (nI z)), (3, .int (nI ax)), (4, .int (nI (24 * ax + 4 * (k - 1)))), (5, .int (nI d))]) rfl (fun ls hl => ?_)
                      refine lv_goto hx hb dX4_smooth_73 (tgt := 41) rfl ?_
                      exact ih_41 (w + 1) _ _ _ (by omega) (by omega) (lv_sub hl [2, 3, 4, 5, 6, 7, 1, 0] rfl) hP hD hS
                exact L_41 ((4 - d - 0) + 1) 0 _ _ _ (Nat.lt_succ_self _) (by omega) (lv_sub hl [2, 3, 4, 5, 6, 7, 1, 0] rfl) hP hD hS
        exact L_22 ((4 - 0) + 1) 0 _ _ _ (Nat.lt_succ_self _) (Nat.zero_le _) lt_0 (lv_sub hl [2, 3, 4, 5, 1, 0] rfl) hP hD hS
  exact L_2 ((3 - 0) + 1) 0 _ _ _ (Nat.lt_succ_self _) (Nat.zero_le _) lt_0 (lv_sub hl [1, 2, 3, 0] rfl) hP hD hS

def rm_X4_weighty : Room := { frames := 2, cells := 0, slots := 0, locals := 166 }
set_option maxHeartbeats 4000000 in
set_option maxRecDepth 100000 in
theorem c_X4_weighty (l : Launch) (D : va_G) (aI aJ aL : ClassId) (sz : Nat) (q : Nat → Nat) (dd : Nat) (dp : Nat) (dk : Nat) (dx : Nat → Int32) (dy : Nat → Int32) (dw : Nat → Int32) (dn : Nat → Nat) (g : Nat) (tm : Nat → Nat) (pz : Nat → Int64) (tk : Nat → Nat) (nn : Nat) (vn : Nat) (vt : Nat → Nat) (po : Nat → Int64) (vl : Nat → Int64) (ea : Nat → Nat) (la : Nat → Nat) (hg1 : 1 ≤ g) (hg : g ≤ 3) (hnn : nn ≤ 19) (ht5 : ∀ i, i < nn → tk i ≤ 5) : rs_MI (S := Unit) l yX4_weighty (Cond.code yX4_weighty prog_6_method_14_code 2 (some .boolean) :: rsW) rm_X4_weighty D vwCl (rs_tys aI aJ aL) rs_nw [.ref (q 0)] (wM aI aJ aL q dd dp dk dx dy dw dn g tm pz tk nn vn vt po vl ea la) sz (rs_b (decide (∀ i, i < nn → 0 < rs_co pz tk g i 2))) (fun uu => wM aI aJ aL q dd dp dk dx dy dw dn g tm pz tk nn vn vt po vl ea la) := by
  refine rs_ent (cc := cX4_weighty) (maxL := 2) (ret := some .boolean) (Qc := rs_QI D vwCl _ _ _) (by decide) rfl (Nat.le_of_ble_eq_true rfl) ?_
  intro p e s m args below meth c ls A Q hx hb hr hml hlk hts hown hin hK hN hP hD hS hA hQ hl
  have hl : lv_has ls 2 [(0, .ref (q 0))] := hl
  refine lv_iconst hx hb dX4_weighty_0 (v := nI 0) (by decide) ?_
  refine lv_istore_n hx hb dX4_weighty_1 rfl hl (lv' := [(1, .int (nI 0)), (0, .ref (q 0))]) (by decide) rfl (fun ls hl => ?_)
  have L_2 : ∀ (k_2 : Nat) (i : Nat) (H : Heap) (locs : List Loc) (ls : Array Slot), nn - i < k_2 → (i ≤ nn) → (∀ j, j < i → 0 < rs_co pz tk g j 2) → lv_has ls 2 [(0, .ref (q 0)), (1, .int (nI i))] → va_P D vwCl (wM aI aJ aL q dd dp dk dx dy dw dn g tm pz tk nn vn vt po vl ea la) H → va_D A (wM aI aJ aL q dd dp dk dx dy dw dn g tm pz tk nn vn vt po vl ea la) → va_S A s.heap H locs → W p l e rm_X4_weighty s m args below meth c H locs 0 0 Q (F0 m 2 ls []) := by
    intro k_2
    induction k_2 with
    | zero => intro i H locs ls hk_2; exact absurd hk_2 (Nat.not_lt_zero _)
    | succ k_2 ih_2 =>
      intro i H locs ls hk_2 hi hall hl hP hD hS
      refine lv_iload_n hx hb dX4_weighty_2 rfl (lv_at hl 1 rfl) ?_
      refine lv_aload_n hx hb dX4_weighty_3 rfl (lv_at hl 0 rfl) ?_
      refine va_get hx hb hts inX4 hown hK hP 0 (ci := 4) (C := RX4) (T := TX4) (N := 18) rfl rfl 11 (by decide) (hts _ rw_402) (fun _ h => h) (v := .int (nI nn)) rfl dX4_weighty_4 ?_
      refine lv_icmp_ge hx hb dX4_weighty_7 (tgt := 29) rfl (fun h_7 => ?_) (fun h_7 => ?_)
      · have h_7 : nn ≤ i := (nI_leI (by omega) (by omega)).1 h_7
        refine lv_iconst hx hb dX4_weighty_29 (v := nI 1) (by decide) ?_
        exact rs_iret () hx hb hr hlk hQ hK hP hD hS (by decide) (rs_bT (fun j hj => hall j (by omega))) rfl dX4_weighty_30
      · have h_7 : i < nn := Nat.lt_of_not_le (fun z => h_7 ((nI_leI (by omega) (by omega)).2 z))
        refine lv_aload_n hx hb dX4_weighty_10 rfl (lv_at hl 0 rfl) ?_
        refine lv_iload_n hx hb dX4_weighty_11 rfl (lv_at hl 1 rfl) ?_
        refine lv_iconst hx hb dX4_weighty_12 (v := nI 2) (by decide) ?_
        refine rs_cVL (rest := []) (wr := []) (ws' := fun u_13 => wM aI aJ aL q dd dp dk dx dy dw dn g tm pz tk nn vn vt po vl ea la) ⟨hx, hb, hml, hown, hts⟩ (c_X4_controlOf l D aI aJ aL _ q dd dp dk dx dy dw dn g tm pz tk nn vn vt po vl ea la i 2 hg1 hg (by omega) (ht5 i (by omega)) (by decide)) (cwV 2 hts (rs_gV rw_503 rw_505 rv_20 rw_5 rw_506) rfl rfl rfl (by decide +kernel) ⟨Nat.le_of_ble_eq_true rfl, Nat.le_of_ble_eq_true rfl⟩) hK hN hP hD hS hA [0, 1, 2, 3, 4, 5, 6, 7, 8, 9, 10, 11, 12] [] [0, 1, 2, 3, 4, 5, 6, 7, 8, 9, 10, 11, 12] (by decide) rfl rfl (fun _ => rfl) 0 rfl rfl hl.1 rfl rfl (Nat.le_of_ble_eq_true rfl) dX4_weighty_13 ⟨Nat.le_refl _, Nat.le_refl _⟩ (fun u_13 H locs hP hD hS => ?_)
        have hP : va_P D vwCl (wM aI aJ aL q dd dp dk dx dy dw dn g tm pz tk nn vn vt po vl ea la) H := hP
        have hD : va_D A (wM aI aJ aL q dd dp dk dx dy dw dn g tm pz tk nn vn vt po vl ea la) := hD
        refine lv_lconst hx hb dX4_weighty_16 (v := 0) (by decide) ?_
        refine W.lcmp hx hb dX4_weighty_17 ?_
        refine lv_if_gt hx hb dX4_weighty_18 (tgt := 23) rfl (fun h_18 => ?_) (fun h_18 => ?_)
        · have h_18 : 0 < (rs_co pz tk g i 2) := (lg_cmp_gt _ _).1 h_18
          refine lv_iinc hx hb dX4_weighty_23 hl (k := 1) rfl (v := nI (i + 1)) (rs_inc _ _) (by decide) (lv' := [(1, .int (nI (i + 1))), (0, .ref (q 0))]) rfl (fun ls hl => ?_)
          refine lv_goto hx hb dX4_weighty_26 (tgt := 2) rfl ?_
          exact ih_2 (i + 1) _ _ _ (by omega) (by omega) (lt_s hall h_18) (lv_sub hl [1, 0] rfl) hP hD hS
        · have h_18 : ¬ (0 < (rs_co pz tk g i 2)) := fun z => h_18 ((lg_cmp_gt _ _).2 z)
          refine lv_iconst hx hb dX4_weighty_21 (v := nI 0) (by decide) ?_
          exact rs_iret () hx hb hr hlk hQ hK hP hD hS (by decide) (rs_bF (fun z => h_18 (z i (by omega)))) rfl dX4_weighty_22
  exact L_2 ((nn - 0) + 1) 0 _ _ _ (Nat.lt_succ_self _) (Nat.zero_le _) lt_0 (lv_sub hl [1, 0] rfl) hP hD hS

def rm_X4_degree : Room := { frames := 1, cells := 0, slots := 0, locals := 64 }
set_option maxHeartbeats 4000000 in
set_option maxRecDepth 100000 in
theorem c_X4_degree (l : Launch) (D : va_G) (aI aJ aL : ClassId) (sz : Nat) (q : Nat → Nat) (dd : Nat) (dp : Nat) (dk : Nat) (dx : Nat → Int32) (dy : Nat → Int32) (dw : Nat → Int32) (dn : Nat → Nat) (g : Nat) (tm : Nat → Nat) (pz : Nat → Int64) (tk : Nat → Nat) (nn : Nat) (vn : Nat) (vt : Nat → Nat) (po : Nat → Int64) (vl : Nat → Int64) (ea : Nat → Nat) (la : Nat → Nat)  : rs_MI (S := Unit) l yX4_degree (Cond.code yX4_degree prog_6_method_21_code 1 (some .int) :: rsW) rm_X4_degree D vwCl (rs_tys aI aJ aL) rs_nw [.ref (q 0)] (wM aI aJ aL q dd dp dk dx dy dw dn g tm pz tk nn vn vt po vl ea la) sz (nI g) (fun uu => wM aI aJ aL q dd dp dk dx dy dw dn g tm pz tk nn vn vt po vl ea la) := by
  refine rs_ent (cc := cX4_degree) (maxL := 1) (ret := some .int) (Qc := rs_QI D vwCl _ _ _) (by decide) rfl (Nat.le_of_ble_eq_true rfl) ?_
  intro p e s m args below meth c ls A Q hx hb hr hml hlk hts hown hin hK hN hP hD hS hA hQ hl
  have hl : lv_has ls 1 [(0, .ref (q 0))] := hl
  refine lv_aload_n hx hb dX4_degree_0 rfl (lv_at hl 0 rfl) ?_
  refine va_get hx hb hts inX4 hown hK hP 0 (ci := 4) (C := RX4) (T := TX4) (N := 18) rfl rfl 7 (by decide) (hts _ rw_398) (fun _ h => h) (v := .int (nI g)) rfl dX4_degree_1 ?_
  exact rs_iret () hx hb hr hlk hQ hK hP hD hS rfl rfl rfl dX4_degree_4
