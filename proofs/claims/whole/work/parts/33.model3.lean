def rm_X4_at : Room := { frames := 1, cells := 0, slots := 0, locals := 64 }
set_option maxHeartbeats 4000000 in
set_option maxRecDepth 100000 in
theorem c_X4_at (l : Launch) (D : va_G) (aI aJ aL : ClassId) (sz : Nat) (q : Nat → Nat) (dd : Nat) (dp : Nat) (dk : Nat) (dx : Nat → Int32) (dy : Nat → Int32) (dw : Nat → Int32) (dn : Nat → Nat) (g : Nat) (tm : Nat → Nat) (pz : Nat → Int64) (tk : Nat → Nat) (nn : Nat) (vn : Nat) (vt : Nat → Nat) (po : Nat → Int64) (vl : Nat → Int64) (ea : Nat → Nat) (la : Nat → Nat) (ax : Nat) (j : Nat) (w : Nat) (hax : ax < 3) (hj : j ≤ 5) (hw : w ≤ 60) : rs_ML (S := Unit) l yX4_at (Cond.code yX4_at prog_6_method_27_code 7 (some .long) :: rsW) rm_X4_at D vwCl (rs_tys aI aJ aL) rs_nw [.ref (q 0), .int (nI ax), .int (nI j), .int (nI w)] (wM aI aJ aL q dd dp dk dx dy dw dn g tm pz tk nn vn vt po vl ea la) sz (rs_pa pz ax j (lN w)) (fun uu => wM aI aJ aL q dd dp dk dx dy dw dn g tm pz tk nn vn vt po vl ea la) := by
  refine rs_ent (cc := cX4_at) (maxL := 7) (ret := some .long) (Qc := rs_QL D vwCl _ _ _) (by decide) rfl (Nat.le_of_ble_eq_true rfl) ?_
  intro p e s m args below meth c ls A Q hx hb hr hml hlk hts hown hin hK hN hP hD hS hA hQ hl
  have hl : lv_has ls 7 [(0, .ref (q 0)), (1, .int (nI ax)), (2, .int (nI j)), (3, .int (nI w))] := hl
  refine lv_bipush hx hb dX4_at_0 (v := nI 24) (by decide) ?_
  refine lv_iload_n hx hb dX4_at_2 rfl (lv_at hl 1 rfl) ?_
  refine rs_imul hx hb dX4_at_3 (v := nI (24 * ax)) (pk_mul _ _) ?_
  refine lv_iconst hx hb dX4_at_4 (v := nI 4) (by decide) ?_
  refine lv_iload_n hx hb dX4_at_5 rfl (lv_at hl 2 rfl) ?_
  refine rs_imul hx hb dX4_at_6 (v := nI (4 * j)) (pk_mul _ _) ?_
  refine rs_iadd hx hb dX4_at_7 (v := nI ((24 * ax) + (4 * j))) (nI_add _ _) ?_
  refine lv_istore hx hb dX4_at_8 hl (lv' := [(4, .int (nI ((24 * ax) + (4 * j)))), (0, .ref (q 0)), (1, .int (nI ax)), (2, .int (nI j)), (3, .int (nI w))]) (by decide) rfl (fun ls hl => ?_)
  refine lv_aload_n hx hb dX4_at_10 rfl (lv_at hl 1 rfl) ?_
  refine va_get hx hb hts inX4 hown hK hP 0 (ci := 4) (C := RX4) (T := TX4) (N := 18) rfl rfl 9 (by decide) (hts _ rw_400) (fun _ h => h) (v := .ref (q 6)) rfl dX4_at_11 ?_
  refine lv_iload hx hb dX4_at_14 (lv_at hl 0 rfl) ?_
  refine lv_iconst hx hb dX4_at_16 (v := nI 3) (by decide) ?_
  refine rs_iadd hx hb dX4_at_17 (v := nI (((24 * ax) + (4 * j)) + 3)) (nI_add _ _) ?_
  refine rs_lald hx hb hK hP 6 1 rfl rfl (i := (((24 * ax) + (4 * j)) + 3)) (by omega) (by decide) (v := pz (((24 * ax) + (4 * j)) + 3)) rfl dX4_at_18 ?_
  refine lv_iload_n hx hb dX4_at_19 rfl (lv_at hl 4 rfl) ?_
  refine lv_i2l hx hb dX4_at_20 (v := (lN w)) (nI_l (by omega)) ?_
  refine lv_lmul hx hb dX4_at_21 ?_
  refine lv_ldc2 hx hb hown (hts _ rw_479) dX4_at_22 ?_
  refine lv_aload_n hx hb dX4_at_25 rfl (lv_at hl 1 rfl) ?_
  refine va_get hx hb hts inX4 hown hK hP 0 (ci := 4) (C := RX4) (T := TX4) (N := 18) rfl rfl 9 (by decide) (hts _ rw_400) (fun _ h => h) (v := .ref (q 6)) rfl dX4_at_26 ?_
  refine lv_iload hx hb dX4_at_29 (lv_at hl 0 rfl) ?_
  refine lv_iconst hx hb dX4_at_31 (v := nI 2) (by decide) ?_
  refine rs_iadd hx hb dX4_at_32 (v := nI (((24 * ax) + (4 * j)) + 2)) (nI_add _ _) ?_
  refine rs_lald hx hb hK hP 6 1 rfl rfl (i := (((24 * ax) + (4 * j)) + 2)) (by omega) (by decide) (v := pz (((24 * ax) + (4 * j)) + 2)) rfl dX4_at_33 ?_
  refine lv_lmul hx hb dX4_at_34 ?_
  refine lv_ladd hx hb dX4_at_35 ?_
  refine lv_lstore hx hb dX4_at_36 hl (lv' := [(5, .long (((pz (((24 * ax) + (4 * j)) + 3)) * (lN w)) + (60 * (pz (((24 * ax) + (4 * j)) + 2))))), (4, .int (nI ((24 * ax) + (4 * j)))), (0, .ref (q 0)), (1, .int (nI ax)), (2, .int (nI j)), (3, .int (nI w))]) (by decide) rfl (fun ls hl => ?_)
  refine lv_lload hx hb dX4_at_38 (lv_at hl 0 rfl) ?_
  refine lv_iload_n hx hb dX4_at_40 rfl (lv_at hl 5 rfl) ?_
  refine lv_i2l hx hb dX4_at_41 (v := (lN w)) (nI_l (by omega)) ?_
  refine lv_lmul hx hb dX4_at_42 ?_
  refine lv_ldc2 hx hb hown (hts _ rw_478) dX4_at_43 ?_
  refine lv_aload_n hx hb dX4_at_46 rfl (lv_at hl 2 rfl) ?_
  refine va_get hx hb hts inX4 hown hK hP 0 (ci := 4) (C := RX4) (T := TX4) (N := 18) rfl rfl 9 (by decide) (hts _ rw_400) (fun _ h => h) (v := .ref (q 6)) rfl dX4_at_47 ?_
  refine lv_iload hx hb dX4_at_50 (lv_at hl 1 rfl) ?_
  refine lv_iconst hx hb dX4_at_52 (v := nI 1) (by decide) ?_
  refine rs_iadd hx hb dX4_at_53 (v := nI (((24 * ax) + (4 * j)) + 1)) (nI_add _ _) ?_
  refine rs_lald hx hb hK hP 6 1 rfl rfl (i := (((24 * ax) + (4 * j)) + 1)) (by omega) (by decide) (v := pz (((24 * ax) + (4 * j)) + 1)) rfl dX4_at_54 ?_
  refine lv_lmul hx hb dX4_at_55 ?_
  refine lv_ladd hx hb dX4_at_56 ?_
  refine lv_lstore hx hb dX4_at_57 hl (lv' := [(5, .long (((((pz (((24 * ax) + (4 * j)) + 3)) * (lN w)) + (60 * (pz (((24 * ax) + (4 * j)) + 2)))) * (lN w)) + (3600 * (pz (((24 * ax) + (4 * j)) + 1))))), (4, .int (nI ((24 * ax) + (4 * j)))), (0, .ref (q 0)), (1, .int (nI ax)), (2, .int (nI j)), (3, .int (nI w))]) (by decide) rfl (fun ls hl => ?_)
  refine lv_lload hx hb dX4_at_59 (lv_at hl 0 rfl) ?_
  refine lv_iload_n hx hb dX4_at_61 rfl (lv_at hl 5 rfl) ?_
  refine lv_i2l hx hb dX4_at_62 (v := (lN w)) (nI_l (by omega)) ?_
  refine lv_lmul hx hb dX4_at_63 ?_
  refine lv_ldc2 hx hb hown (hts _ rw_561) dX4_at_64 ?_
  refine lv_aload_n hx hb dX4_at_67 rfl (lv_at hl 2 rfl) ?_
  refine va_get hx hb hts inX4 hown hK hP 0 (ci := 4) (C := RX4) (T := TX4) (N := 18) rfl rfl 9 (by decide) (hts _ rw_400) (fun _ h => h) (v := .ref (q 6)) rfl dX4_at_68 ?_
  refine lv_iload hx hb dX4_at_71 (lv_at hl 1 rfl) ?_
  refine rs_lald hx hb hK hP 6 1 rfl rfl (i := ((24 * ax) + (4 * j))) (by omega) (by decide) (v := pz ((24 * ax) + (4 * j))) rfl dX4_at_73 ?_
  refine lv_lmul hx hb dX4_at_74 ?_
  refine lv_ladd hx hb dX4_at_75 ?_
  exact rs_lret () hx hb hr hlk hQ hK hP hD hS rfl rfl dX4_at_76

def rm_X4_locate : Room := { frames := 2, cells := 0, slots := 0, locals := 154 }
set_option maxHeartbeats 4000000 in
set_option maxRecDepth 100000 in
theorem c_X4_locate (l : Launch) (D : va_G) (aI aJ aL : ClassId) (sz : Nat) (q : Nat → Nat) (dd : Nat) (dp : Nat) (dk : Nat) (dx : Nat → Int32) (dy : Nat → Int32) (dw : Nat → Int32) (dn : Nat → Nat) (g : Nat) (tm : Nat → Nat) (pz : Nat → Int64) (tk : Nat → Nat) (nn : Nat) (vn : Nat) (vt : Nat → Nat) (po : Nat → Int64) (vl : Nat → Int64) (ea : Nat → Nat) (la : Nat → Nat) (u : Nat) (ax : Nat) (hg1 : 1 ≤ g) (hg : g ≤ 3) (hu : u ≤ 360) (hax : ax ≤ 1) (hne : ¬ rs_pa pz 2 (rs_lj u) (lN (u - 60 * rs_lj u)) = 0) : rs_MI (S := Unit) l yX4_locate (Cond.code yX4_locate prog_6_method_28_code 10 (some .int) :: rsW) rm_X4_locate D vwCl (rs_tys aI aJ aL) rs_nw [.ref (q 0), .int (nI u), .int (nI ax)] (wM aI aJ aL q dd dp dk dx dy dw dn g tm pz tk nn vn vt po vl ea la) sz (rs_loc pz ax u) (fun uu => wM aI aJ aL q dd dp dk dx dy dw dn g tm pz tk nn vn vt po vl ea la) := by
  refine rs_ent (cc := cX4_locate) (maxL := 10) (ret := some .int) (Qc := rs_QI D vwCl _ _ _) (by decide) rfl (Nat.le_of_ble_eq_true rfl) ?_
  intro p e s m args below meth c ls A Q hx hb hr hml hlk hts hown hin hK hN hP hD hS hA hQ hl
  have hl : lv_has ls 10 [(0, .ref (q 0)), (1, .int (nI u)), (2, .int (nI ax))] := hl
  refine lv_aload_n hx hb dX4_locate_0 rfl (lv_at hl 0 rfl) ?_
  refine va_get hx hb hts inX4 hown hK hP 0 (ci := 4) (C := RX4) (T := TX4) (N := 18) rfl rfl 7 (by decide) (hts _ rw_398) (fun _ h => h) (v := .int (nI g)) rfl dX4_locate_1 ?_
  refine lv_if_eq hx hb dX4_locate_4 (tgt := 27) rfl (fun h_4 => ?_) (fun h_4 => ?_)
  · have h_4 : g = 0 := rs_z1 (by omega) h_4
    omega
  · have h_4 : 0 < g := rs_z2 (by omega) h_4
    refine lv_iload_n hx hb dX4_locate_7 rfl (lv_at hl 1 rfl) ?_
    refine lv_if_lt hx hb dX4_locate_8 (tgt := 27) rfl (fun h_8 => absurd h_8 (nI_pos (by omega))) (fun _ => ?_)
    refine lv_iload_n hx hb dX4_locate_11 rfl (lv_at hl 1 rfl) ?_
    refine lv_sipush hx hb dX4_locate_12 (v := nI 360) (by decide) ?_
    refine lv_icmp_gt hx hb dX4_locate_15 (tgt := 27) rfl (fun h_15 => ?_) (fun h_15 => ?_)
    · have h_15 : 360 < u := (nI_ltI (by omega) (by omega)).1 h_15
      omega
    · have h_15 : u ≤ 360 := Nat.le_of_not_lt (fun z => h_15 ((nI_ltI (by omega) (by omega)).2 z))
      refine lv_iload_n hx hb dX4_locate_18 rfl (lv_at hl 2 rfl) ?_
      refine lv_if_lt hx hb dX4_locate_19 (tgt := 27) rfl (fun h_19 => absurd h_19 (nI_pos (by omega))) (fun _ => ?_)
      refine lv_iload_n hx hb dX4_locate_22 rfl (lv_at hl 2 rfl) ?_
      refine lv_iconst hx hb dX4_locate_23 (v := nI 1) (by decide) ?_
      refine lv_icmp_le hx hb dX4_locate_24 (tgt := 30) rfl (fun h_24 => ?_) (fun h_24 => ?_)
      · have h_24 : ax ≤ 1 := (nI_leI (by omega) (by omega)).1 h_24
        refine lv_iload_n hx hb dX4_locate_30 rfl (lv_at hl 1 rfl) ?_
        refine lv_sipush hx hb dX4_locate_31 (v := nI 360) (by decide) ?_
        have L_45 : ∀ (j : Nat) (H : Heap) (locs : List Loc) (ls : Array Slot), (j = rs_lj u) → lv_has ls 10 [(0, .ref (q 0)), (1, .int (nI u)), (2, .int (nI ax))] → va_P D vwCl (wM aI aJ aL q dd dp dk dx dy dw dn g tm pz tk nn vn vt po vl ea la) H → va_D A (wM aI aJ aL q dd dp dk dx dy dw dn g tm pz tk nn vn vt po vl ea la) → va_S A s.heap H locs → W p l e rm_X4_locate s m args below meth c H locs 0 0 Q (F0 m 45 ls [.int (nI j)]) := by
          intro j H locs ls hj hl hP hD hS
          have hj5 := rs_lj_le hu
          rw [← hj] at hj5 hne
          refine lv_istore_n hx hb dX4_locate_45 rfl hl (lv' := [(3, .int (nI j)), (0, .ref (q 0)), (1, .int (nI u)), (2, .int (nI ax))]) (by decide) rfl (fun ls hl => ?_)
          refine lv_ldc2 hx hb hown (hts _ rw_556) dX4_locate_46 ?_
          refine lv_aload_n hx hb dX4_locate_49 rfl (lv_at hl 1 rfl) ?_
          refine lv_iload_n hx hb dX4_locate_50 rfl (lv_at hl 3 rfl) ?_
          refine lv_iload_n hx hb dX4_locate_51 rfl (lv_at hl 0 rfl) ?_
          refine lv_iload_n hx hb dX4_locate_52 rfl (lv_at hl 2 rfl) ?_
          refine lv_bipush hx hb dX4_locate_53 (v := nI 60) (by decide) ?_
          refine lv_iload_n hx hb dX4_locate_55 rfl (lv_at hl 0 rfl) ?_
          refine rs_imul hx hb dX4_locate_56 (v := nI (60 * j)) (pk_mul _ _) ?_
          refine rs_isub hx hb dX4_locate_57 (v := nI (u - (60 * j))) (pk_sub (by omega)) ?_
          refine rs_cVL (rest := [.long 1000]) (wr := []) (ws' := fun u_58 => wM aI aJ aL q dd dp dk dx dy dw dn g tm pz tk nn vn vt po vl ea la) ⟨hx, hb, hml, hown, hts⟩ (c_X4_at l D aI aJ aL _ q dd dp dk dx dy dw dn g tm pz tk nn vn vt po vl ea la ax j (u - (60 * j)) (by omega) (by omega) (by omega)) (cwV 3 hts (rs_gV rw_557 rw_559 rv_21 rw_5 rw_560) rfl rfl rfl (by decide +kernel) ⟨Nat.le_of_ble_eq_true rfl, Nat.le_of_ble_eq_true rfl⟩) hK hN hP hD hS hA [0, 1, 2, 3, 4, 5, 6, 7, 8, 9, 10, 11, 12] [] [0, 1, 2, 3, 4, 5, 6, 7, 8, 9, 10, 11, 12] (by decide) rfl rfl (fun _ => rfl) 0 rfl rfl hl.1 rfl rfl (Nat.le_of_ble_eq_true rfl) dX4_locate_58 ⟨Nat.le_refl _, Nat.le_refl _⟩ (fun u_58 H locs hP hD hS => ?_)
          have hP : va_P D vwCl (wM aI aJ aL q dd dp dk dx dy dw dn g tm pz tk nn vn vt po vl ea la) H := hP
          have hD : va_D A (wM aI aJ aL q dd dp dk dx dy dw dn g tm pz tk nn vn vt po vl ea la) := hD
          refine lv_lmul hx hb dX4_locate_61 ?_
          refine lv_lstore hx hb dX4_locate_62 hl (lv' := [(4, .long (1000 * (rs_pa pz ax j (lN (u - (60 * j)))))), (3, .int (nI j)), (0, .ref (q 0)), (1, .int (nI u)), (2, .int (nI ax))]) (by decide) rfl (fun ls hl => ?_)
          refine lv_aload_n hx hb dX4_locate_64 rfl (lv_at hl 2 rfl) ?_
          refine lv_iconst hx hb dX4_locate_65 (v := nI 2) (by decide) ?_
          refine lv_iload_n hx hb dX4_locate_66 rfl (lv_at hl 1 rfl) ?_
          refine lv_iload_n hx hb dX4_locate_67 rfl (lv_at hl 3 rfl) ?_
          refine lv_bipush hx hb dX4_locate_68 (v := nI 60) (by decide) ?_
          refine lv_iload_n hx hb dX4_locate_70 rfl (lv_at hl 1 rfl) ?_
          refine rs_imul hx hb dX4_locate_71 (v := nI (60 * j)) (pk_mul _ _) ?_
          refine rs_isub hx hb dX4_locate_72 (v := nI (u - (60 * j))) (pk_sub (by omega)) ?_
          refine rs_cVL (rest := []) (wr := []) (ws' := fun u_73 => wM aI aJ aL q dd dp dk dx dy dw dn g tm pz tk nn vn vt po vl ea la) ⟨hx, hb, hml, hown, hts⟩ (c_X4_at l D aI aJ aL _ q dd dp dk dx dy dw dn g tm pz tk nn vn vt po vl ea la 2 j (u - (60 * j)) (by decide) (by omega) (by omega)) (cwV 3 hts (rs_gV rw_557 rw_559 rv_21 rw_5 rw_560) rfl rfl rfl (by decide +kernel) ⟨Nat.le_of_ble_eq_true rfl, Nat.le_of_ble_eq_true rfl⟩) hK hN hP hD hS hA [0, 1, 2, 3, 4, 5, 6, 7, 8, 9, 10, 11, 12] [] [0, 1, 2, 3, 4, 5, 6, 7, 8, 9, 10, 11, 12] (by decide) rfl rfl (fun _ => rfl) 0 rfl rfl hl.1 rfl rfl (Nat.le_of_ble_eq_true rfl) dX4_locate_73 ⟨Nat.le_refl _, Nat.le_refl _⟩ (fun u_73 H locs hP hD hS => ?_)
          have hP : va_P D vwCl (wM aI aJ aL q dd dp dk dx dy dw dn g tm pz tk nn vn vt po vl ea la) H := hP
          have hD : va_D A (wM aI aJ aL q dd dp dk dx dy dw dn g tm pz tk nn vn vt po vl ea la) := hD
          refine lv_lstore hx hb dX4_locate_76 hl (lv' := [(6, .long (rs_pa pz 2 j (lN (u - (60 * j))))), (4, .long (1000 * (rs_pa pz ax j (lN (u - (60 * j)))))), (3, .int (nI j)), (0, .ref (q 0)), (1, .int (nI u)), (2, .int (nI ax))]) (by decide) rfl (fun ls hl => ?_)
          refine lv_lload hx hb dX4_locate_78 (lv_at hl 1 rfl) ?_
          refine lv_lload hx hb dX4_locate_80 (lv_at hl 0 rfl) ?_
          refine lv_ldiv hx hb dX4_locate_82 hne ?_
          refine lv_lstore hx hb dX4_locate_83 hl (lv' := [(8, .long ((1000 * (rs_pa pz ax j (lN (u - (60 * j))))) / (rs_pa pz 2 j (lN (u - (60 * j)))))), (6, .long (rs_pa pz 2 j (lN (u - (60 * j))))), (4, .long (1000 * (rs_pa pz ax j (lN (u - (60 * j)))))), (3, .int (nI j)), (0, .ref (q 0)), (1, .int (nI u)), (2, .int (nI ax))]) (by decide) rfl (fun ls hl => ?_)
          refine lv_lload hx hb dX4_locate_85 (lv_at hl 0 rfl) ?_
          refine lv_lload hx hb dX4_locate_87 (lv_at hl 1 rfl) ?_
          refine lv_lmul hx hb dX4_locate_89 ?_
          refine lv_lload hx hb dX4_locate_90 (lv_at hl 2 rfl) ?_
          refine W.lcmp hx hb dX4_locate_92 ?_
          refine lv_if_le hx hb dX4_locate_93 (tgt := 103) rfl (fun h_93 => ?_) (fun h_93 => ?_)
          · have h_93 : (((1000 * (rs_pa pz ax j (lN (u - (60 * j))))) / (rs_pa pz 2 j (lN (u - (60 * j))))) * (rs_pa pz 2 j (lN (u - (60 * j))))) ≤ (1000 * (rs_pa pz ax j (lN (u - (60 * j))))) := (lg_cmp_le _ _).1 h_93
            refine lv_lload hx hb dX4_locate_103 (lv_at hl 0 rfl) ?_
            refine lv_l2i hx hb dX4_locate_105 (v := (((1000 * (rs_pa pz ax j (lN (u - (60 * j))))) / (rs_pa pz 2 j (lN (u - (60 * j)))))).toInt32) rfl ?_
            exact rs_iret () hx hb hr hlk hQ hK hP hD hS rfl (by subst hj; first | exact (if_pos h_93).symm | exact (if_neg h_93).symm) rfl dX4_locate_106
          · have h_93 : ¬ ((((1000 * (rs_pa pz ax j (lN (u - (60 * j))))) / (rs_pa pz 2 j (lN (u - (60 * j))))) * (rs_pa pz 2 j (lN (u - (60 * j))))) ≤ (1000 * (rs_pa pz ax j (lN (u - (60 * j)))))) := fun z => h_93 ((lg_cmp_le _ _).2 z)
            refine lv_lload hx hb dX4_locate_96 (lv_at hl 0 rfl) ?_
            refine lv_lconst hx hb dX4_locate_98 (v := 1) (by decide) ?_
            refine lv_lsub hx hb dX4_locate_99 ?_
            refine lv_goto hx hb dX4_locate_100 (tgt := 105) rfl ?_
            refine lv_l2i hx hb dX4_locate_105 (v := ((((1000 * (rs_pa pz ax j (lN (u - (60 * j))))) / (rs_pa pz 2 j (lN (u - (60 * j))))) - 1)).toInt32) rfl ?_
            exact rs_iret () hx hb hr hlk hQ hK hP hD hS rfl (by subst hj; first | exact (if_pos h_93).symm | exact (if_neg h_93).symm) rfl dX4_locate_106
        refine lv_icmp_ne hx hb dX4_locate_34 (tgt := 41) rfl (fun h_34 => ?_) (fun h_34 => ?_)
        · have h_34 : ¬ u = 360 := fun z => h_34 ((nI_eq (by omega) (by omega)).2 z)
          refine lv_iload_n hx hb dX4_locate_41 rfl (lv_at hl 1 rfl) ?_
          refine lv_bipush hx hb dX4_locate_42 (v := nI 60) (by decide) ?_
          refine rs_idiv hx hb dX4_locate_44 (nI_ne0 (by omega) (by omega)) (v := nI (u / 60)) (pk_div (by omega) (by omega) (by omega)) ?_
          exact L_45 _ _ _ _ (by first | exact (if_pos h_34).symm | exact (if_neg h_34).symm) (lv_sub hl [0, 1, 2] rfl) hP hD hS
        · have h_34 : u = 360 := (nI_eq (by omega) (by omega)).1 h_34
          refine lv_iconst hx hb dX4_locate_37 (v := nI 5) (by decide) ?_
          refine lv_goto hx hb dX4_locate_38 (tgt := 45) rfl ?_
          exact L_45 _ _ _ _ (by first | exact (if_pos h_34).symm | exact (if_neg h_34).symm) (lv_sub hl [0, 1, 2] rfl) hP hD hS
      · have h_24 : 1 < ax := Nat.lt_of_not_le (fun z => h_24 ((nI_leI (by omega) (by omega)).2 z))
        omega

def rm_X4_locateF : Room := { frames := 2, cells := 0, slots := 0, locals := 154 }
set_option maxHeartbeats 4000000 in
set_option maxRecDepth 100000 in
theorem c_X4_locateF (l : Launch) (D : va_G) (aI aJ aL : ClassId) (sz : Nat) (q : Nat → Nat) (dd : Nat) (dp : Nat) (dk : Nat) (dx : Nat → Int32) (dy : Nat → Int32) (dw : Nat → Int32) (dn : Nat → Nat) (g : Nat) (tm : Nat → Nat) (pz : Nat → Int64) (tk : Nat → Nat) (nn : Nat) (vn : Nat) (vt : Nat → Nat) (po : Nat → Int64) (vl : Nat → Int64) (ea : Nat → Nat) (la : Nat → Nat) (u : Int32) (ax : Int32) (hg : g ≤ 3) (hF : ¬ (0 < g ∧ (¬ u < 0 ∧ ¬ nI 360 < u) ∧ (¬ ax < 0 ∧ ax ≤ nI 1))) : rs_MI (S := Unit) l yX4_locate (Cond.code yX4_locate prog_6_method_28_code 10 (some .int) :: rsW) rm_X4_locateF D vwCl (rs_tys aI aJ aL) rs_nw [.ref (q 0), .int u, .int ax] (wM aI aJ aL q dd dp dk dx dy dw dn g tm pz tk nn vn vt po vl ea la) sz ((-2147483648)) (fun uu => wM aI aJ aL q dd dp dk dx dy dw dn g tm pz tk nn vn vt po vl ea la) := by
  refine rs_ent (cc := cX4_locate) (maxL := 10) (ret := some .int) (Qc := rs_QI D vwCl _ _ _) (by decide) rfl (Nat.le_of_ble_eq_true rfl) ?_
  intro p e s m args below meth c ls A Q hx hb hr hml hlk hts hown hin hK hN hP hD hS hA hQ hl
  have hl : lv_has ls 10 [(0, .ref (q 0)), (1, .int u), (2, .int ax)] := hl
  refine lv_aload_n hx hb dX4_locate_0 rfl (lv_at hl 0 rfl) ?_
  refine va_get hx hb hts inX4 hown hK hP 0 (ci := 4) (C := RX4) (T := TX4) (N := 18) rfl rfl 7 (by decide) (hts _ rw_398) (fun _ h => h) (v := .int (nI g)) rfl dX4_locate_1 ?_
  refine lv_if_eq hx hb dX4_locate_4 (tgt := 27) rfl (fun h_4 => ?_) (fun h_4 => ?_)
  · have h_4 : g = 0 := rs_z1 (by omega) h_4
    refine lv_ldc hx hb hown (hts _ rw_555) dX4_locate_27 ?_
    exact rs_iret () hx hb hr hlk hQ hK hP hD hS rfl rfl rfl dX4_locate_29
  · have h_4 : 0 < g := rs_z2 (by omega) h_4
    refine lv_iload_n hx hb dX4_locate_7 rfl (lv_at hl 1 rfl) ?_
    refine lv_if_lt hx hb dX4_locate_8 (tgt := 27) rfl (fun h_8 => ?_) (fun h_8 => ?_)
    · skip
      refine lv_ldc hx hb hown (hts _ rw_555) dX4_locate_27 ?_
      exact rs_iret () hx hb hr hlk hQ hK hP hD hS rfl rfl rfl dX4_locate_29
    · skip
      refine lv_iload_n hx hb dX4_locate_11 rfl (lv_at hl 1 rfl) ?_
      refine lv_sipush hx hb dX4_locate_12 (v := nI 360) (by decide) ?_
      refine lv_icmp_gt hx hb dX4_locate_15 (tgt := 27) rfl (fun h_15 => ?_) (fun h_15 => ?_)
      · skip
        refine lv_ldc hx hb hown (hts _ rw_555) dX4_locate_27 ?_
        exact rs_iret () hx hb hr hlk hQ hK hP hD hS rfl rfl rfl dX4_locate_29
      · skip
        refine lv_iload_n hx hb dX4_locate_18 rfl (lv_at hl 2 rfl) ?_
        refine lv_if_lt hx hb dX4_locate_19 (tgt := 27) rfl (fun h_19 => ?_) (fun h_19 => ?_)
        · skip
          refine lv_ldc hx hb hown (hts _ rw_555) dX4_locate_27 ?_
          exact rs_iret () hx hb hr hlk hQ hK hP hD hS rfl rfl rfl dX4_locate_29
        · skip
          refine lv_iload_n hx hb dX4_locate_22 rfl (lv_at hl 2 rfl) ?_
          refine lv_iconst hx hb dX4_locate_23 (v := nI 1) (by decide) ?_
          refine lv_icmp_le hx hb dX4_locate_24 (tgt := 30) rfl (fun h_24 => ?_) (fun h_24 => ?_)
          · skip
            exact absurd ⟨by omega, ⟨h_8, h_15⟩, h_19, h_24⟩ hF
          · skip
            refine lv_ldc hx hb hown (hts _ rw_555) dX4_locate_27 ?_
            exact rs_iret () hx hb hr hlk hQ hK hP hD hS rfl rfl rfl dX4_locate_29
