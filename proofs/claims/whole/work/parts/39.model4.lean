def rm_X4_remove : Room := { frames := 3, cells := 0, slots := 0, locals := 251 }
set_option maxHeartbeats 4000000 in
set_option maxRecDepth 100000 in
theorem c_X4_remove (l : Launch) (D : va_G) (aI aJ aL : ClassId) (sz : Nat) (q : Nat → Nat) (dd : Nat) (dp : Nat) (dk : Nat) (dx : Nat → Int32) (dy : Nat → Int32) (dw : Nat → Int32) (dn : Nat → Nat) (g : Nat) (tm : Nat → Nat) (pz : Nat → Int64) (tk : Nat → Nat) (vn : Nat) (vt : Nat → Nat) (po : Nat → Int64) (vl : Nat → Int64) (ea : Nat → Nat) (la : Nat → Nat) (k : Nat) (hg : g ≤ 3) (hg1 : 1 ≤ g) (htk : ∀ i, tk i ≤ 6) (htm : ∀ j, tm j ≤ g) (hk1 : 1 ≤ k) (hk5 : k ≤ 5) (ht0 : 0 < tm k) (htv : ∀ i, i < rs_cu g tm 6 + (g + 1) → tk i = rs_val (rs_cu g tm) i) : rs_MI (S := {x : Nat → Nat // (∀ i, x i ≤ 6) ∧ (rs_okd pz g tm k → ∀ i, i < rs_cu g (rs_up tm k (tm k - 1)) 6 + (g + 1) → x i = rs_val (rs_cu g (rs_up tm k (tm k - 1))) i) ∧ (¬ rs_okd pz g tm k → ∀ i, i < rs_cu g tm 6 + (g + 1) → x i = rs_val (rs_cu g tm) i)}) l yX4_remove (Cond.code yX4_remove prog_6_method_16_code 2 (some .boolean) :: rsW) rm_X4_remove D vwCl (rs_tys aI aJ aL) rs_nw [.ref (q 0), .int (nI k)] (wM aI aJ aL q dd dp dk dx dy dw dn g tm pz tk (rs_cu g tm 6) vn vt po vl ea la) sz (rs_b (decide (rs_okd pz g tm k))) (fun uu => if rs_okd pz g tm k then wM aI aJ aL q dd dp dk dx dy dw dn g (rs_up tm k (tm k - 1)) pz uu.1 (rs_cu g (rs_up tm k (tm k - 1)) 6) vn vt po vl ea la else wM aI aJ aL q dd dp dk dx dy dw dn g tm pz uu.1 (rs_cu g tm 6) vn vt po vl ea la) := by
  refine rs_ent (cc := cX4_remove) (maxL := 2) (ret := some .boolean) (Qc := rs_QI D vwCl _ _ _) (by decide) rfl (Nat.le_of_ble_eq_true rfl) ?_
  intro p e s m args below meth c ls A Q hx hb hr hml hlk hts hown hin hK hN hP hD hS hA hQ hl
  have hl : lv_has ls 2 [(0, .ref (q 0)), (1, .int (nI k))] := hl
  refine lv_aload_n hx hb dX4_remove_0 rfl (lv_at hl 0 rfl) ?_
  refine va_get hx hb hts inX4 hown hK hP 0 (ci := 4) (C := RX4) (T := TX4) (N := 18) rfl rfl 7 (by decide) (hts _ rw_398) (fun _ h => h) (v := .int (nI g)) rfl dX4_remove_1 ?_
  refine lv_if_eq hx hb dX4_remove_4 (tgt := 26) rfl (fun h_4 => ?_) (fun h_4 => ?_)
  · have h_4 : g = 0 := rs_z1 (by omega) h_4
    omega
  · have h_4 : 0 < g := rs_z2 (by omega) h_4
    refine lv_iload_n hx hb dX4_remove_7 rfl (lv_at hl 1 rfl) ?_
    refine lv_iconst hx hb dX4_remove_8 (v := nI 1) (by decide) ?_
    refine lv_icmp_lt hx hb dX4_remove_9 (tgt := 26) rfl (fun h_9 => ?_) (fun h_9 => ?_)
    · have h_9 : k < 1 := (nI_ltI (by omega) (by omega)).1 h_9
      omega
    · have h_9 : 1 ≤ k := Nat.le_of_not_lt (fun z => h_9 ((nI_ltI (by omega) (by omega)).2 z))
      refine lv_iload_n hx hb dX4_remove_12 rfl (lv_at hl 1 rfl) ?_
      refine lv_iconst hx hb dX4_remove_13 (v := nI 5) (by decide) ?_
      refine lv_icmp_gt hx hb dX4_remove_14 (tgt := 26) rfl (fun h_14 => ?_) (fun h_14 => ?_)
      · have h_14 : 5 < k := (nI_ltI (by omega) (by omega)).1 h_14
        omega
      · have h_14 : k ≤ 5 := Nat.le_of_not_lt (fun z => h_14 ((nI_ltI (by omega) (by omega)).2 z))
        refine lv_aload_n hx hb dX4_remove_17 rfl (lv_at hl 0 rfl) ?_
        refine va_get hx hb hts inX4 hown hK hP 0 (ci := 4) (C := RX4) (T := TX4) (N := 18) rfl rfl 8 (by decide) (hts _ rw_399) (fun _ h => h) (v := .ref (q 5)) rfl dX4_remove_18 ?_
        refine lv_iload_n hx hb dX4_remove_21 rfl (lv_at hl 1 rfl) ?_
        have hb7 := htm k
        refine rs_iald hx hb hK hP 5 0 rfl rfl (i := k) (by omega) (by decide) (v := nI (tm k)) rfl dX4_remove_22 ?_
        refine lv_if_ne hx hb dX4_remove_23 (tgt := 28) rfl (fun h_23 => ?_) (fun h_23 => ?_)
        · have h_23 : 0 < (tm k) := rs_z2 (by omega) h_23
          refine lv_aload_n hx hb dX4_remove_28 rfl (lv_at hl 0 rfl) ?_
          refine lv_iload_n hx hb dX4_remove_29 rfl (lv_at hl 1 rfl) ?_
          refine lv_aload_n hx hb dX4_remove_30 rfl (lv_at hl 0 rfl) ?_
          refine va_get hx hb hts inX4 hown hK hP 0 (ci := 4) (C := RX4) (T := TX4) (N := 18) rfl rfl 7 (by decide) (hts _ rw_398) (fun _ h => h) (v := .int (nI g)) rfl dX4_remove_31 ?_
          refine lv_aload_n hx hb dX4_remove_34 rfl (lv_at hl 0 rfl) ?_
          refine va_get hx hb hts inX4 hown hK hP 0 (ci := 4) (C := RX4) (T := TX4) (N := 18) rfl rfl 8 (by decide) (hts _ rw_399) (fun _ h => h) (v := .ref (q 5)) rfl dX4_remove_35 ?_
          refine lv_iload_n hx hb dX4_remove_38 rfl (lv_at hl 1 rfl) ?_
          refine rs_iald hx hb hK hP 5 0 rfl rfl (i := k) (by omega) (by decide) (v := nI (tm k)) rfl dX4_remove_39 ?_
          refine rs_isub hx hb dX4_remove_40 (v := nI (g - (tm k))) (pk_sub (by omega)) ?_
          refine lv_iconst hx hb dX4_remove_41 (v := nI 2) (by decide) ?_
          refine rs_iadd hx hb dX4_remove_42 (v := nI ((g - (tm k)) + 2)) (nI_add _ _) ?_
          refine rs_cVI (rest := []) (wr := []) (ws' := fun u_43 => wM aI aJ aL q dd dp dk dx dy dw dn g tm pz tk (rs_cu g tm 6) vn vt po vl ea la) ⟨hx, hb, hml, hown, hts⟩ (c_X4_smooth l D aI aJ aL _ q dd dp dk dx dy dw dn g tm pz tk (rs_cu g tm 6) vn vt po vl ea la k ((g - (tm k)) + 2) hk1 hk5 (by omega)) (cwV 2 hts (rs_gV rw_492 rw_494 rv_18 rw_5 rw_495) rfl rfl rfl (by decide +kernel) ⟨Nat.le_of_ble_eq_true rfl, Nat.le_of_ble_eq_true rfl⟩) hK hN hP hD hS hA [0, 1, 2, 3, 4, 5, 6, 7, 8, 9, 10, 11, 12] [] [0, 1, 2, 3, 4, 5, 6, 7, 8, 9, 10, 11, 12] (by decide) rfl rfl (fun _ => rfl) 0 rfl rfl hl.1 rfl rfl (Nat.le_of_ble_eq_true rfl) dX4_remove_43 ⟨Nat.le_refl _, Nat.le_refl _⟩ (fun u_43 H locs hP hD hS => ?_)
          have hP : va_P D vwCl (wM aI aJ aL q dd dp dk dx dy dw dn g tm pz tk (rs_cu g tm 6) vn vt po vl ea la) H := hP
          have hD : va_D A (wM aI aJ aL q dd dp dk dx dy dw dn g tm pz tk (rs_cu g tm 6) vn vt po vl ea la) := hD
          refine lv_if_ne hx hb dX4_remove_46 (tgt := 51) rfl (fun h_46 => ?_) (fun h_46 => ?_)
          · have h_46 : (decide (rs_smo pz k ((g - (tm k)) + 2))) = true := rs_bn h_46
            refine lv_aload_n hx hb dX4_remove_51 rfl (lv_at hl 0 rfl) ?_
            refine va_get hx hb hts inX4 hown hK hP 0 (ci := 4) (C := RX4) (T := TX4) (N := 18) rfl rfl 8 (by decide) (hts _ rw_399) (fun _ h => h) (v := .ref (q 5)) rfl dX4_remove_52 ?_
            refine lv_iload_n hx hb dX4_remove_55 rfl (lv_at hl 1 rfl) ?_
            refine lv_dup2_11 hx hb dX4_remove_56 rfl rfl ?_
            refine rs_iald hx hb hK hP 5 0 rfl rfl (i := k) (by omega) (by decide) (v := nI (tm k)) rfl dX4_remove_57 ?_
            refine lv_iconst hx hb dX4_remove_58 (v := nI 1) (by decide) ?_
            refine rs_isub hx hb dX4_remove_59 (v := nI ((tm k) - 1)) (pk_sub (by omega)) ?_
            refine rs_iast hx hb hK hP hD hS 5 0 rfl rfl (i := k) (by omega) (by decide) (rs_upI _ _ _) dX4_remove_60 (ws' := wM aI aJ aL q dd dp dk dx dy dw dn g (rs_up tm k ((tm k) - 1)) pz tk (rs_cu g tm 6) vn vt po vl ea la) rfl (fun H locs hP hD hS => ?_)
            refine lv_aload_n hx hb dX4_remove_61 rfl (lv_at hl 0 rfl) ?_
            refine rs_cVV (rest := []) (wr := []) (ws' := fun u_62 => wM aI aJ aL q dd dp dk dx dy dw dn g (rs_up tm k ((tm k) - 1)) pz u_62.1 (rs_cu g (rs_up tm k ((tm k) - 1)) 6) vn vt po vl ea la) ⟨hx, hb, hml, hown, hts⟩ (c_X4_layKnots l D aI aJ aL _ q dd dp dk dx dy dw dn g (rs_up tm k ((tm k) - 1)) pz tk (rs_cu g tm 6) vn vt po vl ea la hg htk (rs_c7_b hg (rs_up_dec htm))) (cwV 0 hts (rs_gV rw_462 rw_464 rv_13 rw_5 rw_465) rfl rfl rfl (by decide +kernel) ⟨Nat.le_of_ble_eq_true rfl, Nat.le_of_ble_eq_true rfl⟩) hK hN hP hD hS hA [0, 1, 2, 3, 4, 5, 6, 7, 8, 9, 10, 11, 12] [] [0, 1, 2, 3, 4, 5, 6, 7, 8, 9, 10, 11, 12] (by decide) rfl rfl (fun _ => rfl) 0 rfl rfl hl.1 rfl rfl (Nat.le_of_ble_eq_true rfl) dX4_remove_62 ⟨Nat.le_refl _, Nat.le_refl _⟩ (fun u_62 H locs hP hD hS => ?_)
            have hP : va_P D vwCl (wM aI aJ aL q dd dp dk dx dy dw dn g (rs_up tm k ((tm k) - 1)) pz u_62.1 (rs_cu g (rs_up tm k ((tm k) - 1)) 6) vn vt po vl ea la) H := hP
            have hD : va_D A (wM aI aJ aL q dd dp dk dx dy dw dn g (rs_up tm k ((tm k) - 1)) pz u_62.1 (rs_cu g (rs_up tm k ((tm k) - 1)) 6) vn vt po vl ea la) := hD
            refine lv_aload_n hx hb dX4_remove_65 rfl (lv_at hl 0 rfl) ?_
            refine rs_cVI (rest := []) (wr := []) (ws' := fun u_66 => wM aI aJ aL q dd dp dk dx dy dw dn g (rs_up tm k ((tm k) - 1)) pz u_62.1 (rs_cu g (rs_up tm k ((tm k) - 1)) 6) vn vt po vl ea la) ⟨hx, hb, hml, hown, hts⟩ (c_X4_weighty l D aI aJ aL _ q dd dp dk dx dy dw dn g (rs_up tm k ((tm k) - 1)) pz u_62.1 (rs_cu g (rs_up tm k ((tm k) - 1)) 6) vn vt po vl ea la hg1 hg (rs_cu6_b hg (rs_up_dec htm)) (fun i hi => by rw [u_62.2.1 i (by omega)]; exact rs_val_5 hi)) (cwV 0 hts (rs_gV rw_499 rw_501 rv_19 rw_5 rw_502) rfl rfl rfl (by decide +kernel) ⟨Nat.le_of_ble_eq_true rfl, Nat.le_of_ble_eq_true rfl⟩) hK hN hP hD hS hA [0, 1, 2, 3, 4, 5, 6, 7, 8, 9, 10, 11, 12] [] [0, 1, 2, 3, 4, 5, 6, 7, 8, 9, 10, 11, 12] (by decide) rfl rfl (fun _ => rfl) 0 rfl rfl hl.1 rfl rfl (Nat.le_of_ble_eq_true rfl) dX4_remove_66 ⟨Nat.le_refl _, Nat.le_refl _⟩ (fun u_66 H locs hP hD hS => ?_)
            have hP : va_P D vwCl (wM aI aJ aL q dd dp dk dx dy dw dn g (rs_up tm k ((tm k) - 1)) pz u_62.1 (rs_cu g (rs_up tm k ((tm k) - 1)) 6) vn vt po vl ea la) H := hP
            have hD : va_D A (wM aI aJ aL q dd dp dk dx dy dw dn g (rs_up tm k ((tm k) - 1)) pz u_62.1 (rs_cu g (rs_up tm k ((tm k) - 1)) 6) vn vt po vl ea la) := hD
            refine lv_if_eq hx hb dX4_remove_69 (tgt := 74) rfl (fun h_69 => ?_) (fun h_69 => ?_)
            · have h_69 : (decide (∀ i, i < (rs_cu g (rs_up tm k ((tm k) - 1)) 6) → 0 < rs_co pz u_62.1 g i 2)) = false := rs_bz h_69
              refine lv_aload_n hx hb dX4_remove_74 rfl (lv_at hl 0 rfl) ?_
              refine va_get hx hb hts inX4 hown hK hP 0 (ci := 4) (C := RX4) (T := TX4) (N := 18) rfl rfl 8 (by decide) (hts _ rw_399) (fun _ h => h) (v := .ref (q 5)) rfl dX4_remove_75 ?_
              refine lv_iload_n hx hb dX4_remove_78 rfl (lv_at hl 1 rfl) ?_
              refine lv_dup2_11 hx hb dX4_remove_79 rfl rfl ?_
              have hb8 := rs_up_dec (k := k) htm k
              refine rs_iald hx hb hK hP 5 0 rfl rfl (i := k) (by omega) (by decide) (v := nI ((rs_up tm k ((tm k) - 1)) k)) rfl dX4_remove_80 ?_
              refine lv_iconst hx hb dX4_remove_81 (v := nI 1) (by decide) ?_
              refine rs_iadd hx hb dX4_remove_82 (v := nI (((rs_up tm k ((tm k) - 1)) k) + 1)) (nI_add _ _) ?_
              refine rs_iast hx hb hK hP hD hS 5 0 rfl rfl (i := k) (by omega) (by decide) (rs_upI _ _ _) dX4_remove_83 (ws' := wM aI aJ aL q dd dp dk dx dy dw dn g (rs_up (rs_up tm k ((tm k) - 1)) k (((rs_up tm k ((tm k) - 1)) k) + 1)) pz u_62.1 (rs_cu g (rs_up tm k ((tm k) - 1)) 6) vn vt po vl ea la) rfl (fun H locs hP hD hS => ?_)
              have hP : va_P D vwCl (wM aI aJ aL q dd dp dk dx dy dw dn g tm pz u_62.1 (rs_cu g (rs_up tm k ((tm k) - 1)) 6) vn vt po vl ea la) H := (by rw [rs_up_bk ht0] at hP; exact hP)
              have hD : va_D A (wM aI aJ aL q dd dp dk dx dy dw dn g tm pz u_62.1 (rs_cu g (rs_up tm k ((tm k) - 1)) 6) vn vt po vl ea la) := (by rw [rs_up_bk ht0] at hD; exact hD)
              refine lv_aload_n hx hb dX4_remove_84 rfl (lv_at hl 0 rfl) ?_
              refine rs_cVV (rest := []) (wr := []) (ws' := fun u_85 => wM aI aJ aL q dd dp dk dx dy dw dn g tm pz u_85.1 (rs_cu g tm 6) vn vt po vl ea la) ⟨hx, hb, hml, hown, hts⟩ (c_X4_layKnots l D aI aJ aL _ q dd dp dk dx dy dw dn g tm pz u_62.1 (rs_cu g (rs_up tm k ((tm k) - 1)) 6) vn vt po vl ea la hg u_62.2.2 (rs_c7_b hg htm)) (cwV 0 hts (rs_gV rw_462 rw_464 rv_13 rw_5 rw_465) rfl rfl rfl (by decide +kernel) ⟨Nat.le_of_ble_eq_true rfl, Nat.le_of_ble_eq_true rfl⟩) hK hN hP hD hS hA [0, 1, 2, 3, 4, 5, 6, 7, 8, 9, 10, 11, 12] [] [0, 1, 2, 3, 4, 5, 6, 7, 8, 9, 10, 11, 12] (by decide) rfl rfl (fun _ => rfl) 0 rfl rfl hl.1 rfl rfl (Nat.le_of_ble_eq_true rfl) dX4_remove_85 ⟨Nat.le_refl _, Nat.le_refl _⟩ (fun u_85 H locs hP hD hS => ?_)
              have hP : va_P D vwCl (wM aI aJ aL q dd dp dk dx dy dw dn g tm pz u_85.1 (rs_cu g tm 6) vn vt po vl ea la) H := hP
              have hD : va_D A (wM aI aJ aL q dd dp dk dx dy dw dn g tm pz u_85.1 (rs_cu g tm 6) vn vt po vl ea la) := hD
              refine lv_iconst hx hb dX4_remove_88 (v := nI 0) (by decide) ?_
              have hno : ¬ rs_okd pz g tm k := fun z => of_decide_eq_false h_69 ((rs_okd_w u_62.2.1).2 z.2)
              exact rs_iret ⟨u_85.1, u_85.2.2, fun z => absurd z hno, fun _ => u_85.2.1⟩ hx hb hr hlk hQ hK hP hD hS (by decide) (rs_bF hno) (if_neg hno).symm dX4_remove_89
            · have h_69 : (decide (∀ i, i < (rs_cu g (rs_up tm k ((tm k) - 1)) 6) → 0 < rs_co pz u_62.1 g i 2)) = true := rs_bn h_69
              refine lv_iconst hx hb dX4_remove_72 (v := nI 1) (by decide) ?_
              have hok : rs_okd pz g tm k := ⟨of_decide_eq_true h_46, (rs_okd_w u_62.2.1).1 (of_decide_eq_true h_69)⟩
              exact rs_iret ⟨u_62.1, u_62.2.2, fun _ => u_62.2.1, fun z => absurd hok z⟩ hx hb hr hlk hQ hK hP hD hS (by decide) (rs_bT hok) (if_pos hok).symm dX4_remove_73
          · have h_46 : (decide (rs_smo pz k ((g - (tm k)) + 2))) = false := rs_bz h_46
            refine lv_iconst hx hb dX4_remove_49 (v := nI 0) (by decide) ?_
            have hno : ¬ rs_okd pz g tm k := fun z => of_decide_eq_false h_46 z.1
            exact rs_iret ⟨tk, htk, fun z => absurd z hno, fun _ => htv⟩ hx hb hr hlk hQ hK hP hD hS (by decide) (rs_bF hno) (if_neg hno).symm dX4_remove_50
        · have h_23 : (tm k) = 0 := rs_z1 (by omega) h_23
          omega

def rm_X4_removeF : Room := { frames := 3, cells := 0, slots := 0, locals := 251 }
set_option maxHeartbeats 4000000 in
set_option maxRecDepth 100000 in
theorem c_X4_removeF (l : Launch) (D : va_G) (aI aJ aL : ClassId) (sz : Nat) (q : Nat → Nat) (dd : Nat) (dp : Nat) (dk : Nat) (dx : Nat → Int32) (dy : Nat → Int32) (dw : Nat → Int32) (dn : Nat → Nat) (g : Nat) (tm : Nat → Nat) (pz : Nat → Int64) (tk : Nat → Nat) (nn : Nat) (vn : Nat) (vt : Nat → Nat) (po : Nat → Int64) (vl : Nat → Int64) (ea : Nat → Nat) (la : Nat → Nat) (k : Nat) (hg : g ≤ 3) (htm : ∀ j, tm j ≤ 3) (hk1 : 1 ≤ k) (hk5 : k ≤ 5) (hF : g = 0 ∨ tm k = 0) : rs_MI (S := Unit) l yX4_remove (Cond.code yX4_remove prog_6_method_16_code 2 (some .boolean) :: rsW) rm_X4_removeF D vwCl (rs_tys aI aJ aL) rs_nw [.ref (q 0), .int (nI k)] (wM aI aJ aL q dd dp dk dx dy dw dn g tm pz tk nn vn vt po vl ea la) sz (nI 0) (fun uu => wM aI aJ aL q dd dp dk dx dy dw dn g tm pz tk nn vn vt po vl ea la) := by
  refine rs_ent (cc := cX4_remove) (maxL := 2) (ret := some .boolean) (Qc := rs_QI D vwCl _ _ _) (by decide) rfl (Nat.le_of_ble_eq_true rfl) ?_
  intro p e s m args below meth c ls A Q hx hb hr hml hlk hts hown hin hK hN hP hD hS hA hQ hl
  have hl : lv_has ls 2 [(0, .ref (q 0)), (1, .int (nI k))] := hl
  refine lv_aload_n hx hb dX4_remove_0 rfl (lv_at hl 0 rfl) ?_
  refine va_get hx hb hts inX4 hown hK hP 0 (ci := 4) (C := RX4) (T := TX4) (N := 18) rfl rfl 7 (by decide) (hts _ rw_398) (fun _ h => h) (v := .int (nI g)) rfl dX4_remove_1 ?_
  refine lv_if_eq hx hb dX4_remove_4 (tgt := 26) rfl (fun h_4 => ?_) (fun h_4 => ?_)
  · have h_4 : g = 0 := rs_z1 (by omega) h_4
    refine lv_iconst hx hb dX4_remove_26 (v := nI 0) (by decide) ?_
    exact rs_iret () hx hb hr hlk hQ hK hP hD hS (by decide) rfl rfl dX4_remove_27
  · have h_4 : 0 < g := rs_z2 (by omega) h_4
    refine lv_iload_n hx hb dX4_remove_7 rfl (lv_at hl 1 rfl) ?_
    refine lv_iconst hx hb dX4_remove_8 (v := nI 1) (by decide) ?_
    refine lv_icmp_lt hx hb dX4_remove_9 (tgt := 26) rfl (fun h_9 => ?_) (fun h_9 => ?_)
    · have h_9 : k < 1 := (nI_ltI (by omega) (by omega)).1 h_9
      omega
    · have h_9 : 1 ≤ k := Nat.le_of_not_lt (fun z => h_9 ((nI_ltI (by omega) (by omega)).2 z))
      refine lv_iload_n hx hb dX4_remove_12 rfl (lv_at hl 1 rfl) ?_
      refine lv_iconst hx hb dX4_remove_13 (v := nI 5) (by decide) ?_
      refine lv_icmp_gt hx hb dX4_remove_14 (tgt := 26) rfl (fun h_14 => ?_) (fun h_14 => ?_)
      · have h_14 : 5 < k := (nI_ltI (by omega) (by omega)).1 h_14
        omega
      · have h_14 : k ≤ 5 := Nat.le_of_not_lt (fun z => h_14 ((nI_ltI (by omega) (by omega)).2 z))
        refine lv_aload_n hx hb dX4_remove_17 rfl (lv_at hl 0 rfl) ?_
        refine va_get hx hb hts inX4 hown hK hP 0 (ci := 4) (C := RX4) (T := TX4) (N := 18) rfl rfl 8 (by decide) (hts _ rw_399) (fun _ h => h) (v := .ref (q 5)) rfl dX4_remove_18 ?_
        refine lv_iload_n hx hb dX4_remove_21 rfl (lv_at hl 1 rfl) ?_
        have hb7 := htm k
        refine rs_iald hx hb hK hP 5 0 rfl rfl (i := k) (by omega) (by decide) (v := nI (tm k)) rfl dX4_remove_22 ?_
        refine lv_if_ne hx hb dX4_remove_23 (tgt := 28) rfl (fun h_23 => ?_) (fun h_23 => ?_)
        · have h_23 : 0 < (tm k) := rs_z2 (by omega) h_23
          omega
        · have h_23 : (tm k) = 0 := rs_z1 (by omega) h_23
          refine lv_iconst hx hb dX4_remove_26 (v := nI 0) (by decide) ?_
          exact rs_iret () hx hb hr hlk hQ hK hP hD hS (by decide) rfl rfl dX4_remove_27

def rm_X4_removeG : Room := { frames := 3, cells := 0, slots := 0, locals := 251 }
set_option maxHeartbeats 4000000 in
set_option maxRecDepth 100000 in
theorem c_X4_removeG (l : Launch) (D : va_G) (aI aJ aL : ClassId) (sz : Nat) (q : Nat → Nat) (dd : Nat) (dp : Nat) (dk : Nat) (dx : Nat → Int32) (dy : Nat → Int32) (dw : Nat → Int32) (dn : Nat → Nat) (g : Nat) (tm : Nat → Nat) (pz : Nat → Int64) (tk : Nat → Nat) (nn : Nat) (vn : Nat) (vt : Nat → Nat) (po : Nat → Int64) (vl : Nat → Int64) (ea : Nat → Nat) (la : Nat → Nat) (k : Int32) (hg : g ≤ 3) (hF : ¬ (¬ k < nI 1 ∧ ¬ nI 5 < k)) : rs_MI (S := Unit) l yX4_remove (Cond.code yX4_remove prog_6_method_16_code 2 (some .boolean) :: rsW) rm_X4_removeG D vwCl (rs_tys aI aJ aL) rs_nw [.ref (q 0), .int k] (wM aI aJ aL q dd dp dk dx dy dw dn g tm pz tk nn vn vt po vl ea la) sz (nI 0) (fun uu => wM aI aJ aL q dd dp dk dx dy dw dn g tm pz tk nn vn vt po vl ea la) := by
  refine rs_ent (cc := cX4_remove) (maxL := 2) (ret := some .boolean) (Qc := rs_QI D vwCl _ _ _) (by decide) rfl (Nat.le_of_ble_eq_true rfl) ?_
  intro p e s m args below meth c ls A Q hx hb hr hml hlk hts hown hin hK hN hP hD hS hA hQ hl
  have hl : lv_has ls 2 [(0, .ref (q 0)), (1, .int k)] := hl
  refine lv_aload_n hx hb dX4_remove_0 rfl (lv_at hl 0 rfl) ?_
  refine va_get hx hb hts inX4 hown hK hP 0 (ci := 4) (C := RX4) (T := TX4) (N := 18) rfl rfl 7 (by decide) (hts _ rw_398) (fun _ h => h) (v := .int (nI g)) rfl dX4_remove_1 ?_
  refine lv_if_eq hx hb dX4_remove_4 (tgt := 26) rfl (fun h_4 => ?_) (fun h_4 => ?_)
  · have h_4 : g = 0 := rs_z1 (by omega) h_4
    refine lv_iconst hx hb dX4_remove_26 (v := nI 0) (by decide) ?_
    exact rs_iret () hx hb hr hlk hQ hK hP hD hS (by decide) rfl rfl dX4_remove_27
  · have h_4 : 0 < g := rs_z2 (by omega) h_4
    refine lv_iload_n hx hb dX4_remove_7 rfl (lv_at hl 1 rfl) ?_
    refine lv_iconst hx hb dX4_remove_8 (v := nI 1) (by decide) ?_
    refine lv_icmp_lt hx hb dX4_remove_9 (tgt := 26) rfl (fun h_9 => ?_) (fun h_9 => ?_)
    · skip
      refine lv_iconst hx hb dX4_remove_26 (v := nI 0) (by decide) ?_
      exact rs_iret () hx hb hr hlk hQ hK hP hD hS (by decide) rfl rfl dX4_remove_27
    · skip
      refine lv_iload_n hx hb dX4_remove_12 rfl (lv_at hl 1 rfl) ?_
      refine lv_iconst hx hb dX4_remove_13 (v := nI 5) (by decide) ?_
      refine lv_icmp_gt hx hb dX4_remove_14 (tgt := 26) rfl (fun h_14 => ?_) (fun h_14 => ?_)
      · skip
        refine lv_iconst hx hb dX4_remove_26 (v := nI 0) (by decide) ?_
        exact rs_iret () hx hb hr hlk hQ hK hP hD hS (by decide) rfl rfl dX4_remove_27
      · skip
        exact absurd ⟨h_9, h_14⟩ hF

def rm_X4_basis : Room := { frames := 2, cells := 0, slots := 0, locals := 151 }
set_option maxHeartbeats 4000000 in
set_option maxRecDepth 100000 in
theorem c_X4_basis (l : Launch) (D : va_G) (aI aJ aL : ClassId) (sz : Nat) (q : Nat → Nat) (dd : Nat) (dp : Nat) (dk : Nat) (dx : Nat → Int32) (dy : Nat → Int32) (dw : Nat → Int32) (dn : Nat → Nat) (g : Nat) (tm : Nat → Nat) (pz : Nat → Int64) (tk : Nat → Nat) (nn : Nat) (vn : Nat) (vt : Nat → Nat) (po : Nat → Int64) (vl : Nat → Int64) (ea : Nat → Nat) (la : Nat → Nat) (i : Nat) (u : Nat) (hg1 : 1 ≤ g) (hg : g ≤ 3) (hnn : nn ≤ 19) (hgn : g + 1 ≤ nn) (htk : ∀ i, tk i ≤ 6) (hu : u ≤ 360) (hi : i < nn) : rs_ML (S := Nat → Int64) l yX4_basis (Cond.code yX4_basis prog_6_method_26_code 12 (some .long) :: rsW) rm_X4_basis D vwCl (rs_tys aI aJ aL) rs_nw [.ref (q 0), .int (nI i), .int (nI u)] (wM aI aJ aL q dd dp dk dx dy dw dn g tm pz tk nn vn vt po vl ea la) sz (rs_vb tk u (rs_ms tk g u (nn - g)) g i * rs_sc g) (fun uu => wM aI aJ aL q dd dp dk dx dy dw dn g tm pz tk nn vn vt po uu ea la) := by
  refine rs_ent (cc := cX4_basis) (maxL := 12) (ret := some .long) (Qc := rs_QL D vwCl _ _ _) (by decide) rfl (Nat.le_of_ble_eq_true rfl) ?_
  intro p e s m args below meth c ls A Q hx hb hr hml hlk hts hown hin hK hN hP hD hS hA hQ hl
  have hl : lv_has ls 12 [(0, .ref (q 0)), (1, .int (nI i)), (2, .int (nI u))] := hl
  refine lv_aload_n hx hb dX4_basis_0 rfl (lv_at hl 0 rfl) ?_
  refine va_get hx hb hts inX4 hown hK hP 0 (ci := 4) (C := RX4) (T := TX4) (N := 18) rfl rfl 7 (by decide) (hts _ rw_398) (fun _ h => h) (v := .int (nI g)) rfl dX4_basis_1 ?_
  refine lv_if_eq hx hb dX4_basis_4 (tgt := 30) rfl (fun h_4 => ?_) (fun h_4 => ?_)
  · have h_4 : g = 0 := rs_z1 (by omega) h_4
    omega
  · have h_4 : 0 < g := rs_z2 (by omega) h_4
    refine lv_iload_n hx hb dX4_basis_7 rfl (lv_at hl 2 rfl) ?_
    refine lv_if_lt hx hb dX4_basis_8 (tgt := 30) rfl (fun h_8 => absurd h_8 (nI_pos (by omega))) (fun _ => ?_)
    refine lv_iload_n hx hb dX4_basis_11 rfl (lv_at hl 2 rfl) ?_
    refine lv_sipush hx hb dX4_basis_12 (v := nI 360) (by decide) ?_
    refine lv_icmp_gt hx hb dX4_basis_15 (tgt := 30) rfl (fun h_15 => ?_) (fun h_15 => ?_)
    · have h_15 : 360 < u := (nI_ltI (by omega) (by omega)).1 h_15
      omega
    · have h_15 : u ≤ 360 := Nat.le_of_not_lt (fun z => h_15 ((nI_ltI (by omega) (by omega)).2 z))
      refine lv_iload_n hx hb dX4_basis_18 rfl (lv_at hl 1 rfl) ?_
      refine lv_if_lt hx hb dX4_basis_19 (tgt := 30) rfl (fun h_19 => absurd h_19 (nI_pos (by omega))) (fun _ => ?_)
      refine lv_iload_n hx hb dX4_basis_22 rfl (lv_at hl 1 rfl) ?_
      refine lv_aload_n hx hb dX4_basis_23 rfl (lv_at hl 0 rfl) ?_
      refine va_get hx hb hts inX4 hown hK hP 0 (ci := 4) (C := RX4) (T := TX4) (N := 18) rfl rfl 11 (by decide) (hts _ rw_402) (fun _ h => h) (v := .int (nI nn)) rfl dX4_basis_24 ?_
      refine lv_icmp_lt hx hb dX4_basis_27 (tgt := 34) rfl (fun h_27 => ?_) (fun h_27 => ?_)
      · have h_27 : i < nn := (nI_ltI (by omega) (by omega)).1 h_27
        refine lv_aload_n hx hb dX4_basis_34 rfl (lv_at hl 0 rfl) ?_
        refine lv_iload_n hx hb dX4_basis_35 rfl (lv_at hl 2 rfl) ?_
        refine rs_cVI (rest := []) (wr := []) (ws' := fun u_36 => wM aI aJ aL q dd dp dk dx dy dw dn g tm pz tk nn vn vt po vl ea la) ⟨hx, hb, hml, hown, hts⟩ (c_X4_spanOf l D aI aJ aL _ q dd dp dk dx dy dw dn g tm pz tk nn vn vt po vl ea la u hg hnn htk (by omega)) (cwV 1 hts (rs_gV rw_470 rw_472 rv_15 rw_5 rw_473) rfl rfl rfl (by decide +kernel) ⟨Nat.le_of_ble_eq_true rfl, Nat.le_of_ble_eq_true rfl⟩) hK hN hP hD hS hA [0, 1, 2, 3, 4, 5, 6, 7, 8, 9, 10, 11, 12] [] [0, 1, 2, 3, 4, 5, 6, 7, 8, 9, 10, 11, 12] (by decide) rfl rfl (fun _ => rfl) 0 rfl rfl hl.1 rfl rfl (Nat.le_of_ble_eq_true rfl) dX4_basis_36 ⟨Nat.le_refl _, Nat.le_refl _⟩ (fun u_36 H locs hP hD hS => ?_)
        have hP : va_P D vwCl (wM aI aJ aL q dd dp dk dx dy dw dn g tm pz tk nn vn vt po vl ea la) H := hP
        have hD : va_D A (wM aI aJ aL q dd dp dk dx dy dw dn g tm pz tk nn vn vt po vl ea la) := hD
        have hr1 := rs_ms_le tk g u (nn - g)
        have hr2 := rs_ms_lt tk g u (j := nn - g) (by omega)
        refine lv_istore_n hx hb dX4_basis_39 rfl hl (lv' := [(3, .int (nI (rs_ms tk g u (nn - g)))), (0, .ref (q 0)), (1, .int (nI i)), (2, .int (nI u))]) (by decide) rfl (fun ls hl => ?_)
        refine lv_iconst hx hb dX4_basis_40 (v := nI 0) (by decide) ?_
        refine lv_istore hx hb dX4_basis_41 hl (lv' := [(4, .int (nI 0)), (3, .int (nI (rs_ms tk g u (nn - g)))), (0, .ref (q 0)), (1, .int (nI i)), (2, .int (nI u))]) (by decide) rfl (fun ls hl => ?_)
        have L_43 : ∀ (k_43 : Nat) (j : Nat) (vl : Nat → Int64) (H : Heap) (locs : List Loc) (ls : Array Slot), 24 - j < k_43 → (j ≤ 24) → (∀ x, x < j → vl x = 0) → lv_has ls 12 [(0, .ref (q 0)), (1, .int (nI i)), (2, .int (nI u)), (3, .int (nI (rs_ms tk g u (nn - g)))), (4, .int (nI j))] → va_P D vwCl (wM aI aJ aL q dd dp dk dx dy dw dn g tm pz tk nn vn vt po vl ea la) H → va_D A (wM aI aJ aL q dd dp dk dx dy dw dn g tm pz tk nn vn vt po vl ea la) → va_S A s.heap H locs → W p l e rm_X4_basis s m args below meth c H locs 0 0 Q (F0 m 43 ls []) := by
          intro k_43
          induction k_43 with
          | zero => intro j vl H locs ls hk_43; exact absurd hk_43 (Nat.not_lt_zero _)
          | succ k_43 ih_43 =>
            intro j vl H locs ls hk_43 hj h0 hl hP hD hS
            refine lv_iload hx hb dX4_basis_43 (lv_at hl 4 rfl) ?_
            refine lv_bipush hx hb dX4_basis_45 (v := nI 24) (by decide) ?_
            refine lv_icmp_ge hx hb dX4_basis_47 (tgt := 64) rfl (fun h_47 => ?_) (fun h_47 => ?_)
            · have h_47 : 24 ≤ j := (nI_leI (by omega) (by omega)).1 h_47
              refine lv_aload_n hx hb dX4_basis_64 rfl (lv_at hl 0 rfl) ?_
              refine va_get hx hb hts inX4 hown hK hP 0 (ci := 4) (C := RX4) (T := TX4) (N := 18) rfl rfl 15 (by decide) (hts _ rw_406) (fun _ h => h) (v := .ref (q 10)) rfl dX4_basis_65 ?_
              refine lv_iload_n hx hb dX4_basis_68 rfl (lv_at hl 3 rfl) ?_
              refine lv_lconst hx hb dX4_basis_69 (v := 1) (by decide) ?_
              refine rs_last hx hb hK hP hD hS 10 1 rfl rfl (i := (rs_ms tk g u (nn - g))) (by omega) (by decide) dX4_basis_70 (ws' := wM aI aJ aL q dd dp dk dx dy dw dn g tm pz tk nn vn vt po (vp_updL vl (rs_ms tk g u (nn - g)) 1) ea la) rfl (fun H locs hP hD hS => ?_)
              refine lv_iconst hx hb dX4_basis_71 (v := nI 1) (by decide) ?_
              refine lv_istore hx hb dX4_basis_72 hl (lv' := [(4, .int (nI 1)), (0, .ref (q 0)), (1, .int (nI i)), (2, .int (nI u)), (3, .int (nI (rs_ms tk g u (nn - g))))]) (by decide) rfl (fun ls hl => ?_)
              have L_74 : ∀ (k_74 : Nat) (v : Nat) (vl : Nat → Int64) (H : Heap) (locs : List Loc) (ls : Array Slot), g - v < k_74 → (v ≤ g) → (∀ x, x < 24 → vl x = rs_vb tk u (rs_ms tk g u (nn - g)) v x) → lv_has ls 12 [(0, .ref (q 0)), (1, .int (nI i)), (2, .int (nI u)), (3, .int (nI (rs_ms tk g u (nn - g)))), (4, .int (nI (v + 1)))] → va_P D vwCl (wM aI aJ aL q dd dp dk dx dy dw dn g tm pz tk nn vn vt po vl ea la) H → va_D A (wM aI aJ aL q dd dp dk dx dy dw dn g tm pz tk nn vn vt po vl ea la) → va_S A s.heap H locs → W p l e rm_X4_basis s m args below meth c H locs 0 0 Q (F0 m 74 ls []) := by
                intro k_74
                induction k_74 with
                | zero => intro v vl H locs ls hk_74; exact absurd hk_74 (Nat.not_lt_zero _)
                | succ k_74 ih_74 =>
                  intro v vl H locs ls hk_74 hv hw hl hP hD hS
                  refine lv_iload hx hb dX4_basis_74 (lv_at hl 4 rfl) ?_
                  refine lv_aload_n hx hb dX4_basis_76 rfl (lv_at hl 0 rfl) ?_
                  refine va_get hx hb hts inX4 hown hK hP 0 (ci := 4) (C := RX4) (T := TX4) (N := 18) rfl rfl 7 (by decide) (hts _ rw_398) (fun _ h => h) (v := .int (nI g)) rfl dX4_basis_77 ?_
                  refine lv_icmp_gt hx hb dX4_basis_80 (tgt := 248) rfl (fun h_80 => ?_) (fun h_80 => ?_)
                  · have h_80 : g < (v + 1) := (nI_ltI (by omega) (by omega)).1 h_80
                    have hw9 := hw i (by omega)
                    rw [show v = g by omega] at hw9
                    refine lv_aload_n hx hb dX4_basis_248 rfl (lv_at hl 0 rfl) ?_
                    refine va_get hx hb hts inX4 hown hK hP 0 (ci := 4) (C := RX4) (T := TX4) (N := 18) rfl rfl 15 (by decide) (hts _ rw_406) (fun _ h => h) (v := .ref (q 10)) rfl dX4_basis_249 ?_
                    refine lv_iload_n hx hb dX4_basis_252 rfl (lv_at hl 1 rfl) ?_
                    refine rs_lald hx hb hK hP 10 1 rfl rfl (i := i) (by omega) (by decide) (v := vl i) rfl dX4_basis_253 ?_
                    refine lv_aload_n hx hb dX4_basis_254 rfl (lv_at hl 0 rfl) ?_
                    refine va_get hx hb hts inX4 hown hK hP 0 (ci := 4) (C := RX4) (T := TX4) (N := 18) rfl rfl 7 (by decide) (hts _ rw_398) (fun _ h => h) (v := .int (nI g)) rfl dX4_basis_255 ?_
                    refine lv_iconst hx hb dX4_basis_258 (v := nI 1) (by decide) ?_
                    refine lv_icmp_ne hx hb dX4_basis_259 (tgt := 268) rfl (fun h_259 => ?_) (fun h_259 => ?_)
                    · have h_259 : ¬ g = 1 := fun z => h_259 ((nI_eq (by omega) (by omega)).2 z)
                      refine lv_aload_n hx hb dX4_basis_268 rfl (lv_at hl 0 rfl) ?_
                      refine va_get hx hb hts inX4 hown hK hP 0 (ci := 4) (C := RX4) (T := TX4) (N := 18) rfl rfl 7 (by decide) (hts _ rw_398) (fun _ h => h) (v := .int (nI g)) rfl dX4_basis_269 ?_
                      refine lv_iconst hx hb dX4_basis_272 (v := nI 2) (by decide) ?_
                      refine lv_icmp_ne hx hb dX4_basis_273 (tgt := 282) rfl (fun h_273 => ?_) (fun h_273 => ?_)
                      · have h_273 : ¬ g = 2 := fun z => h_273 ((nI_eq (by omega) (by omega)).2 z)
                        refine lv_lconst hx hb dX4_basis_282 (v := 1) (by decide) ?_
                        refine lv_lmul hx hb dX4_basis_283 ?_
                        exact rs_lret vl hx hb hr hlk hQ hK hP hD hS (by rw [hw9]; first | rw [show rs_sc g = 3600 from if_pos h_259] | rw [show rs_sc g = 60 from (if_neg h_259).trans (if_pos h_273)] | rw [show rs_sc g = 1 from (if_neg h_259).trans (if_neg h_273)]) rfl dX4_basis_284
                      · have h_273 : g = 2 := (nI_eq (by omega) (by omega)).1 h_273
                        refine lv_ldc2 hx hb hown (hts _ rw_479) dX4_basis_276 ?_
                        refine lv_goto hx hb dX4_basis_279 (tgt := 283) rfl ?_
                        refine lv_lmul hx hb dX4_basis_283 ?_
                        exact rs_lret vl hx hb hr hlk hQ hK hP hD hS (by rw [hw9]; first | rw [show rs_sc g = 3600 from if_pos h_259] | rw [show rs_sc g = 60 from (if_neg h_259).trans (if_pos h_273)] | rw [show rs_sc g = 1 from (if_neg h_259).trans (if_neg h_273)]) rfl dX4_basis_284
                    · have h_259 : g = 1 := (nI_eq (by omega) (by omega)).1 h_259
                      refine lv_ldc2 hx hb hown (hts _ rw_478) dX4_basis_262 ?_
                      refine lv_goto hx hb dX4_basis_265 (tgt := 283) rfl ?_
                      refine lv_lmul hx hb dX4_basis_283 ?_
                      exact rs_lret vl hx hb hr hlk hQ hK hP hD hS (by rw [hw9]; first | rw [show rs_sc g = 3600 from if_pos h_259] | rw [show rs_sc g = 60 from (if_neg h_259).trans (if_pos h_273)] | rw [show rs_sc g = 1 from (if_neg h_259).trans (if_neg h_273)]) rfl dX4_basis_284
                  · have h_80 : (v + 1) ≤ g := Nat.le_of_not_lt (fun z => h_80 ((nI_ltI (by omega) (by omega)).2 z))
                    refine lv_iload_n hx hb dX4_basis_83 rfl (lv_at hl 3 rfl) ?_
                    refine lv_iload hx hb dX4_basis_84 (lv_at hl 4 rfl) ?_
                    refine rs_isub hx hb dX4_basis_86 (v := nI ((rs_ms tk g u (nn - g)) - (v + 1))) (pk_sub (by omega)) ?_
                    refine lv_istore hx hb dX4_basis_87 hl (lv' := [(5, .int (nI ((rs_ms tk g u (nn - g)) - (v + 1)))), (0, .ref (q 0)), (1, .int (nI i)), (2, .int (nI u)), (3, .int (nI (rs_ms tk g u (nn - g)))), (4, .int (nI (v + 1)))]) (by decide) rfl (fun ls hl => ?_)
                    have L_89 : ∀ (k_89 : Nat) (w : Nat) (vl : Nat → Int64) (H : Heap) (locs : List Loc) (ls : Array Slot), v + 2 - w < k_89 → (w ≤ v + 2) → (∀ x, x < 24 → vl x = if (rs_ms tk g u (nn - g)) - (v + 1) ≤ x ∧ x < (rs_ms tk g u (nn - g)) - (v + 1) + w then rs_vb tk u (rs_ms tk g u (nn - g)) (v + 1) x else rs_vb tk u (rs_ms tk g u (nn - g)) v x) → lv_has ls 12 [(0, .ref (q 0)), (1, .int (nI i)), (2, .int (nI u)), (3, .int (nI (rs_ms tk g u (nn - g)))), (4, .int (nI (v + 1))), (5, .int (nI ((rs_ms tk g u (nn - g)) - (v + 1) + w)))] → va_P D vwCl (wM aI aJ aL q dd dp dk dx dy dw dn g tm pz tk nn vn vt po vl ea la) H → va_D A (wM aI aJ aL q dd dp dk dx dy dw dn g tm pz tk nn vn vt po vl ea la) → va_S A s.heap H locs → W p l e rm_X4_basis s m args below meth c H locs 0 0 Q (F0 m 89 ls []) := by
                      intro k_89
                      induction k_89 with
                      | zero => intro w vl H locs ls hk_89; exact absurd hk_89 (Nat.not_lt_zero _)
                      | succ k_89 ih_89 =>
                        intro w vl H locs ls hk_89 hw2 hw hl hP hD hS
                        refine lv_iload hx hb dX4_basis_89 (lv_at hl 5 rfl) ?_
                        refine lv_iload_n hx hb dX4_basis_91 rfl (lv_at hl 3 rfl) ?_
                        refine lv_icmp_gt hx hb dX4_basis_92 (tgt := 242) rfl (fun h_92 => ?_) (fun h_92 => ?_)
                        · have h_92 : (rs_ms tk g u (nn - g)) < ((rs_ms tk g u (nn - g)) - (v + 1) + w) := (nI_ltI (by omega) (by omega)).1 h_92
                          refine lv_iinc hx hb dX4_basis_242 hl (k := 4) rfl (v := nI ((v + 1) + 1)) (rs_inc _ _) (by decide) (lv' := [(4, .int (nI ((v + 1) + 1))), (0, .ref (q 0)), (1, .int (nI i)), (2, .int (nI u)), (3, .int (nI (rs_ms tk g u (nn - g)))), (5, .int (nI ((rs_ms tk g u (nn - g)) - (v + 1) + w)))]) rfl (fun ls hl => ?_)
                          refine lv_goto hx hb dX4_basis_245 (tgt := 74) rfl ?_
                          exact ih_74 (v + 1) _ _ _ _ (by omega) (by omega) (rs_vb_n (by omega) (by omega) hw) (lv_sub hl [1, 2, 3, 4, 0] rfl) hP hD hS
                        · have h_92 : ((rs_ms tk g u (nn - g)) - (v + 1) + w) ≤ (rs_ms tk g u (nn - g)) := Nat.le_of_not_lt (fun z => h_92 ((nI_ltI (by omega) (by omega)).2 z))
                          refine lv_aload_n hx hb dX4_basis_95 rfl (lv_at hl 0 rfl) ?_
                          refine va_get hx hb hts inX4 hown hK hP 0 (ci := 4) (C := RX4) (T := TX4) (N := 18) rfl rfl 10 (by decide) (hts _ rw_401) (fun _ h => h) (v := .ref (q 7)) rfl dX4_basis_96 ?_
                          refine lv_iload hx hb dX4_basis_99 (lv_at hl 5 rfl) ?_
                          refine lv_iload hx hb dX4_basis_101 (lv_at hl 4 rfl) ?_
                          refine rs_iadd hx hb dX4_basis_103 (v := nI (((rs_ms tk g u (nn - g)) - (v + 1) + w) + (v + 1))) (nI_add _ _) ?_
                          refine rs_iald hx hb hK hP 7 0 rfl rfl (i := (((rs_ms tk g u (nn - g)) - (v + 1) + w) + (v + 1))) (by omega) (by decide) (v := nI (tk (((rs_ms tk g u (nn - g)) - (v + 1) + w) + (v + 1)))) rfl dX4_basis_104 ?_
                          refine lv_aload_n hx hb dX4_basis_105 rfl (lv_at hl 0 rfl) ?_
                          refine va_get hx hb hts inX4 hown hK hP 0 (ci := 4) (C := RX4) (T := TX4) (N := 18) rfl rfl 10 (by decide) (hts _ rw_401) (fun _ h => h) (v := .ref (q 7)) rfl dX4_basis_106 ?_
                          refine lv_iload hx hb dX4_basis_109 (lv_at hl 5 rfl) ?_
                          refine rs_iald hx hb hK hP 7 0 rfl rfl (i := ((rs_ms tk g u (nn - g)) - (v + 1) + w)) (by omega) (by decide) (v := nI (tk ((rs_ms tk g u (nn - g)) - (v + 1) + w))) rfl dX4_basis_111 ?_
                          refine rs_isub hx hb dX4_basis_112 (v := (nI (tk (((rs_ms tk g u (nn - g)) - (v + 1) + w) + (v + 1))) - nI (tk ((rs_ms tk g u (nn - g)) - (v + 1) + w)))) rfl ?_
                          refine lv_istore hx hb dX4_basis_113 hl (lv' := [(6, .int (nI (tk (((rs_ms tk g u (nn - g)) - (v + 1) + w) + (v + 1))) - nI (tk ((rs_ms tk g u (nn - g)) - (v + 1) + w)))), (0, .ref (q 0)), (1, .int (nI i)), (2, .int (nI u)), (3, .int (nI (rs_ms tk g u (nn - g)))), (4, .int (nI (v + 1))), (5, .int (nI ((rs_ms tk g u (nn - g)) - (v + 1) + w)))]) (by decide) rfl (fun ls hl => ?_)
                          refine lv_aload_n hx hb dX4_basis_115 rfl (lv_at hl 1 rfl) ?_
                          refine va_get hx hb hts inX4 hown hK hP 0 (ci := 4) (C := RX4) (T := TX4) (N := 18) rfl rfl 10 (by decide) (hts _ rw_401) (fun _ h => h) (v := .ref (q 7)) rfl dX4_basis_116 ?_
                          refine lv_iload hx hb dX4_basis_119 (lv_at hl 6 rfl) ?_
                          refine lv_iload hx hb dX4_basis_121 (lv_at hl 5 rfl) ?_
                          refine rs_iadd hx hb dX4_basis_123 (v := nI (((rs_ms tk g u (nn - g)) - (v + 1) + w) + (v + 1))) (nI_add _ _) ?_
                          refine lv_iconst hx hb dX4_basis_124 (v := nI 1) (by decide) ?_
                          refine rs_iadd hx hb dX4_basis_125 (v := nI ((((rs_ms tk g u (nn - g)) - (v + 1) + w) + (v + 1)) + 1)) (nI_add _ _) ?_
                          refine rs_iald hx hb hK hP 7 0 rfl rfl (i := ((((rs_ms tk g u (nn - g)) - (v + 1) + w) + (v + 1)) + 1)) (by omega) (by decide) (v := nI (tk ((((rs_ms tk g u (nn - g)) - (v + 1) + w) + (v + 1)) + 1))) rfl dX4_basis_126 ?_
                          refine lv_aload_n hx hb dX4_basis_127 rfl (lv_at hl 1 rfl) ?_
                          refine va_get hx hb hts inX4 hown hK hP 0 (ci := 4) (C := RX4) (T := TX4) (N := 18) rfl rfl 10 (by decide) (hts _ rw_401) (fun _ h => h) (v := .ref (q 7)) rfl dX4_basis_128 ?_
                          refine lv_iload hx hb dX4_basis_131 (lv_at hl 6 rfl) ?_
                          refine lv_iconst hx hb dX4_basis_133 (v := nI 1) (by decide) ?_
                          refine rs_iadd hx hb dX4_basis_134 (v := nI (((rs_ms tk g u (nn - g)) - (v + 1) + w) + 1)) (nI_add _ _) ?_
                          refine rs_iald hx hb hK hP 7 0 rfl rfl (i := (((rs_ms tk g u (nn - g)) - (v + 1) + w) + 1)) (by omega) (by decide) (v := nI (tk (((rs_ms tk g u (nn - g)) - (v + 1) + w) + 1))) rfl dX4_basis_135 ?_
                          refine rs_isub hx hb dX4_basis_136 (v := (nI (tk ((((rs_ms tk g u (nn - g)) - (v + 1) + w) + (v + 1)) + 1)) - nI (tk (((rs_ms tk g u (nn - g)) - (v + 1) + w) + 1)))) rfl ?_
                          refine lv_istore hx hb dX4_basis_137 hl (lv' := [(7, .int (nI (tk ((((rs_ms tk g u (nn - g)) - (v + 1) + w) + (v + 1)) + 1)) - nI (tk (((rs_ms tk g u (nn - g)) - (v + 1) + w) + 1)))), (6, .int (nI (tk (((rs_ms tk g u (nn - g)) - (v + 1) + w) + (v + 1))) - nI (tk ((rs_ms tk g u (nn - g)) - (v + 1) + w)))), (0, .ref (q 0)), (1, .int (nI i)), (2, .int (nI u)), (3, .int (nI (rs_ms tk g u (nn - g)))), (4, .int (nI (v + 1))), (5, .int (nI ((rs_ms tk g u (nn - g)) - (v + 1) + w)))]) (by decide) rfl (fun ls hl => ?_)
                          refine lv_iload hx hb dX4_basis_139 (lv_at hl 1 rfl) ?_
                          have L_154 : ∀ (fa : Int64) (H : Heap) (locs : List Loc) (ls : Array Slot), (fa = rs_f6 (nI (tk ((rs_ms tk g u (nn - g)) - (v + 1) + w + (v + 1))) - nI (tk ((rs_ms tk g u (nn - g)) - (v + 1) + w)))) → lv_has ls 12 [(0, .ref (q 0)), (1, .int (nI i)), (2, .int (nI u)), (3, .int (nI (rs_ms tk g u (nn - g)))), (4, .int (nI (v + 1))), (5, .int (nI ((rs_ms tk g u (nn - g)) - (v + 1) + w))), (7, .int (nI (tk ((rs_ms tk g u (nn - g)) - (v + 1) + w + (v + 1) + 1)) - nI (tk ((rs_ms tk g u (nn - g)) - (v + 1) + w + 1))))] → va_P D vwCl (wM aI aJ aL q dd dp dk dx dy dw dn g tm pz tk nn vn vt po vl ea la) H → va_D A (wM aI aJ aL q dd dp dk dx dy dw dn g tm pz tk nn vn vt po vl ea la) → va_S A s.heap H locs → W p l e rm_X4_basis s m args below meth c H locs 0 0 Q (F0 m 154 ls [.long fa]) := by
                            intro fa H locs ls hfa hl hP hD hS
                            refine lv_lstore hx hb dX4_basis_154 hl (lv' := [(8, .long fa), (0, .ref (q 0)), (1, .int (nI i)), (2, .int (nI u)), (3, .int (nI (rs_ms tk g u (nn - g)))), (4, .int (nI (v + 1))), (5, .int (nI ((rs_ms tk g u (nn - g)) - (v + 1) + w))), (7, .int (nI (tk ((rs_ms tk g u (nn - g)) - (v + 1) + w + (v + 1) + 1)) - nI (tk ((rs_ms tk g u (nn - g)) - (v + 1) + w + 1))))]) (by decide) rfl (fun ls hl => ?_)
                            refine lv_iload hx hb dX4_basis_156 (lv_at hl 7 rfl) ?_
                            have L_171 : ∀ (fb : Int64) (H : Heap) (locs : List Loc) (ls : Array Slot), (fb = rs_f6 (nI (tk ((rs_ms tk g u (nn - g)) - (v + 1) + w + (v + 1) + 1)) - nI (tk ((rs_ms tk g u (nn - g)) - (v + 1) + w + 1)))) → lv_has ls 12 [(0, .ref (q 0)), (1, .int (nI i)), (2, .int (nI u)), (3, .int (nI (rs_ms tk g u (nn - g)))), (4, .int (nI (v + 1))), (5, .int (nI ((rs_ms tk g u (nn - g)) - (v + 1) + w))), (8, .long fa)] → va_P D vwCl (wM aI aJ aL q dd dp dk dx dy dw dn g tm pz tk nn vn vt po vl ea la) H → va_D A (wM aI aJ aL q dd dp dk dx dy dw dn g tm pz tk nn vn vt po vl ea la) → va_S A s.heap H locs → W p l e rm_X4_basis s m args below meth c H locs 0 0 Q (F0 m 171 ls [.long fb]) := by
                              intro fb H locs ls hfb hl hP hD hS
                              refine lv_lstore hx hb dX4_basis_171 hl (lv' := [(10, .long fb), (0, .ref (q 0)), (1, .int (nI i)), (2, .int (nI u)), (3, .int (nI (rs_ms tk g u (nn - g)))), (4, .int (nI (v + 1))), (5, .int (nI ((rs_ms tk g u (nn - g)) - (v + 1) + w))), (8, .long fa)]) (by decide) rfl (fun ls hl => ?_)
                              refine lv_aload_n hx hb dX4_basis_173 rfl (lv_at hl 1 rfl) ?_
                              refine va_get hx hb hts inX4 hown hK hP 0 (ci := 4) (C := RX4) (T := TX4) (N := 18) rfl rfl 15 (by decide) (hts _ rw_406) (fun _ h => h) (v := .ref (q 10)) rfl dX4_basis_174 ?_
                              refine lv_iload hx hb dX4_basis_177 (lv_at hl 6 rfl) ?_
                              refine lv_lload hx hb dX4_basis_179 (lv_at hl 7 rfl) ?_
                              refine lv_iload_n hx hb dX4_basis_181 rfl (lv_at hl 3 rfl) ?_
                              refine lv_bipush hx hb dX4_basis_182 (v := nI 60) (by decide) ?_
                              refine lv_aload_n hx hb dX4_basis_184 rfl (lv_at hl 1 rfl) ?_
                              refine va_get hx hb hts inX4 hown hK hP 0 (ci := 4) (C := RX4) (T := TX4) (N := 18) rfl rfl 10 (by decide) (hts _ rw_401) (fun _ h => h) (v := .ref (q 7)) rfl dX4_basis_185 ?_
                              refine lv_iload hx hb dX4_basis_188 (lv_at hl 6 rfl) ?_
                              refine rs_iald hx hb hK hP 7 0 rfl rfl (i := ((rs_ms tk g u (nn - g)) - (v + 1) + w)) (by omega) (by decide) (v := nI (tk ((rs_ms tk g u (nn - g)) - (v + 1) + w))) rfl dX4_basis_190 ?_
                              refine rs_imul hx hb dX4_basis_191 (v := nI (60 * (tk ((rs_ms tk g u (nn - g)) - (v + 1) + w)))) (pk_mul _ _) ?_
                              refine rs_isub hx hb dX4_basis_192 (v := (nI u - nI (60 * (tk ((rs_ms tk g u (nn - g)) - (v + 1) + w))))) rfl ?_
                              refine lv_i2l hx hb dX4_basis_193 (v := ((nI u - nI (60 * (tk ((rs_ms tk g u (nn - g)) - (v + 1) + w))))).toInt64) rfl ?_
                              refine lv_lmul hx hb dX4_basis_194 ?_
                              refine lv_aload_n hx hb dX4_basis_195 rfl (lv_at hl 1 rfl) ?_
                              refine va_get hx hb hts inX4 hown hK hP 0 (ci := 4) (C := RX4) (T := TX4) (N := 18) rfl rfl 15 (by decide) (hts _ rw_406) (fun _ h => h) (v := .ref (q 10)) rfl dX4_basis_196 ?_
                              refine lv_iload hx hb dX4_basis_199 (lv_at hl 6 rfl) ?_
                              refine rs_lald hx hb hK hP 10 1 rfl rfl (i := ((rs_ms tk g u (nn - g)) - (v + 1) + w)) (by omega) (by decide) (v := vl ((rs_ms tk g u (nn - g)) - (v + 1) + w)) rfl dX4_basis_201 ?_
                              refine lv_lmul hx hb dX4_basis_202 ?_
                              refine lv_lload hx hb dX4_basis_203 (lv_at hl 0 rfl) ?_
                              refine lv_bipush hx hb dX4_basis_205 (v := nI 60) (by decide) ?_
                              refine lv_aload_n hx hb dX4_basis_207 rfl (lv_at hl 1 rfl) ?_
                              refine va_get hx hb hts inX4 hown hK hP 0 (ci := 4) (C := RX4) (T := TX4) (N := 18) rfl rfl 10 (by decide) (hts _ rw_401) (fun _ h => h) (v := .ref (q 7)) rfl dX4_basis_208 ?_
                              refine lv_iload hx hb dX4_basis_211 (lv_at hl 6 rfl) ?_
                              refine lv_iload hx hb dX4_basis_213 (lv_at hl 5 rfl) ?_
                              refine rs_iadd hx hb dX4_basis_215 (v := nI (((rs_ms tk g u (nn - g)) - (v + 1) + w) + (v + 1))) (nI_add _ _) ?_
                              refine lv_iconst hx hb dX4_basis_216 (v := nI 1) (by decide) ?_
                              refine rs_iadd hx hb dX4_basis_217 (v := nI ((((rs_ms tk g u (nn - g)) - (v + 1) + w) + (v + 1)) + 1)) (nI_add _ _) ?_
                              refine rs_iald hx hb hK hP 7 0 rfl rfl (i := ((((rs_ms tk g u (nn - g)) - (v + 1) + w) + (v + 1)) + 1)) (by omega) (by decide) (v := nI (tk ((((rs_ms tk g u (nn - g)) - (v + 1) + w) + (v + 1)) + 1))) rfl dX4_basis_218 ?_
                              refine rs_imul hx hb dX4_basis_219 (v := nI (60 * (tk ((((rs_ms tk g u (nn - g)) - (v + 1) + w) + (v + 1)) + 1)))) (pk_mul _ _) ?_
                              refine lv_iload_n hx hb dX4_basis_220 rfl (lv_at hl 3 rfl) ?_
                              refine rs_isub hx hb dX4_basis_221 (v := (nI (60 * (tk ((((rs_ms tk g u (nn - g)) - (v + 1) + w) + (v + 1)) + 1))) - nI u)) rfl ?_
                              refine lv_i2l hx hb dX4_basis_222 (v := ((nI (60 * (tk ((((rs_ms tk g u (nn - g)) - (v + 1) + w) + (v + 1)) + 1))) - nI u)).toInt64) rfl ?_
                              refine lv_lmul hx hb dX4_basis_223 ?_
                              refine lv_aload_n hx hb dX4_basis_224 rfl (lv_at hl 1 rfl) ?_
                              refine va_get hx hb hts inX4 hown hK hP 0 (ci := 4) (C := RX4) (T := TX4) (N := 18) rfl rfl 15 (by decide) (hts _ rw_406) (fun _ h => h) (v := .ref (q 10)) rfl dX4_basis_225 ?_
                              refine lv_iload hx hb dX4_basis_228 (lv_at hl 6 rfl) ?_
                              refine lv_iconst hx hb dX4_basis_230 (v := nI 1) (by decide) ?_
                              refine rs_iadd hx hb dX4_basis_231 (v := nI (((rs_ms tk g u (nn - g)) - (v + 1) + w) + 1)) (nI_add _ _) ?_
                              refine rs_lald hx hb hK hP 10 1 rfl rfl (i := (((rs_ms tk g u (nn - g)) - (v + 1) + w) + 1)) (by omega) (by decide) (v := vl (((rs_ms tk g u (nn - g)) - (v + 1) + w) + 1)) rfl dX4_basis_232 ?_
                              refine lv_lmul hx hb dX4_basis_233 ?_
                              refine lv_ladd hx hb dX4_basis_234 ?_
                              refine rs_last hx hb hK hP hD hS 10 1 rfl rfl (i := ((rs_ms tk g u (nn - g)) - (v + 1) + w)) (by omega) (by decide) dX4_basis_235 (ws' := wM aI aJ aL q dd dp dk dx dy dw dn g tm pz tk nn vn vt po (vp_updL vl ((rs_ms tk g u (nn - g)) - (v + 1) + w) (((fa * (((nI u - nI (60 * (tk ((rs_ms tk g u (nn - g)) - (v + 1) + w))))).toInt64)) * (vl ((rs_ms tk g u (nn - g)) - (v + 1) + w))) + ((fb * (((nI (60 * (tk ((((rs_ms tk g u (nn - g)) - (v + 1) + w) + (v + 1)) + 1))) - nI u)).toInt64)) * (vl (((rs_ms tk g u (nn - g)) - (v + 1) + w) + 1))))) ea la) rfl (fun H locs hP hD hS => ?_)
                              refine lv_iinc hx hb dX4_basis_236 hl (k := 6) rfl (v := nI (((rs_ms tk g u (nn - g)) - (v + 1) + w) + 1)) (rs_inc _ _) (by decide) (lv' := [(5, .int (nI (((rs_ms tk g u (nn - g)) - (v + 1) + w) + 1))), (10, .long fb), (0, .ref (q 0)), (1, .int (nI i)), (2, .int (nI u)), (3, .int (nI (rs_ms tk g u (nn - g)))), (4, .int (nI (v + 1))), (8, .long fa)]) rfl (fun ls hl => ?_)
                              refine lv_goto hx hb dX4_basis_239 (tgt := 89) rfl ?_
                              exact ih_89 (w + 1) _ _ _ _ (by omega) (by omega) (rs_vb_s (by omega) (by omega) (by omega) hfa hfb hw) (lv_sub hl [2, 3, 4, 5, 6, 0] rfl) hP hD hS
                            refine lv_if_ne hx hb dX4_basis_158 (tgt := 165) rfl (fun h_158 => ?_) (fun h_158 => ?_)
                            · skip
                              refine lv_bipush hx hb dX4_basis_165 (v := nI 60) (by decide) ?_
                              refine lv_iload hx hb dX4_basis_167 (lv_at hl 7 rfl) ?_
                              refine rs_idiv hx hb dX4_basis_169 h_158 (v := (nI 60 / (nI (tk ((rs_ms tk g u (nn - g)) - (v + 1) + w + (v + 1) + 1)) - nI (tk ((rs_ms tk g u (nn - g)) - (v + 1) + w + 1))))) rfl ?_
                              refine lv_i2l hx hb dX4_basis_170 (v := ((nI 60 / (nI (tk ((rs_ms tk g u (nn - g)) - (v + 1) + w + (v + 1) + 1)) - nI (tk ((rs_ms tk g u (nn - g)) - (v + 1) + w + 1))))).toInt64) rfl ?_
                              exact L_171 _ _ _ _ (by first | exact (if_pos h_158).symm | exact (if_neg h_158).symm) (lv_sub hl [1, 2, 3, 4, 5, 6, 0] rfl) hP hD hS
                            · skip
                              refine lv_lconst hx hb dX4_basis_161 (v := 0) (by decide) ?_
                              refine lv_goto hx hb dX4_basis_162 (tgt := 171) rfl ?_
                              exact L_171 _ _ _ _ (by first | exact (if_pos h_158).symm | exact (if_neg h_158).symm) (lv_sub hl [1, 2, 3, 4, 5, 6, 0] rfl) hP hD hS
                          refine lv_if_ne hx hb dX4_basis_141 (tgt := 148) rfl (fun h_141 => ?_) (fun h_141 => ?_)
                          · skip
                            refine lv_bipush hx hb dX4_basis_148 (v := nI 60) (by decide) ?_
                            refine lv_iload hx hb dX4_basis_150 (lv_at hl 1 rfl) ?_
                            refine rs_idiv hx hb dX4_basis_152 h_141 (v := (nI 60 / (nI (tk (((rs_ms tk g u (nn - g)) - (v + 1) + w) + (v + 1))) - nI (tk ((rs_ms tk g u (nn - g)) - (v + 1) + w))))) rfl ?_
                            refine lv_i2l hx hb dX4_basis_153 (v := ((nI 60 / (nI (tk (((rs_ms tk g u (nn - g)) - (v + 1) + w) + (v + 1))) - nI (tk ((rs_ms tk g u (nn - g)) - (v + 1) + w))))).toInt64) rfl ?_
                            exact L_154 _ _ _ _ (by first | exact (if_pos h_141).symm | exact (if_neg h_141).symm) (lv_sub hl [2, 3, 4, 5, 6, 7, 0] rfl) hP hD hS
                          · skip
                            refine lv_lconst hx hb dX4_basis_144 (v := 0) (by decide) ?_
                            refine lv_goto hx hb dX4_basis_145 (tgt := 154) rfl ?_
                            exact L_154 _ _ _ _ (by first | exact (if_pos h_141).symm | exact (if_neg h_141).symm) (lv_sub hl [2, 3, 4, 5, 6, 7, 0] rfl) hP hD hS
                    exact L_89 ((v + 2 - 0) + 1) 0 _ _ _ _ (Nat.lt_succ_self _) (by omega) (rs_vb_i hw) (lv_sub hl [1, 2, 3, 4, 5, 0] rfl) hP hD hS
              exact L_74 ((g - 0) + 1) 0 _ _ _ _ (Nat.lt_succ_self _) (Nat.zero_le _) (rs_vb_0 (by omega) h0 (by omega)) (lv_sub hl [1, 2, 3, 4, 0] rfl) hP hD hS
            · have h_47 : j < 24 := Nat.lt_of_not_le (fun z => h_47 ((nI_leI (by omega) (by omega)).2 z))
              refine lv_aload_n hx hb dX4_basis_50 rfl (lv_at hl 0 rfl) ?_
              refine va_get hx hb hts inX4 hown hK hP 0 (ci := 4) (C := RX4) (T := TX4) (N := 18) rfl rfl 15 (by decide) (hts _ rw_406) (fun _ h => h) (v := .ref (q 10)) rfl dX4_basis_51 ?_
              refine lv_iload hx hb dX4_basis_54 (lv_at hl 4 rfl) ?_
              refine lv_lconst hx hb dX4_basis_56 (v := 0) (by decide) ?_
              refine rs_last hx hb hK hP hD hS 10 1 rfl rfl (i := j) (by omega) (by decide) dX4_basis_57 (ws' := wM aI aJ aL q dd dp dk dx dy dw dn g tm pz tk nn vn vt po (vp_updL vl j 0) ea la) rfl (fun H locs hP hD hS => ?_)
              refine lv_iinc hx hb dX4_basis_58 hl (k := 4) rfl (v := nI (j + 1)) (rs_inc _ _) (by decide) (lv' := [(4, .int (nI (j + 1))), (0, .ref (q 0)), (1, .int (nI i)), (2, .int (nI u)), (3, .int (nI (rs_ms tk g u (nn - g))))]) rfl (fun ls hl => ?_)
              refine lv_goto hx hb dX4_basis_61 (tgt := 43) rfl ?_
              exact ih_43 (j + 1) _ _ _ _ (by omega) (by omega) (rs_w_up (F := fun _ => 0) h0 rfl) (lv_sub hl [1, 2, 3, 4, 0] rfl) hP hD hS
        exact L_43 ((24 - 0) + 1) 0 vl _ _ _ (Nat.lt_succ_self _) (Nat.zero_le _) lt_0 (lv_sub hl [2, 3, 4, 1, 0] rfl) hP hD hS
      · have h_27 : nn ≤ i := Nat.le_of_not_lt (fun z => h_27 ((nI_ltI (by omega) (by omega)).2 z))
        omega
