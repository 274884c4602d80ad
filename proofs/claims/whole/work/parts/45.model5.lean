def rm_X4_finish : Room := { frames := 3, cells := 0, slots := 0, locals := 263 }
set_option maxHeartbeats 4000000 in
set_option maxRecDepth 100000 in
theorem c_X4_finish (l : Launch) (D : va_G) (aI aJ aL : ClassId) (sz : Nat) (q : Nat → Nat) (dd : Nat) (dp : Nat) (dk : Nat) (dx : Nat → Int32) (dy : Nat → Int32) (dw : Nat → Int32) (dn : Nat → Nat) (g : Nat) (tm : Nat → Nat) (pz : Nat → Int64) (tk : Nat → Nat) (nn : Nat) (vn : Nat) (vt : Nat → Nat) (po : Nat → Int64) (vl : Nat → Int64) (ea : Nat → Nat) (la : Nat → Nat) (hd1 : 1 ≤ dd) (hd3 : dd ≤ 3) (hdp : dp ≤ 19) (hdk : dk ≤ 15) (hdkp : dk + dd + 1 = dp) (hdn : ∀ i, dn i ≤ 6) (htk : ∀ i, tk i ≤ 6) (h7 : ∀ x, 7 ≤ x → tm x = 0) (hcn : ∀ j, rs_cn dn j dk ≤ dd) : rs_MI (S := {x : (Nat → Nat) × (Nat → Int64) × (Nat → Int64) // (∀ i, i < rs_cu dd (fun x => rs_cn dn x dk) 6 + (dd + 1) → x.1 i = rs_val (rs_cu dd (fun x => rs_cn dn x dk)) i) ∧ (∀ i, x.1 i ≤ 6) ∧ rs_PV (fun i b f => rs_pv x.1 dd (rs_cu dd (fun x => rs_cn dn x dk) 6) dx dy dw i b f) x.2.2 6}) l yX4_finish (Cond.code yX4_finish prog_6_method_5_code 2 (some .int) :: rsW) rm_X4_finish D vwCl (rs_tys aI aJ aL) rs_nw [.ref (q 0)] (wM aI aJ aL q dd dp dk dx dy dw dn g tm pz tk nn vn vt po vl ea la) sz (nI 0) (fun uu => wM aI aJ aL q 0 dp dk dx dy dw dn dd (fun x => rs_cn dn x dk) uu.1.2.2 uu.1.1 (rs_cu dd (fun x => rs_cn dn x dk) 6) 0 vt uu.1.2.1 vl ea la) := by
  refine rs_ent (cc := cX4_finish) (maxL := 2) (ret := some .int) (Qc := rs_QI D vwCl _ _ _) (by decide) rfl (Nat.le_of_ble_eq_true rfl) ?_
  intro p e s m args below meth c ls A Q hx hb hr hml hlk hts hown hin hK hN hP hD hS hA hQ hl
  have hl : lv_has ls 2 [(0, .ref (q 0))] := hl
  refine lv_aload_n hx hb dX4_finish_0 rfl (lv_at hl 0 rfl) ?_
  refine va_get hx hb hts inX4 hown hK hP 0 (ci := 4) (C := RX4) (T := TX4) (N := 18) rfl rfl 0 (by decide) (hts _ rw_391) (fun _ h => h) (v := .int (nI dd)) rfl dX4_finish_1 ?_
  refine lv_if_ne hx hb dX4_finish_4 (tgt := 9) rfl (fun h_4 => ?_) (fun h_4 => ?_)
  · have h_4 : 0 < dd := rs_z2 (by omega) h_4
    refine lv_aload_n hx hb dX4_finish_9 rfl (lv_at hl 0 rfl) ?_
    refine va_get hx hb hts inX4 hown hK hP 0 (ci := 4) (C := RX4) (T := TX4) (N := 18) rfl rfl 1 (by decide) (hts _ rw_392) (fun _ h => h) (v := .int (nI dp)) rfl dX4_finish_10 ?_
    refine lv_aload_n hx hb dX4_finish_13 rfl (lv_at hl 0 rfl) ?_
    refine va_get hx hb hts inX4 hown hK hP 0 (ci := 4) (C := RX4) (T := TX4) (N := 18) rfl rfl 0 (by decide) (hts _ rw_391) (fun _ h => h) (v := .int (nI dd)) rfl dX4_finish_14 ?_
    refine lv_iconst hx hb dX4_finish_17 (v := nI 1) (by decide) ?_
    refine rs_iadd hx hb dX4_finish_18 (v := nI (dd + 1)) (nI_add _ _) ?_
    refine lv_icmp_ge hx hb dX4_finish_19 (tgt := 24) rfl (fun h_19 => ?_) (fun h_19 => ?_)
    · have h_19 : (dd + 1) ≤ dp := (nI_leI (by omega) (by omega)).1 h_19
      refine lv_aload_n hx hb dX4_finish_24 rfl (lv_at hl 0 rfl) ?_
      refine va_get hx hb hts inX4 hown hK hP 0 (ci := 4) (C := RX4) (T := TX4) (N := 18) rfl rfl 2 (by decide) (hts _ rw_393) (fun _ h => h) (v := .int (nI dk)) rfl dX4_finish_25 ?_
      refine lv_aload_n hx hb dX4_finish_28 rfl (lv_at hl 0 rfl) ?_
      refine va_get hx hb hts inX4 hown hK hP 0 (ci := 4) (C := RX4) (T := TX4) (N := 18) rfl rfl 1 (by decide) (hts _ rw_392) (fun _ h => h) (v := .int (nI dp)) rfl dX4_finish_29 ?_
      refine lv_aload_n hx hb dX4_finish_32 rfl (lv_at hl 0 rfl) ?_
      refine va_get hx hb hts inX4 hown hK hP 0 (ci := 4) (C := RX4) (T := TX4) (N := 18) rfl rfl 0 (by decide) (hts _ rw_391) (fun _ h => h) (v := .int (nI dd)) rfl dX4_finish_33 ?_
      refine rs_isub hx hb dX4_finish_36 (v := nI (dp - dd)) (pk_sub (by omega)) ?_
      refine lv_iconst hx hb dX4_finish_37 (v := nI 1) (by decide) ?_
      refine rs_isub hx hb dX4_finish_38 (v := nI ((dp - dd) - 1)) (pk_sub (by omega)) ?_
      refine lv_icmp_eq hx hb dX4_finish_39 (tgt := 44) rfl (fun h_39 => ?_) (fun h_39 => ?_)
      · have h_39 : dk = ((dp - dd) - 1) := (nI_eq (by omega) (by omega)).1 h_39
        refine lv_aload_n hx hb dX4_finish_44 rfl (lv_at hl 0 rfl) ?_
        refine lv_aload_n hx hb dX4_finish_45 rfl (lv_at hl 0 rfl) ?_
        refine va_get hx hb hts inX4 hown hK hP 0 (ci := 4) (C := RX4) (T := TX4) (N := 18) rfl rfl 0 (by decide) (hts _ rw_391) (fun _ h => h) (v := .int (nI dd)) rfl dX4_finish_46 ?_
        refine va_put hx hb hts inX4 (ty0 := tyX4) tyX4_ok nmX4 hown hK hP hD hS 0 (ci := 4) (C := RX4) (T := TX4) (N := 18) rfl rfl 7 (by decide) (hts _ rw_398) (fun _ h => h) rfl (ty := .int) (by decide +kernel) rfl rfl (Nat.le_of_ble_eq_true rfl) dX4_finish_49 (fun H locs hP hD hS => ?_)
        have hP : va_P D vwCl (wM aI aJ aL q dd dp dk dx dy dw dn dd tm pz tk nn vn vt po vl ea la) H := hP
        have hD : va_D A (wM aI aJ aL q dd dp dk dx dy dw dn dd tm pz tk nn vn vt po vl ea la) := hD
        refine lv_iconst hx hb dX4_finish_52 (v := nI 0) (by decide) ?_
        refine lv_istore_n hx hb dX4_finish_53 rfl hl (lv' := [(1, .int (nI 0)), (0, .ref (q 0))]) (by decide) rfl (fun ls hl => ?_)
        have L_54 : ∀ (k_54 : Nat) (k : Nat) (tx : Nat → Nat) (H : Heap) (locs : List Loc) (ls : Array Slot), 7 - k < k_54 → (k ≤ 7) → (∀ x, (x < k ∨ 7 ≤ x) → tx x = 0) → lv_has ls 2 [(0, .ref (q 0)), (1, .int (nI k))] → va_P D vwCl (wM aI aJ aL q dd dp dk dx dy dw dn dd tx pz tk nn vn vt po vl ea la) H → va_D A (wM aI aJ aL q dd dp dk dx dy dw dn dd tx pz tk nn vn vt po vl ea la) → va_S A s.heap H locs → W p l e rm_X4_finish s m args below meth c H locs 0 0 Q (F0 m 54 ls []) := by
          intro k_54
          induction k_54 with
          | zero => intro k tx H locs ls hk_54; exact absurd hk_54 (Nat.not_lt_zero _)
          | succ k_54 ih_54 =>
            intro k tx H locs ls hk_54 hk hz hl hP hD hS
            refine lv_iload_n hx hb dX4_finish_54 rfl (lv_at hl 1 rfl) ?_
            refine lv_bipush hx hb dX4_finish_55 (v := nI 7) (by decide) ?_
            refine lv_icmp_ge hx hb dX4_finish_57 (tgt := 73) rfl (fun h_57 => ?_) (fun h_57 => ?_)
            · have h_57 : 7 ≤ k := (nI_leI (by omega) (by omega)).1 h_57
              refine lv_iconst hx hb dX4_finish_73 (v := nI 0) (by decide) ?_
              refine lv_istore_n hx hb dX4_finish_74 rfl hl (lv' := [(1, .int (nI 0)), (0, .ref (q 0))]) (by decide) rfl (fun ls hl => ?_)
              have L_75 : ∀ (k_75 : Nat) (q9 : Nat) (tx : Nat → Nat) (H : Heap) (locs : List Loc) (ls : Array Slot), dk - q9 < k_75 → (q9 ≤ dk) → (∀ x, tx x = rs_cn dn x q9) → lv_has ls 2 [(0, .ref (q 0)), (1, .int (nI q9))] → va_P D vwCl (wM aI aJ aL q dd dp dk dx dy dw dn dd tx pz tk nn vn vt po vl ea la) H → va_D A (wM aI aJ aL q dd dp dk dx dy dw dn dd tx pz tk nn vn vt po vl ea la) → va_S A s.heap H locs → W p l e rm_X4_finish s m args below meth c H locs 0 0 Q (F0 m 75 ls []) := by
                intro k_75
                induction k_75 with
                | zero => intro q9 tx H locs ls hk_75; exact absurd hk_75 (Nat.not_lt_zero _)
                | succ k_75 ih_75 =>
                  intro q9 tx H locs ls hk_75 hq htx hl hP hD hS
                  refine lv_iload_n hx hb dX4_finish_75 rfl (lv_at hl 1 rfl) ?_
                  refine lv_aload_n hx hb dX4_finish_76 rfl (lv_at hl 0 rfl) ?_
                  refine va_get hx hb hts inX4 hown hK hP 0 (ci := 4) (C := RX4) (T := TX4) (N := 18) rfl rfl 2 (by decide) (hts _ rw_393) (fun _ h => h) (v := .int (nI dk)) rfl dX4_finish_77 ?_
                  refine lv_icmp_ge hx hb dX4_finish_80 (tgt := 104) rfl (fun h_80 => ?_) (fun h_80 => ?_)
                  · have h_80 : dk ≤ q9 := (nI_leI (by omega) (by omega)).1 h_80
                    have hq9 : tx = fun x => rs_cn dn x dk := funext (fun x => by rw [htx x, show q9 = dk by omega])
                    subst hq9
                    refine lv_aload_n hx hb dX4_finish_104 rfl (lv_at hl 0 rfl) ?_
                    refine rs_cVV (rest := []) (wr := []) (ws' := fun u_105 => wM aI aJ aL q dd dp dk dx dy dw dn dd (fun x => rs_cn dn x dk) pz u_105.1 (rs_cu dd (fun x => rs_cn dn x dk) 6) vn vt po vl ea la) ⟨hx, hb, hml, hown, hts⟩ (c_X4_layKnots l D aI aJ aL _ q dd dp dk dx dy dw dn dd (fun x => rs_cn dn x dk) pz tk nn vn vt po vl ea la hd3 htk (rs_c7_b hd3 hcn)) (cwV 0 hts (rs_gV rw_462 rw_464 rv_13 rw_5 rw_465) rfl rfl rfl (by decide +kernel) ⟨Nat.le_of_ble_eq_true rfl, Nat.le_of_ble_eq_true rfl⟩) hK hN hP hD hS hA [0, 1, 2, 3, 4, 5, 6, 7, 8, 9, 10, 11, 12] [] [0, 1, 2, 3, 4, 5, 6, 7, 8, 9, 10, 11, 12] (by decide) rfl rfl (fun _ => rfl) 0 rfl rfl hl.1 rfl rfl (Nat.le_of_ble_eq_true rfl) dX4_finish_105 ⟨Nat.le_refl _, Nat.le_refl _⟩ (fun u_105 H locs hP hD hS => ?_)
                    have hP : va_P D vwCl (wM aI aJ aL q dd dp dk dx dy dw dn dd (fun x => rs_cn dn x dk) pz u_105.1 (rs_cu dd (fun x => rs_cn dn x dk) 6) vn vt po vl ea la) H := hP
                    have hD : va_D A (wM aI aJ aL q dd dp dk dx dy dw dn dd (fun x => rs_cn dn x dk) pz u_105.1 (rs_cu dd (fun x => rs_cn dn x dk) 6) vn vt po vl ea la) := hD
                    have hn1 := rs_cu6_b hd3 hcn
                    have hn2 : dd + 1 ≤ rs_cu dd (fun x => rs_cn dn x dk) 6 := rs_cu_mono dd (fun x => rs_cn dn x dk) (a := 1) (b := 6) (by decide)
                    refine lv_iconst hx hb dX4_finish_108 (v := nI 0) (by decide) ?_
                    refine lv_istore_n hx hb dX4_finish_109 rfl hl (lv' := [(1, .int (nI 0)), (0, .ref (q 0))]) (by decide) rfl (fun ls hl => ?_)
                    have L_110 : ∀ (k_110 : Nat) (j : Nat) (po : Nat → Int64) (pz : Nat → Int64) (H : Heap) (locs : List Loc) (ls : Array Slot), 6 - j < k_110 → (j ≤ 6) → (rs_PV (fun i b f => rs_pv u_105.1 dd (rs_cu dd (fun x => rs_cn dn x dk) 6) dx dy dw i b f) pz j) → lv_has ls 2 [(0, .ref (q 0)), (1, .int (nI j))] → va_P D vwCl (wM aI aJ aL q dd dp dk dx dy dw dn dd (fun x => rs_cn dn x dk) pz u_105.1 (rs_cu dd (fun x => rs_cn dn x dk) 6) vn vt po vl ea la) H → va_D A (wM aI aJ aL q dd dp dk dx dy dw dn dd (fun x => rs_cn dn x dk) pz u_105.1 (rs_cu dd (fun x => rs_cn dn x dk) 6) vn vt po vl ea la) → va_S A s.heap H locs → W p l e rm_X4_finish s m args below meth c H locs 0 0 Q (F0 m 110 ls []) := by
                      intro k_110
                      induction k_110 with
                      | zero => intro j po pz H locs ls hk_110; exact absurd hk_110 (Nat.not_lt_zero _)
                      | succ k_110 ih_110 =>
                        intro j po pz H locs ls hk_110 hj hV hl hP hD hS
                        refine lv_iload_n hx hb dX4_finish_110 rfl (lv_at hl 1 rfl) ?_
                        refine lv_bipush hx hb dX4_finish_111 (v := nI 6) (by decide) ?_
                        refine lv_icmp_ge hx hb dX4_finish_113 (tgt := 127) rfl (fun h_113 => ?_) (fun h_113 => ?_)
                        · have h_113 : 6 ≤ j := (nI_leI (by omega) (by omega)).1 h_113
                          refine lv_aload_n hx hb dX4_finish_127 rfl (lv_at hl 0 rfl) ?_
                          refine lv_iconst hx hb dX4_finish_128 (v := nI 0) (by decide) ?_
                          refine va_put hx hb hts inX4 (ty0 := tyX4) tyX4_ok nmX4 hown hK hP hD hS 0 (ci := 4) (C := RX4) (T := TX4) (N := 18) rfl rfl 0 (by decide) (hts _ rw_391) (fun _ h => h) rfl (ty := .int) (by decide +kernel) rfl rfl (Nat.le_of_ble_eq_true rfl) dX4_finish_129 (fun H locs hP hD hS => ?_)
                          have hP : va_P D vwCl (wM aI aJ aL q 0 dp dk dx dy dw dn dd (fun x => rs_cn dn x dk) pz u_105.1 (rs_cu dd (fun x => rs_cn dn x dk) 6) vn vt po vl ea la) H := hP
                          have hD : va_D A (wM aI aJ aL q 0 dp dk dx dy dw dn dd (fun x => rs_cn dn x dk) pz u_105.1 (rs_cu dd (fun x => rs_cn dn x dk) 6) vn vt po vl ea la) := hD
                          refine lv_aload_n hx hb dX4_finish_132 rfl (lv_at hl 0 rfl) ?_
                          refine lv_iconst hx hb dX4_finish_133 (v := nI 0) (by decide) ?_
                          refine va_put hx hb hts inX4 (ty0 := tyX4) tyX4_ok nmX4 hown hK hP hD hS 0 (ci := 4) (C := RX4) (T := TX4) (N := 18) rfl rfl 12 (by decide) (hts _ rw_403) (fun _ h => h) rfl (ty := .int) (by decide +kernel) rfl rfl (Nat.le_of_ble_eq_true rfl) dX4_finish_134 (fun H locs hP hD hS => ?_)
                          have hP : va_P D vwCl (wM aI aJ aL q 0 dp dk dx dy dw dn dd (fun x => rs_cn dn x dk) pz u_105.1 (rs_cu dd (fun x => rs_cn dn x dk) 6) 0 vt po vl ea la) H := hP
                          have hD : va_D A (wM aI aJ aL q 0 dp dk dx dy dw dn dd (fun x => rs_cn dn x dk) pz u_105.1 (rs_cu dd (fun x => rs_cn dn x dk) 6) 0 vt po vl ea la) := hD
                          refine lv_iconst hx hb dX4_finish_137 (v := nI 0) (by decide) ?_
                          exact rs_iret ⟨(u_105.1, po, pz), u_105.2.1, u_105.2.2, by have h9 : j = 6 := (by omega); subst h9; exact hV⟩ hx hb hr hlk hQ hK hP hD hS rfl rfl rfl dX4_finish_138
                        · have h_113 : j < 6 := Nat.lt_of_not_le (fun z => h_113 ((nI_leI (by omega) (by omega)).2 z))
                          refine lv_aload_n hx hb dX4_finish_116 rfl (lv_at hl 0 rfl) ?_
                          refine lv_iload_n hx hb dX4_finish_117 rfl (lv_at hl 1 rfl) ?_
                          refine rs_cVV (rest := []) (wr := []) (ws' := fun u_118 => wM aI aJ aL q dd dp dk dx dy dw dn dd (fun x => rs_cn dn x dk) u_118.1.2 u_105.1 (rs_cu dd (fun x => rs_cn dn x dk) 6) vn vt u_118.1.1 vl ea la) ⟨hx, hb, hml, hown, hts⟩ (c_X4_makePiece l D aI aJ aL _ q dd dp dk dx dy dw dn dd (fun x => rs_cn dn x dk) pz u_105.1 (rs_cu dd (fun x => rs_cn dn x dk) 6) vn vt po vl ea la j hd1 hd3 hn1 hn2 u_105.2.2 (by omega)) (cwV 1 hts (rs_gV rw_466 rw_468 rv_14 rw_5 rw_469) rfl rfl rfl (by decide +kernel) ⟨Nat.le_of_ble_eq_true rfl, Nat.le_of_ble_eq_true rfl⟩) hK hN hP hD hS hA [0, 1, 2, 3, 4, 5, 6, 7, 8, 9, 10, 11, 12] [] [0, 1, 2, 3, 4, 5, 6, 7, 8, 9, 10, 11, 12] (by decide) rfl rfl (fun _ => rfl) 0 rfl rfl hl.1 rfl rfl (Nat.le_of_ble_eq_true rfl) dX4_finish_118 ⟨Nat.le_refl _, Nat.le_refl _⟩ (fun u_118 H locs hP hD hS => ?_)
                          have hP : va_P D vwCl (wM aI aJ aL q dd dp dk dx dy dw dn dd (fun x => rs_cn dn x dk) u_118.1.2 u_105.1 (rs_cu dd (fun x => rs_cn dn x dk) 6) vn vt u_118.1.1 vl ea la) H := hP
                          have hD : va_D A (wM aI aJ aL q dd dp dk dx dy dw dn dd (fun x => rs_cn dn x dk) u_118.1.2 u_105.1 (rs_cu dd (fun x => rs_cn dn x dk) 6) vn vt u_118.1.1 vl ea la) := hD
                          refine lv_iinc hx hb dX4_finish_121 hl (k := 1) rfl (v := nI (j + 1)) (rs_inc _ _) (by decide) (lv' := [(1, .int (nI (j + 1))), (0, .ref (q 0))]) rfl (fun ls hl => ?_)
                          refine lv_goto hx hb dX4_finish_124 (tgt := 110) rfl ?_
                          exact ih_110 (j + 1) _ _ _ _ _ (by omega) (by omega) (hV.up (by omega) u_118.2) (lv_sub hl [1, 0] rfl) hP hD hS
                    exact L_110 ((6 - 0) + 1) 0 po pz _ _ _ (Nat.lt_succ_self _) (Nat.zero_le _) (fun b i f _ h _ => absurd h (Nat.not_lt_zero _)) (lv_sub hl [1, 0] rfl) hP hD hS
                  · have h_80 : q9 < dk := Nat.lt_of_not_le (fun z => h_80 ((nI_leI (by omega) (by omega)).2 z))
                    refine lv_aload_n hx hb dX4_finish_83 rfl (lv_at hl 0 rfl) ?_
                    refine va_get hx hb hts inX4 hown hK hP 0 (ci := 4) (C := RX4) (T := TX4) (N := 18) rfl rfl 8 (by decide) (hts _ rw_399) (fun _ h => h) (v := .ref (q 5)) rfl dX4_finish_84 ?_
                    refine lv_aload_n hx hb dX4_finish_87 rfl (lv_at hl 0 rfl) ?_
                    refine va_get hx hb hts inX4 hown hK hP 0 (ci := 4) (C := RX4) (T := TX4) (N := 18) rfl rfl 6 (by decide) (hts _ rw_397) (fun _ h => h) (v := .ref (q 4)) rfl dX4_finish_88 ?_
                    refine lv_iload_n hx hb dX4_finish_91 rfl (lv_at hl 1 rfl) ?_
                    refine rs_iald hx hb hK hP 4 0 rfl rfl (i := q9) (by omega) (by decide) (v := nI (dn q9)) rfl dX4_finish_92 ?_
                    have hb7 := hdn q9
                    have hb8 := htx (dn q9)
                    have hb9 := rs_cn_le dn (dn q9) q9
                    refine lv_dup2_11 hx hb dX4_finish_93 rfl rfl ?_
                    refine rs_iald hx hb hK hP 5 0 rfl rfl (i := (dn q9)) (by omega) (by decide) (v := nI (tx (dn q9))) rfl dX4_finish_94 ?_
                    refine lv_iconst hx hb dX4_finish_95 (v := nI 1) (by decide) ?_
                    refine rs_iadd hx hb dX4_finish_96 (v := nI ((tx (dn q9)) + 1)) (nI_add _ _) ?_
                    refine rs_iast hx hb hK hP hD hS 5 0 rfl rfl (i := (dn q9)) (by omega) (by decide) (rs_upI _ _ _) dX4_finish_97 (ws' := wM aI aJ aL q dd dp dk dx dy dw dn dd (rs_up tx (dn q9) ((tx (dn q9)) + 1)) pz tk nn vn vt po vl ea la) rfl (fun H locs hP hD hS => ?_)
                    refine lv_iinc hx hb dX4_finish_98 hl (k := 1) rfl (v := nI (q9 + 1)) (rs_inc _ _) (by decide) (lv' := [(1, .int (nI (q9 + 1))), (0, .ref (q 0))]) rfl (fun ls hl => ?_)
                    refine lv_goto hx hb dX4_finish_101 (tgt := 75) rfl ?_
                    exact ih_75 (q9 + 1) _ _ _ _ (by omega) (by omega) (rs_cn_s htx) (lv_sub hl [1, 0] rfl) hP hD hS
              exact L_75 ((dk - 0) + 1) 0 _ _ _ _ (Nat.lt_succ_self _) (Nat.zero_le _) (fun x => hz x (by omega)) (lv_sub hl [1, 0] rfl) hP hD hS
            · have h_57 : k < 7 := Nat.lt_of_not_le (fun z => h_57 ((nI_leI (by omega) (by omega)).2 z))
              refine lv_aload_n hx hb dX4_finish_60 rfl (lv_at hl 0 rfl) ?_
              refine va_get hx hb hts inX4 hown hK hP 0 (ci := 4) (C := RX4) (T := TX4) (N := 18) rfl rfl 8 (by decide) (hts _ rw_399) (fun _ h => h) (v := .ref (q 5)) rfl dX4_finish_61 ?_
              refine lv_iload_n hx hb dX4_finish_64 rfl (lv_at hl 1 rfl) ?_
              refine lv_iconst hx hb dX4_finish_65 (v := nI 0) (by decide) ?_
              refine rs_iast hx hb hK hP hD hS 5 0 rfl rfl (i := k) (by omega) (by decide) (rs_upI _ _ _) dX4_finish_66 (ws' := wM aI aJ aL q dd dp dk dx dy dw dn dd (rs_up tx k 0) pz tk nn vn vt po vl ea la) rfl (fun H locs hP hD hS => ?_)
              refine lv_iinc hx hb dX4_finish_67 hl (k := 1) rfl (v := nI (k + 1)) (rs_inc _ _) (by decide) (lv' := [(1, .int (nI (k + 1))), (0, .ref (q 0))]) rfl (fun ls hl => ?_)
              refine lv_goto hx hb dX4_finish_70 (tgt := 54) rfl ?_
              exact ih_54 (k + 1) _ _ _ _ (by omega) (by omega) (rs_cn_z hz) (lv_sub hl [1, 0] rfl) hP hD hS
        exact L_54 ((7 - 0) + 1) 0 tm _ _ _ (Nat.lt_succ_self _) (Nat.zero_le _) (fun x hx => h7 x (by omega)) (lv_sub hl [1, 0] rfl) hP hD hS
      · have h_39 : ¬ dk = ((dp - dd) - 1) := fun z => h_39 ((nI_eq (by omega) (by omega)).2 z)
        omega
    · have h_19 : dp < (dd + 1) := Nat.lt_of_not_le (fun z => h_19 ((nI_leI (by omega) (by omega)).2 z))
      omega
  · have h_4 : dd = 0 := rs_z1 (by omega) h_4
    omega

def rm_X4_finishF : Room := { frames := 3, cells := 0, slots := 0, locals := 263 }
set_option maxHeartbeats 4000000 in
set_option maxRecDepth 100000 in
theorem c_X4_finishF (l : Launch) (D : va_G) (aI aJ aL : ClassId) (sz : Nat) (q : Nat → Nat) (dd : Nat) (dp : Nat) (dk : Nat) (dx : Nat → Int32) (dy : Nat → Int32) (dw : Nat → Int32) (dn : Nat → Nat) (g : Nat) (tm : Nat → Nat) (pz : Nat → Int64) (tk : Nat → Nat) (nn : Nat) (vn : Nat) (vt : Nat → Nat) (po : Nat → Int64) (vl : Nat → Int64) (ea : Nat → Nat) (la : Nat → Nat) (hd3 : dd ≤ 3) (hdp : dp ≤ 19) (hdk : dk ≤ 15) (hF : ¬ rs_fault dd dp dk = 0) : rs_MI (S := Unit) l yX4_finish (Cond.code yX4_finish prog_6_method_5_code 2 (some .int) :: rsW) rm_X4_finishF D vwCl (rs_tys aI aJ aL) rs_nw [.ref (q 0)] (wM aI aJ aL q dd dp dk dx dy dw dn g tm pz tk nn vn vt po vl ea la) sz (rs_fault dd dp dk) (fun uu => wM aI aJ aL q dd dp dk dx dy dw dn g tm pz tk nn vn vt po vl ea la) := by
  refine rs_ent (cc := cX4_finish) (maxL := 2) (ret := some .int) (Qc := rs_QI D vwCl _ _ _) (by decide) rfl (Nat.le_of_ble_eq_true rfl) ?_
  intro p e s m args below meth c ls A Q hx hb hr hml hlk hts hown hin hK hN hP hD hS hA hQ hl
  have hl : lv_has ls 2 [(0, .ref (q 0))] := hl
  refine lv_aload_n hx hb dX4_finish_0 rfl (lv_at hl 0 rfl) ?_
  refine va_get hx hb hts inX4 hown hK hP 0 (ci := 4) (C := RX4) (T := TX4) (N := 18) rfl rfl 0 (by decide) (hts _ rw_391) (fun _ h => h) (v := .int (nI dd)) rfl dX4_finish_1 ?_
  refine lv_if_ne hx hb dX4_finish_4 (tgt := 9) rfl (fun h_4 => ?_) (fun h_4 => ?_)
  · have h_4 : 0 < dd := rs_z2 (by omega) h_4
    refine lv_aload_n hx hb dX4_finish_9 rfl (lv_at hl 0 rfl) ?_
    refine va_get hx hb hts inX4 hown hK hP 0 (ci := 4) (C := RX4) (T := TX4) (N := 18) rfl rfl 1 (by decide) (hts _ rw_392) (fun _ h => h) (v := .int (nI dp)) rfl dX4_finish_10 ?_
    refine lv_aload_n hx hb dX4_finish_13 rfl (lv_at hl 0 rfl) ?_
    refine va_get hx hb hts inX4 hown hK hP 0 (ci := 4) (C := RX4) (T := TX4) (N := 18) rfl rfl 0 (by decide) (hts _ rw_391) (fun _ h => h) (v := .int (nI dd)) rfl dX4_finish_14 ?_
    refine lv_iconst hx hb dX4_finish_17 (v := nI 1) (by decide) ?_
    refine rs_iadd hx hb dX4_finish_18 (v := nI (dd + 1)) (nI_add _ _) ?_
    refine lv_icmp_ge hx hb dX4_finish_19 (tgt := 24) rfl (fun h_19 => ?_) (fun h_19 => ?_)
    · have h_19 : (dd + 1) ≤ dp := (nI_leI (by omega) (by omega)).1 h_19
      refine lv_aload_n hx hb dX4_finish_24 rfl (lv_at hl 0 rfl) ?_
      refine va_get hx hb hts inX4 hown hK hP 0 (ci := 4) (C := RX4) (T := TX4) (N := 18) rfl rfl 2 (by decide) (hts _ rw_393) (fun _ h => h) (v := .int (nI dk)) rfl dX4_finish_25 ?_
      refine lv_aload_n hx hb dX4_finish_28 rfl (lv_at hl 0 rfl) ?_
      refine va_get hx hb hts inX4 hown hK hP 0 (ci := 4) (C := RX4) (T := TX4) (N := 18) rfl rfl 1 (by decide) (hts _ rw_392) (fun _ h => h) (v := .int (nI dp)) rfl dX4_finish_29 ?_
      refine lv_aload_n hx hb dX4_finish_32 rfl (lv_at hl 0 rfl) ?_
      refine va_get hx hb hts inX4 hown hK hP 0 (ci := 4) (C := RX4) (T := TX4) (N := 18) rfl rfl 0 (by decide) (hts _ rw_391) (fun _ h => h) (v := .int (nI dd)) rfl dX4_finish_33 ?_
      refine rs_isub hx hb dX4_finish_36 (v := nI (dp - dd)) (pk_sub (by omega)) ?_
      refine lv_iconst hx hb dX4_finish_37 (v := nI 1) (by decide) ?_
      refine rs_isub hx hb dX4_finish_38 (v := nI ((dp - dd) - 1)) (pk_sub (by omega)) ?_
      refine lv_icmp_eq hx hb dX4_finish_39 (tgt := 44) rfl (fun h_39 => ?_) (fun h_39 => ?_)
      · have h_39 : dk = ((dp - dd) - 1) := (nI_eq (by omega) (by omega)).1 h_39
        exact absurd ((if_neg (by omega)).trans ((if_neg (by omega)).trans (if_pos h_39))) hF
      · have h_39 : ¬ dk = ((dp - dd) - 1) := fun z => h_39 ((nI_eq (by omega) (by omega)).2 z)
        refine lv_iconst hx hb dX4_finish_42 (v := nI 3) (by decide) ?_
        exact rs_iret () hx hb hr hlk hQ hK hP hD hS rfl ((if_neg (by omega)).trans ((if_neg (by omega)).trans (if_neg h_39))).symm rfl dX4_finish_43
    · have h_19 : dp < (dd + 1) := Nat.lt_of_not_le (fun z => h_19 ((nI_leI (by omega) (by omega)).2 z))
      refine lv_iconst hx hb dX4_finish_22 (v := nI 2) (by decide) ?_
      exact rs_iret () hx hb hr hlk hQ hK hP hD hS rfl ((if_neg (by omega)).trans (if_pos h_19)).symm rfl dX4_finish_23
  · have h_4 : dd = 0 := rs_z1 (by omega) h_4
    refine lv_iconst hx hb dX4_finish_7 (v := nI 1) (by decide) ?_
    exact rs_iret () hx hb hr hlk hQ hK hP hD hS rfl (if_pos h_4).symm rfl dX4_finish_8

def rm_X4_straight : Room := { frames := 3, cells := 0, slots := 0, locals := 247 }
set_option maxHeartbeats 4000000 in
set_option maxRecDepth 100000 in
theorem c_X4_straight (l : Launch) (D : va_G) (aI aJ aL : ClassId) (sz : Nat) (q : Nat → Nat) (dd : Nat) (dp : Nat) (dk : Nat) (dx : Nat → Int32) (dy : Nat → Int32) (dw : Nat → Int32) (dn : Nat → Nat) (g : Nat) (tm : Nat → Nat) (pz : Nat → Int64) (tk : Nat → Nat) (nn : Nat) (vn : Nat) (vt : Nat → Nat) (po : Nat → Int64) (vl : Nat → Int64) (ea : Nat → Nat) (la : Nat → Nat) (a : Nat) (b : Nat) (how : Int32) (tol : Int32) (hg1 : 1 ≤ g) (hg : g ≤ 3) (ha : a ≤ 360) (hb9 : b ≤ 360) (hne : ∀ u, u ≤ 360 → ¬ rs_pa pz 2 (rs_lj u) (lN (u - 60 * rs_lj u)) = 0) : rs_MI (S := Unit) l yX4_straight (Cond.code yX4_straight prog_6_method_29_code 11 (some .boolean) :: rsW) rm_X4_straight D vwCl (rs_tys aI aJ aL) rs_nw [.ref (q 0), .int (nI a), .int (nI b), .int how, .int tol] (wM aI aJ aL q dd dp dk dx dy dw dn g tm pz tk nn vn vt po vl ea la) sz (nI (rs_sa pz how tol a b 2)) (fun uu => wM aI aJ aL q dd dp dk dx dy dw dn g tm pz tk nn vn vt po vl ea la) := by
  refine rs_ent (cc := cX4_straight) (maxL := 11) (ret := some .boolean) (Qc := rs_QI D vwCl _ _ _) (by decide) rfl (Nat.le_of_ble_eq_true rfl) ?_
  intro p e s m args below meth c ls A Q hx hb hr hml hlk hts hown hin hK hN hP hD hS hA hQ hl
  have hl : lv_has ls 11 [(0, .ref (q 0)), (1, .int (nI a)), (2, .int (nI b)), (3, .int how), (4, .int tol)] := hl
  refine lv_iconst hx hb dX4_straight_0 (v := nI 1) (by decide) ?_
  refine lv_istore hx hb dX4_straight_1 hl (lv' := [(5, .int (nI 1)), (0, .ref (q 0)), (1, .int (nI a)), (2, .int (nI b)), (3, .int how), (4, .int tol)]) (by decide) rfl (fun ls hl => ?_)
  refine lv_iconst hx hb dX4_straight_3 (v := nI 0) (by decide) ?_
  refine lv_istore hx hb dX4_straight_4 hl (lv' := [(6, .int (nI 0)), (5, .int (nI 1)), (0, .ref (q 0)), (1, .int (nI a)), (2, .int (nI b)), (3, .int how), (4, .int tol)]) (by decide) rfl (fun ls hl => ?_)
  have L_6 : ∀ (k_6 : Nat) (ax : Nat) (al : Nat) (H : Heap) (locs : List Loc) (ls : Array Slot), 2 - ax < k_6 → (ax ≤ 2) → (al = rs_sa pz how tol a b ax) → lv_has ls 11 [(0, .ref (q 0)), (1, .int (nI a)), (2, .int (nI b)), (3, .int how), (4, .int tol), (5, .int (nI al)), (6, .int (nI ax))] → va_P D vwCl (wM aI aJ aL q dd dp dk dx dy dw dn g tm pz tk nn vn vt po vl ea la) H → va_D A (wM aI aJ aL q dd dp dk dx dy dw dn g tm pz tk nn vn vt po vl ea la) → va_S A s.heap H locs → W p l e rm_X4_straight s m args below meth c H locs 0 0 Q (F0 m 6 ls []) := by
    intro k_6
    induction k_6 with
    | zero => intro ax al H locs ls hk_6; exact absurd hk_6 (Nat.not_lt_zero _)
    | succ k_6 ih_6 =>
      intro ax al H locs ls hk_6 hax hal hl hP hD hS
      refine lv_iload hx hb dX4_straight_6 (lv_at hl 6 rfl) ?_
      refine lv_iconst hx hb dX4_straight_8 (v := nI 2) (by decide) ?_
      refine lv_icmp_ge hx hb dX4_straight_9 (tgt := 100) rfl (fun h_9 => ?_) (fun h_9 => ?_)
      · have h_9 : 2 ≤ ax := (nI_leI (by omega) (by omega)).1 h_9
        refine lv_iload hx hb dX4_straight_100 (lv_at hl 5 rfl) ?_
        exact rs_iret () hx hb hr hlk hQ hK hP hD hS (by rw [hal]; exact rs_sa_n _ _ _ _ _ _) (by rw [hal, show ax = 2 by omega]) rfl dX4_straight_102
      · have h_9 : ax < 2 := Nat.lt_of_not_le (fun z => h_9 ((nI_leI (by omega) (by omega)).2 z))
        refine lv_aload_n hx hb dX4_straight_12 rfl (lv_at hl 0 rfl) ?_
        refine lv_iload_n hx hb dX4_straight_13 rfl (lv_at hl 1 rfl) ?_
        refine lv_iload hx hb dX4_straight_14 (lv_at hl 6 rfl) ?_
        refine rs_cVI (rest := []) (wr := []) (ws' := fun u_16 => wM aI aJ aL q dd dp dk dx dy dw dn g tm pz tk nn vn vt po vl ea la) ⟨hx, hb, hml, hown, hts⟩ (c_X4_locate l D aI aJ aL _ q dd dp dk dx dy dw dn g tm pz tk nn vn vt po vl ea la a ax hg1 hg (by omega) (by omega) (hne _ (by omega))) (cwV 2 hts (rs_gV rw_574 rw_552 rw_553 rw_5 rw_554) rfl rfl rfl (by decide +kernel) ⟨Nat.le_of_ble_eq_true rfl, Nat.le_of_ble_eq_true rfl⟩) hK hN hP hD hS hA [0, 1, 2, 3, 4, 5, 6, 7, 8, 9, 10, 11, 12] [] [0, 1, 2, 3, 4, 5, 6, 7, 8, 9, 10, 11, 12] (by decide) rfl rfl (fun _ => rfl) 0 rfl rfl hl.1 rfl rfl (Nat.le_of_ble_eq_true rfl) dX4_straight_16 ⟨Nat.le_refl _, Nat.le_refl _⟩ (fun u_16 H locs hP hD hS => ?_)
        have hP : va_P D vwCl (wM aI aJ aL q dd dp dk dx dy dw dn g tm pz tk nn vn vt po vl ea la) H := hP
        have hD : va_D A (wM aI aJ aL q dd dp dk dx dy dw dn g tm pz tk nn vn vt po vl ea la) := hD
        refine lv_istore hx hb dX4_straight_19 hl (lv' := [(7, .int (rs_loc pz ax a)), (0, .ref (q 0)), (1, .int (nI a)), (2, .int (nI b)), (3, .int how), (4, .int tol), (5, .int (nI al)), (6, .int (nI ax))]) (by decide) rfl (fun ls hl => ?_)
        refine lv_aload_n hx hb dX4_straight_21 rfl (lv_at hl 1 rfl) ?_
        refine lv_iload_n hx hb dX4_straight_22 rfl (lv_at hl 3 rfl) ?_
        refine lv_iload hx hb dX4_straight_23 (lv_at hl 7 rfl) ?_
        refine rs_cVI (rest := []) (wr := []) (ws' := fun u_25 => wM aI aJ aL q dd dp dk dx dy dw dn g tm pz tk nn vn vt po vl ea la) ⟨hx, hb, hml, hown, hts⟩ (c_X4_locate l D aI aJ aL _ q dd dp dk dx dy dw dn g tm pz tk nn vn vt po vl ea la b ax hg1 hg (by omega) (by omega) (hne _ (by omega))) (cwV 2 hts (rs_gV rw_574 rw_552 rw_553 rw_5 rw_554) rfl rfl rfl (by decide +kernel) ⟨Nat.le_of_ble_eq_true rfl, Nat.le_of_ble_eq_true rfl⟩) hK hN hP hD hS hA [0, 1, 2, 3, 4, 5, 6, 7, 8, 9, 10, 11, 12] [] [0, 1, 2, 3, 4, 5, 6, 7, 8, 9, 10, 11, 12] (by decide) rfl rfl (fun _ => rfl) 0 rfl rfl hl.1 rfl rfl (Nat.le_of_ble_eq_true rfl) dX4_straight_25 ⟨Nat.le_refl _, Nat.le_refl _⟩ (fun u_25 H locs hP hD hS => ?_)
        have hP : va_P D vwCl (wM aI aJ aL q dd dp dk dx dy dw dn g tm pz tk nn vn vt po vl ea la) H := hP
        have hD : va_D A (wM aI aJ aL q dd dp dk dx dy dw dn g tm pz tk nn vn vt po vl ea la) := hD
        refine lv_istore hx hb dX4_straight_28 hl (lv' := [(8, .int (rs_loc pz ax b)), (7, .int (rs_loc pz ax a)), (0, .ref (q 0)), (1, .int (nI a)), (2, .int (nI b)), (3, .int how), (4, .int tol), (5, .int (nI al)), (6, .int (nI ax))]) (by decide) rfl (fun ls hl => ?_)
        refine lv_aload_n hx hb dX4_straight_30 rfl (lv_at hl 2 rfl) ?_
        refine lv_iload_n hx hb dX4_straight_31 rfl (lv_at hl 3 rfl) ?_
        refine lv_iload_n hx hb dX4_straight_32 rfl (lv_at hl 4 rfl) ?_
        refine rs_iadd hx hb dX4_straight_33 (v := nI (a + b)) (nI_add _ _) ?_
        refine lv_iconst hx hb dX4_straight_34 (v := nI 2) (by decide) ?_
        refine rs_idiv hx hb dX4_straight_35 (nI_ne0 (by omega) (by omega)) (v := nI ((a + b) / 2)) (pk_div (by omega) (by omega) (by omega)) ?_
        refine lv_iload hx hb dX4_straight_36 (lv_at hl 8 rfl) ?_
        refine rs_cVI (rest := []) (wr := []) (ws' := fun u_38 => wM aI aJ aL q dd dp dk dx dy dw dn g tm pz tk nn vn vt po vl ea la) ⟨hx, hb, hml, hown, hts⟩ (c_X4_locate l D aI aJ aL _ q dd dp dk dx dy dw dn g tm pz tk nn vn vt po vl ea la ((a + b) / 2) ax hg1 hg (by omega) (by omega) (hne _ (by omega))) (cwV 2 hts (rs_gV rw_574 rw_552 rw_553 rw_5 rw_554) rfl rfl rfl (by decide +kernel) ⟨Nat.le_of_ble_eq_true rfl, Nat.le_of_ble_eq_true rfl⟩) hK hN hP hD hS hA [0, 1, 2, 3, 4, 5, 6, 7, 8, 9, 10, 11, 12] [] [0, 1, 2, 3, 4, 5, 6, 7, 8, 9, 10, 11, 12] (by decide) rfl rfl (fun _ => rfl) 0 rfl rfl hl.1 rfl rfl (Nat.le_of_ble_eq_true rfl) dX4_straight_38 ⟨Nat.le_refl _, Nat.le_refl _⟩ (fun u_38 H locs hP hD hS => ?_)
        have hP : va_P D vwCl (wM aI aJ aL q dd dp dk dx dy dw dn g tm pz tk nn vn vt po vl ea la) H := hP
        have hD : va_D A (wM aI aJ aL q dd dp dk dx dy dw dn g tm pz tk nn vn vt po vl ea la) := hD
        refine lv_istore hx hb dX4_straight_41 hl (lv' := [(9, .int (rs_loc pz ax ((a + b) / 2))), (8, .int (rs_loc pz ax b)), (7, .int (rs_loc pz ax a)), (0, .ref (q 0)), (1, .int (nI a)), (2, .int (nI b)), (3, .int how), (4, .int tol), (5, .int (nI al)), (6, .int (nI ax))]) (by decide) rfl (fun ls hl => ?_)
        refine lv_iload_n hx hb dX4_straight_43 rfl (lv_at hl 6 rfl) ?_
        have L_65 : ∀ (far : Int32) (H : Heap) (locs : List Loc) (ls : Array Slot), (far = rs_far pz how a b ax) → lv_has ls 11 [(0, .ref (q 0)), (1, .int (nI a)), (2, .int (nI b)), (3, .int how), (4, .int tol), (5, .int (nI al)), (6, .int (nI ax))] → va_P D vwCl (wM aI aJ aL q dd dp dk dx dy dw dn g tm pz tk nn vn vt po vl ea la) H → va_D A (wM aI aJ aL q dd dp dk dx dy dw dn g tm pz tk nn vn vt po vl ea la) → va_S A s.heap H locs → W p l e rm_X4_straight s m args below meth c H locs 0 0 Q (F0 m 65 ls [.int far]) := by
          intro far H locs ls hfar hl hP hD hS
          have hal1 := rs_fo_b hal
          refine lv_istore hx hb dX4_straight_65 hl (lv' := [(10, .int far), (0, .ref (q 0)), (1, .int (nI a)), (2, .int (nI b)), (3, .int how), (4, .int tol), (5, .int (nI al)), (6, .int (nI ax))]) (by decide) rfl (fun ls hl => ?_)
          refine lv_iload hx hb dX4_straight_67 (lv_at hl 6 rfl) ?_
          refine lv_if_eq hx hb dX4_straight_69 (tgt := 91) rfl (fun h_69 => ?_) (fun h_69 => ?_)
          · have h_69 : al = 0 := rs_z1 (by omega) h_69
            refine lv_iconst hx hb dX4_straight_91 (v := nI 0) (by decide) ?_
            refine lv_istore hx hb dX4_straight_92 hl (lv' := [(5, .int (nI 0)), (10, .int far), (0, .ref (q 0)), (1, .int (nI a)), (2, .int (nI b)), (3, .int how), (4, .int tol), (6, .int (nI ax))]) (by decide) rfl (fun ls hl => ?_)
            refine lv_iinc hx hb dX4_straight_94 hl (k := 7) rfl (v := nI (ax + 1)) (rs_inc _ _) (by decide) (lv' := [(6, .int (nI (ax + 1))), (5, .int (nI 0)), (10, .int far), (0, .ref (q 0)), (1, .int (nI a)), (2, .int (nI b)), (3, .int how), (4, .int tol)]) rfl (fun ls hl => ?_)
            refine lv_goto hx hb dX4_straight_97 (tgt := 6) rfl ?_
            exact ih_6 (ax + 1) _ _ _ _ (by omega) (by omega) (by first | exact rs_fo_z hal h_69 | exact rs_fo_n (fun z => Int32.not_le.mpr h_76 (by rw [hfar]; exact z.1)) | exact rs_fo_n (fun z => Int32.not_le.mpr h_84 (by rw [hfar]; exact z.2)) | exact rs_fo_y hal h_69 ⟨by rw [← hfar]; exact Int32.not_lt.mp h_76, by rw [← hfar]; exact Int32.not_lt.mp h_84⟩) (lv_sub hl [3, 4, 5, 6, 7, 1, 0] rfl) hP hD hS
          · have h_69 : 0 < al := rs_z2 (by omega) h_69
            refine lv_iload hx hb dX4_straight_72 (lv_at hl 0 rfl) ?_
            refine lv_iload hx hb dX4_straight_74 (lv_at hl 5 rfl) ?_
            refine lv_icmp_gt hx hb dX4_straight_76 (tgt := 91) rfl (fun h_76 => ?_) (fun h_76 => ?_)
            · skip
              refine lv_iconst hx hb dX4_straight_91 (v := nI 0) (by decide) ?_
              refine lv_istore hx hb dX4_straight_92 hl (lv' := [(5, .int (nI 0)), (10, .int far), (0, .ref (q 0)), (1, .int (nI a)), (2, .int (nI b)), (3, .int how), (4, .int tol), (6, .int (nI ax))]) (by decide) rfl (fun ls hl => ?_)
              refine lv_iinc hx hb dX4_straight_94 hl (k := 7) rfl (v := nI (ax + 1)) (rs_inc _ _) (by decide) (lv' := [(6, .int (nI (ax + 1))), (5, .int (nI 0)), (10, .int far), (0, .ref (q 0)), (1, .int (nI a)), (2, .int (nI b)), (3, .int how), (4, .int tol)]) rfl (fun ls hl => ?_)
              refine lv_goto hx hb dX4_straight_97 (tgt := 6) rfl ?_
              exact ih_6 (ax + 1) _ _ _ _ (by omega) (by omega) (by first | exact rs_fo_z hal h_69 | exact rs_fo_n (fun z => Int32.not_le.mpr h_76 (by rw [hfar]; exact z.1)) | exact rs_fo_n (fun z => Int32.not_le.mpr h_84 (by rw [hfar]; exact z.2)) | exact rs_fo_y hal h_69 ⟨by rw [← hfar]; exact Int32.not_lt.mp h_76, by rw [← hfar]; exact Int32.not_lt.mp h_84⟩) (lv_sub hl [3, 4, 5, 6, 7, 1, 0] rfl) hP hD hS
            · skip
              refine lv_iload hx hb dX4_straight_79 (lv_at hl 0 rfl) ?_
              refine lv_ineg hx hb dX4_straight_81 ?_
              refine lv_iload hx hb dX4_straight_82 (lv_at hl 5 rfl) ?_
              refine lv_icmp_gt hx hb dX4_straight_84 (tgt := 91) rfl (fun h_84 => ?_) (fun h_84 => ?_)
              · skip
                refine lv_iconst hx hb dX4_straight_91 (v := nI 0) (by decide) ?_
                refine lv_istore hx hb dX4_straight_92 hl (lv' := [(5, .int (nI 0)), (10, .int far), (0, .ref (q 0)), (1, .int (nI a)), (2, .int (nI b)), (3, .int how), (4, .int tol), (6, .int (nI ax))]) (by decide) rfl (fun ls hl => ?_)
                refine lv_iinc hx hb dX4_straight_94 hl (k := 7) rfl (v := nI (ax + 1)) (rs_inc _ _) (by decide) (lv' := [(6, .int (nI (ax + 1))), (5, .int (nI 0)), (10, .int far), (0, .ref (q 0)), (1, .int (nI a)), (2, .int (nI b)), (3, .int how), (4, .int tol)]) rfl (fun ls hl => ?_)
                refine lv_goto hx hb dX4_straight_97 (tgt := 6) rfl ?_
                exact ih_6 (ax + 1) _ _ _ _ (by omega) (by omega) (by first | exact rs_fo_z hal h_69 | exact rs_fo_n (fun z => Int32.not_le.mpr h_76 (by rw [hfar]; exact z.1)) | exact rs_fo_n (fun z => Int32.not_le.mpr h_84 (by rw [hfar]; exact z.2)) | exact rs_fo_y hal h_69 ⟨by rw [← hfar]; exact Int32.not_lt.mp h_76, by rw [← hfar]; exact Int32.not_lt.mp h_84⟩) (lv_sub hl [3, 4, 5, 6, 7, 1, 0] rfl) hP hD hS
              · skip
                refine lv_iconst hx hb dX4_straight_87 (v := nI 1) (by decide) ?_
                refine lv_goto hx hb dX4_straight_88 (tgt := 92) rfl ?_
                refine lv_istore hx hb dX4_straight_92 hl (lv' := [(5, .int (nI 1)), (10, .int far), (0, .ref (q 0)), (1, .int (nI a)), (2, .int (nI b)), (3, .int how), (4, .int tol), (6, .int (nI ax))]) (by decide) rfl (fun ls hl => ?_)
                refine lv_iinc hx hb dX4_straight_94 hl (k := 7) rfl (v := nI (ax + 1)) (rs_inc _ _) (by decide) (lv' := [(6, .int (nI (ax + 1))), (5, .int (nI 1)), (10, .int far), (0, .ref (q 0)), (1, .int (nI a)), (2, .int (nI b)), (3, .int how), (4, .int tol)]) rfl (fun ls hl => ?_)
                refine lv_goto hx hb dX4_straight_97 (tgt := 6) rfl ?_
                exact ih_6 (ax + 1) _ _ _ _ (by omega) (by omega) (by first | exact rs_fo_z hal h_69 | exact rs_fo_n (fun z => Int32.not_le.mpr h_76 (by rw [hfar]; exact z.1)) | exact rs_fo_n (fun z => Int32.not_le.mpr h_84 (by rw [hfar]; exact z.2)) | exact rs_fo_y hal h_69 ⟨by rw [← hfar]; exact Int32.not_lt.mp h_76, by rw [← hfar]; exact Int32.not_lt.mp h_84⟩) (lv_sub hl [3, 4, 5, 6, 7, 1, 0] rfl) hP hD hS
        refine lv_if_ne hx hb dX4_straight_44 (tgt := 60) rfl (fun h_44 => ?_) (fun h_44 => ?_)
        · skip
          refine lv_iload hx hb dX4_straight_60 (lv_at hl 2 rfl) ?_
          refine lv_iload hx hb dX4_straight_62 (lv_at hl 1 rfl) ?_
          refine rs_isub hx hb dX4_straight_64 (v := (rs_loc pz ax a - rs_loc pz ax b)) rfl ?_
          exact L_65 _ _ _ _ (by first | exact (if_pos h_44).symm | exact (if_neg h_44).symm) (lv_sub hl [3, 4, 5, 6, 7, 8, 9] rfl) hP hD hS
        · skip
          refine lv_iload hx hb dX4_straight_47 (lv_at hl 2 rfl) ?_
          refine lv_iload hx hb dX4_straight_49 (lv_at hl 1 rfl) ?_
          refine rs_iadd hx hb dX4_straight_51 (v := (rs_loc pz ax a + rs_loc pz ax b)) rfl ?_
          refine lv_iconst hx hb dX4_straight_52 (v := nI 2) (by decide) ?_
          refine lv_iload hx hb dX4_straight_53 (lv_at hl 0 rfl) ?_
          refine rs_imul hx hb dX4_straight_55 (v := (nI 2 * rs_loc pz ax ((a + b) / 2))) rfl ?_
          refine rs_isub hx hb dX4_straight_56 (v := ((rs_loc pz ax a + rs_loc pz ax b) - (nI 2 * rs_loc pz ax ((a + b) / 2)))) rfl ?_
          refine lv_goto hx hb dX4_straight_57 (tgt := 65) rfl ?_
          exact L_65 _ _ _ _ (by first | exact (if_pos h_44).symm | exact (if_neg h_44).symm) (lv_sub hl [3, 4, 5, 6, 7, 8, 9] rfl) hP hD hS
  exact L_6 ((2 - 0) + 1) 0 1 _ _ _ (Nat.lt_succ_self _) (Nat.zero_le _) (if_pos lt_0).symm (lv_sub hl [2, 3, 4, 5, 6, 1, 0] rfl) hP hD hS
