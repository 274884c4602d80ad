def rm_J_floorDiv : Room := { frames := 1, cells := 0, slots := 0, locals := 64 }
set_option maxHeartbeats 4000000 in
set_option maxRecDepth 100000 in
theorem c_J_floorDiv (l : Launch) (D : va_G) (aI aJ aL : ClassId) (sz : Nat) (x : Int64) (y : Int64) (hy : ¬ y = 0) : rs_ML (S := Unit) l yJ_floorDiv (Cond.code yJ_floorDiv prog_7_method_49_code 6 (some .long) :: rsW) rm_J_floorDiv D vwCl (rs_tys aI aJ aL) rs_nw [.long x, .long y] ([]) sz (rs_fd x y) (fun uu => []) := by
  refine rs_entF (cc := cJ_floorDiv) (maxL := 6) (ret := some .long) (Qc := rs_QL D vwCl _ _ _) (by decide +kernel) rfl (Nat.le_of_ble_eq_true rfl) ?_
  intro p e s m args below meth c ls A Q hx hb hr hml hlk hts hown hin hK hN hP hD hS hA hQ hl
  have hl : lv_has ls 6 [(0, .long x), (2, .long y)] := hl
  refine lv_lload_n hx hb dJ_floorDiv_0 rfl (lv_at hl 0 rfl) ?_
  refine lv_lload_n hx hb dJ_floorDiv_1 rfl (lv_at hl 1 rfl) ?_
  refine lv_ldiv hx hb dJ_floorDiv_2 hy ?_
  refine lv_lstore hx hb dJ_floorDiv_3 hl (lv' := [(4, .long (x / y)), (0, .long x), (2, .long y)]) (by decide) rfl (fun ls hl => ?_)
  refine lv_lload_n hx hb dJ_floorDiv_5 rfl (lv_at hl 1 rfl) ?_
  refine lv_lload_n hx hb dJ_floorDiv_6 rfl (lv_at hl 2 rfl) ?_
  refine lv_lxor hx hb dJ_floorDiv_7 ?_
  refine lv_lconst hx hb dJ_floorDiv_8 (v := 0) (by decide) ?_
  refine W.lcmp hx hb dJ_floorDiv_9 ?_
  refine lv_if_ge hx hb dJ_floorDiv_10 (tgt := 27) rfl (fun h_10 => ?_) (fun h_10 => ?_)
  · have h_10 : 0 ≤ (x ^^^ y) := (lg_cmp_ge _ _).1 h_10
    refine lv_lload hx hb dJ_floorDiv_27 (lv_at hl 0 rfl) ?_
    exact rs_lret () hx hb hr hlk hQ hK hP hD hS (by first | exact rs_fd_1 h_10 | exact rs_fd_2 h_19) rfl dJ_floorDiv_29
  · have h_10 : ¬ (0 ≤ (x ^^^ y)) := fun z => h_10 ((lg_cmp_ge _ _).2 z)
    refine lv_lload hx hb dJ_floorDiv_13 (lv_at hl 0 rfl) ?_
    refine lv_lload_n hx hb dJ_floorDiv_15 rfl (lv_at hl 2 rfl) ?_
    refine lv_lmul hx hb dJ_floorDiv_16 ?_
    refine lv_lload_n hx hb dJ_floorDiv_17 rfl (lv_at hl 1 rfl) ?_
    refine W.lcmp hx hb dJ_floorDiv_18 ?_
    refine lv_if_eq hx hb dJ_floorDiv_19 (tgt := 27) rfl (fun h_19 => ?_) (fun h_19 => ?_)
    · have h_19 : ((x / y) * y) = x := (lg_cmp_eq _ _).1 h_19
      refine lv_lload hx hb dJ_floorDiv_27 (lv_at hl 0 rfl) ?_
      exact rs_lret () hx hb hr hlk hQ hK hP hD hS (by first | exact rs_fd_1 h_10 | exact rs_fd_2 h_19) rfl dJ_floorDiv_29
    · have h_19 : ¬ (((x / y) * y) = x) := fun z => h_19 ((lg_cmp_eq _ _).2 z)
      refine lv_lload hx hb dJ_floorDiv_22 (lv_at hl 0 rfl) ?_
      refine lv_lconst hx hb dJ_floorDiv_24 (v := 1) (by decide) ?_
      refine lv_lsub hx hb dJ_floorDiv_25 ?_
      exact rs_lret () hx hb hr hlk hQ hK hP hD hS (rs_fd_3 h_10 h_19) rfl dJ_floorDiv_26

def rm_X1_thousandths : Room := { frames := 2, cells := 0, slots := 0, locals := 153 }
set_option maxHeartbeats 4000000 in
set_option maxRecDepth 100000 in
theorem c_X1_thousandths (l : Launch) (D : va_G) (aI aJ aL : ClassId) (sz : Nat) (x : Int64) (w : Int64)  : rs_MI (S := Unit) l yX1_thousandths (Cond.code yX1_thousandths prog_3_method_21_code 4 (some .int) :: rsW) rm_X1_thousandths D vwCl (rs_tys aI aJ aL) rs_nw [.long x, .long w] ([]) sz (rs_th x w) (fun uu => []) := by
  refine rs_ent (cc := cX1_thousandths) (maxL := 4) (ret := some .int) (Qc := rs_QI D vwCl _ _ _) (by decide) rfl (Nat.le_of_ble_eq_true rfl) ?_
  intro p e s m args below meth c ls A Q hx hb hr hml hlk hts hown hin hK hN hP hD hS hA hQ hl
  have hl : lv_has ls 4 [(0, .long x), (2, .long w)] := hl
  refine lv_lload_n hx hb dX1_thousandths_0 rfl (lv_at hl 1 rfl) ?_
  refine lv_lconst hx hb dX1_thousandths_1 (v := 0) (by decide) ?_
  refine W.lcmp hx hb dX1_thousandths_2 ?_
  refine lv_if_ne hx hb dX1_thousandths_3 (tgt := 10) rfl (fun h_3 => ?_) (fun h_3 => ?_)
  · have h_3 : ¬ (w = 0) := fun z => h_3 ((lg_cmp_eq _ _).2 z)
    refine lv_ldc2 hx hb hown (hts _ rw_349) dX1_thousandths_10 ?_
    refine lv_lload_n hx hb dX1_thousandths_13 rfl (lv_at hl 0 rfl) ?_
    refine lv_lmul hx hb dX1_thousandths_14 ?_
    refine lv_lload_n hx hb dX1_thousandths_15 rfl (lv_at hl 1 rfl) ?_
    refine rs_cSL (rest := []) (wr := []) (ws' := fun u_16 => []) ⟨hx, hb, hml, hown, hts⟩ (c_J_floorDiv l D aI aJ aL _ (1000 * x) w h_3) (va_cwS 2 hts (rs_gT rw_350 rw_351 rw_7 rw_352) rfl rfl rfl (by decide +kernel) ⟨Nat.le_of_ble_eq_true rfl, Nat.le_of_ble_eq_true rfl⟩) hK hN hP hD hS hA [] [] [] (by decide) rfl rfl (fun _ => rfl) hl.1 rfl rfl (Nat.le_of_ble_eq_true rfl) dX1_thousandths_16 ⟨Nat.le_refl _, Nat.le_refl _⟩ (fun u_16 H locs hP hD hS => ?_)
    have hP : va_P D vwCl ([]) H := hP
    have hD : va_D A ([]) := hD
    refine lv_l2i hx hb dX1_thousandths_19 (v := (rs_fd (1000 * x) w).toInt32) rfl ?_
    exact rs_iret () hx hb hr hlk hQ hK hP hD hS rfl (by first | exact (if_pos h_3).symm | exact (if_neg h_3).symm) rfl dX1_thousandths_20
  · have h_3 : w = 0 := (lg_cmp_eq _ _).1 h_3
    refine lv_iconst hx hb dX1_thousandths_6 (v := nI 0) (by decide) ?_
    refine lv_goto hx hb dX1_thousandths_7 (tgt := 20) rfl ?_
    exact rs_iret () hx hb hr hlk hQ hK hP hD hS rfl (by first | exact (if_pos h_3).symm | exact (if_neg h_3).symm) rfl dX1_thousandths_20

def rm_X1_goTo : Room := { frames := 3, cells := 0, slots := 0, locals := 242 }
set_option maxHeartbeats 4000000 in
set_option maxRecDepth 100000 in
theorem c_X1_goTo (l : Launch) (D : va_G) (aI aJ aL : ClassId) (sz : Nat) (q : Nat → Nat) (d : Nat) (n : Nat) (kn : Nat → Nat) (rz : Nat → Nat → Int64) (ac : Int32) (up : Int32) (ar : Nat → Nat) (wk : Nat → Int64) (u : Nat) (hd : d ≤ 3) (hn : n ≤ 19) (hk : ∀ i, kn i ≤ 6) (hdn : d + 1 ≤ n) (hu : u < 1000) : rs_MV (S := (Nat → Nat) × (Nat → Int64)) l yX1_goTo (Cond.code yX1_goTo prog_3_method_20_code 5 none :: rsW) rm_X1_goTo D vwCl (rs_tys aI aJ aL) rs_nw [.ref (q 0), .int (nI u)] (wC aI aJ aL q d n kn rz ac up ar wk) sz (fun uu => wC aI aJ aL q d n kn rz (rs_th (rs_bl kn d n rz (fun _ => u) 0 (rs_sp kn d u (n - (d + 1))) d d) (rs_bl kn d n rz (fun _ => u) 2 (rs_sp kn d u (n - (d + 1))) d d)) (rs_th (rs_bl kn d n rz (fun _ => u) 1 (rs_sp kn d u (n - (d + 1))) d d) (rs_bl kn d n rz (fun _ => u) 2 (rs_sp kn d u (n - (d + 1))) d d)) uu.1 uu.2) := by
  refine rs_ent (cc := cX1_goTo) (maxL := 5) (ret := none) (Qc := rs_QV D vwCl _ _) (by decide) rfl (Nat.le_of_ble_eq_true rfl) ?_
  intro p e s m args below meth c ls A Q hx hb hr hml hlk hts hown hin hK hN hP hD hS hA hQ hl
  have hl : lv_has ls 5 [(0, .ref (q 0)), (1, .int (nI u))] := hl
  refine lv_aload_n hx hb dX1_goTo_0 rfl (lv_at hl 0 rfl) ?_
  refine lv_iload_n hx hb dX1_goTo_1 rfl (lv_at hl 1 rfl) ?_
  refine rs_cVI (rest := []) (wr := []) (ws' := fun u_2 => wC aI aJ aL q d n kn rz ac up ar wk) ⟨hx, hb, hml, hown, hts⟩ (c_X1_spanOf l D aI aJ aL _ q d n kn rz ac up ar wk u hd hn hk hu) (cwV 1 hts (rs_gV rw_205 rw_206 rw_207 rw_4 rw_208) rfl rfl rfl (by decide +kernel) ⟨Nat.le_of_ble_eq_true rfl, Nat.le_of_ble_eq_true rfl⟩) hK hN hP hD hS hA [0, 1, 2, 3, 4, 5, 6, 7] [] [0, 1, 2, 3, 4, 5, 6, 7] (by decide) rfl rfl (fun _ => rfl) 0 rfl rfl hl.1 rfl rfl (Nat.le_of_ble_eq_true rfl) dX1_goTo_2 ⟨Nat.le_refl _, Nat.le_refl _⟩ (fun u_2 H locs hP hD hS => ?_)
  have hP : va_P D vwCl (wC aI aJ aL q d n kn rz ac up ar wk) H := hP
  have hD : va_D A (wC aI aJ aL q d n kn rz ac up ar wk) := hD
  have hp1 := rs_sp_le kn d u (n - (d + 1))
  refine lv_istore_n hx hb dX1_goTo_5 rfl hl (lv' := [(2, .int (nI (rs_sp kn d u (n - (d + 1))))), (0, .ref (q 0)), (1, .int (nI u))]) (by decide) rfl (fun ls hl => ?_)
  refine lv_iconst hx hb dX1_goTo_6 (v := nI 0) (by decide) ?_
  refine lv_istore_n hx hb dX1_goTo_7 rfl hl (lv' := [(3, .int (nI 0)), (2, .int (nI (rs_sp kn d u (n - (d + 1))))), (0, .ref (q 0)), (1, .int (nI u))]) (by decide) rfl (fun ls hl => ?_)
  have L_8 : ∀ (k_8 : Nat) (j : Nat) (ar : Nat → Nat) (H : Heap) (locs : List Loc) (ls : Array Slot), d - j < k_8 → (j ≤ d) → (∀ k, k < j → ar k = u) → lv_has ls 5 [(0, .ref (q 0)), (1, .int (nI u)), (2, .int (nI (rs_sp kn d u (n - (d + 1))))), (3, .int (nI j))] → va_P D vwCl (wC aI aJ aL q d n kn rz ac up ar wk) H → va_D A (wC aI aJ aL q d n kn rz ac up ar wk) → va_S A s.heap H locs → W p l e rm_X1_goTo s m args below meth c H locs 0 0 Q (F0 m 8 ls []) := by
    intro k_8
    induction k_8 with
    | zero => intro j ar H locs ls hk_8; exact absurd hk_8 (Nat.not_lt_zero _)
    | succ k_8 ih_8 =>
      intro j ar H locs ls hk_8 hj ha hl hP hD hS
      refine lv_iload_n hx hb dX1_goTo_8 rfl (lv_at hl 3 rfl) ?_
      refine lv_aload_n hx hb dX1_goTo_9 rfl (lv_at hl 0 rfl) ?_
      refine va_get hx hb hts inX1 hown hK hP 0 (ci := 1) (C := RX1) (T := TX1) (N := 8) rfl rfl 0 (by decide) (hts _ rw_80) (fun _ h => h) (v := .int (nI d)) rfl dX1_goTo_10 ?_
      refine lv_icmp_ge hx hb dX1_goTo_13 (tgt := 29) rfl (fun h_13 => ?_) (fun h_13 => ?_)
      · have h_13 : d ≤ j := (nI_leI (by omega) (by omega)).1 h_13
        refine lv_aload_n hx hb dX1_goTo_29 rfl (lv_at hl 0 rfl) ?_
        refine lv_iconst hx hb dX1_goTo_30 (v := nI 2) (by decide) ?_
        refine lv_iload_n hx hb dX1_goTo_31 rfl (lv_at hl 2 rfl) ?_
        refine rs_cVL (rest := []) (wr := []) (ws' := fun u_32 => wC aI aJ aL q d n kn rz ac up ar u_32) ⟨hx, hb, hml, hown, hts⟩ (c_X1_blossom l D aI aJ aL _ q d n kn rz ac up ar wk 2 (rs_sp kn d u (n - (d + 1))) (fun _ => u) hd hn (by omega) (by omega) (by omega) (fun k hk => ha k (by omega))) (cwV 2 hts (rs_gV rw_286 rw_288 rv_8 rw_4 rw_289) rfl rfl rfl (by decide +kernel) ⟨Nat.le_of_ble_eq_true rfl, Nat.le_of_ble_eq_true rfl⟩) hK hN hP hD hS hA [0, 1, 2, 3, 4, 5, 6, 7] [] [0, 1, 2, 3, 4, 5, 6, 7] (by decide) rfl rfl (fun _ => rfl) 0 rfl rfl hl.1 rfl rfl (Nat.le_of_ble_eq_true rfl) dX1_goTo_32 ⟨Nat.le_refl _, Nat.le_refl _⟩ (fun u_32 H locs hP hD hS => ?_)
        have hP : va_P D vwCl (wC aI aJ aL q d n kn rz ac up ar u_32) H := hP
        have hD : va_D A (wC aI aJ aL q d n kn rz ac up ar u_32) := hD
        refine lv_lstore_n hx hb dX1_goTo_35 rfl hl (lv' := [(3, .long (rs_bl kn d n rz (fun _ => u) 2 (rs_sp kn d u (n - (d + 1))) d d)), (0, .ref (q 0)), (1, .int (nI u)), (2, .int (nI (rs_sp kn d u (n - (d + 1)))))]) (by decide) rfl (fun ls hl => ?_)
        refine lv_aload_n hx hb dX1_goTo_36 rfl (lv_at hl 1 rfl) ?_
        refine lv_aload_n hx hb dX1_goTo_37 rfl (lv_at hl 1 rfl) ?_
        refine lv_iconst hx hb dX1_goTo_38 (v := nI 0) (by decide) ?_
        refine lv_iload_n hx hb dX1_goTo_39 rfl (lv_at hl 3 rfl) ?_
        refine rs_cVL (rest := [.ref (q 0)]) (wr := []) (ws' := fun u_40 => wC aI aJ aL q d n kn rz ac up ar u_40) ⟨hx, hb, hml, hown, hts⟩ (c_X1_blossom l D aI aJ aL _ q d n kn rz ac up ar u_32 0 (rs_sp kn d u (n - (d + 1))) (fun _ => u) hd hn (by omega) (by omega) (by omega) (fun k hk => ha k (by omega))) (cwV 2 hts (rs_gV rw_286 rw_288 rv_8 rw_4 rw_289) rfl rfl rfl (by decide +kernel) ⟨Nat.le_of_ble_eq_true rfl, Nat.le_of_ble_eq_true rfl⟩) hK hN hP hD hS hA [0, 1, 2, 3, 4, 5, 6, 7] [] [0, 1, 2, 3, 4, 5, 6, 7] (by decide) rfl rfl (fun _ => rfl) 0 rfl rfl hl.1 rfl rfl (Nat.le_of_ble_eq_true rfl) dX1_goTo_40 ⟨Nat.le_refl _, Nat.le_refl _⟩ (fun u_40 H locs hP hD hS => ?_)
        have hP : va_P D vwCl (wC aI aJ aL q d n kn rz ac up ar u_40) H := hP
        have hD : va_D A (wC aI aJ aL q d n kn rz ac up ar u_40) := hD
        refine lv_lload_n hx hb dX1_goTo_43 rfl (lv_at hl 0 rfl) ?_
        refine rs_cSI (rest := [.ref (q 0)]) (wr := (wC aI aJ aL q d n kn rz ac up ar u_40)) (ws' := fun u_44 => wC aI aJ aL q d n kn rz ac up ar u_40) ⟨hx, hb, hml, hown, hts⟩ (c_X1_thousandths l D aI aJ aL _ (rs_bl kn d n rz (fun _ => u) 0 (rs_sp kn d u (n - (d + 1))) d d) (rs_bl kn d n rz (fun _ => u) 2 (rs_sp kn d u (n - (d + 1))) d d) ) (cwS 2 hts (rs_gS rw_346 rw_347 rw_4 rw_348) rfl rfl rfl (by decide +kernel) ⟨Nat.le_of_ble_eq_true rfl, Nat.le_of_ble_eq_true rfl⟩) hK hN hP hD hS hA [] [0, 1, 2, 3, 4, 5, 6, 7] [0, 1, 2, 3, 4, 5, 6, 7] (by decide) rfl rfl (fun _ => rfl) hl.1 rfl rfl (Nat.le_of_ble_eq_true rfl) dX1_goTo_44 ⟨Nat.le_refl _, Nat.le_refl _⟩ (fun u_44 H locs hP hD hS => ?_)
        have hP : va_P D vwCl (wC aI aJ aL q d n kn rz ac up ar u_40) H := hP
        have hD : va_D A (wC aI aJ aL q d n kn rz ac up ar u_40) := hD
        refine va_put hx hb hts inX1 (ty0 := tyX1) tyX1_ok nmX1 hown hK hP hD hS 0 (ci := 1) (C := RX1) (T := TX1) (N := 8) rfl rfl 4 (by decide) (hts _ rw_96) (fun _ h => h) rfl (ty := .int) (by decide +kernel) rfl rfl (Nat.le_of_ble_eq_true rfl) dX1_goTo_47 (fun H locs hP hD hS => ?_)
        have hP : va_P D vwCl (wC aI aJ aL q d n kn rz (rs_th (rs_bl kn d n rz (fun _ => u) 0 (rs_sp kn d u (n - (d + 1))) d d) (rs_bl kn d n rz (fun _ => u) 2 (rs_sp kn d u (n - (d + 1))) d d)) up ar u_40) H := hP
        have hD : va_D A (wC aI aJ aL q d n kn rz (rs_th (rs_bl kn d n rz (fun _ => u) 0 (rs_sp kn d u (n - (d + 1))) d d) (rs_bl kn d n rz (fun _ => u) 2 (rs_sp kn d u (n - (d + 1))) d d)) up ar u_40) := hD
        refine lv_aload_n hx hb dX1_goTo_50 rfl (lv_at hl 1 rfl) ?_
        refine lv_aload_n hx hb dX1_goTo_51 rfl (lv_at hl 1 rfl) ?_
        refine lv_iconst hx hb dX1_goTo_52 (v := nI 1) (by decide) ?_
        refine lv_iload_n hx hb dX1_goTo_53 rfl (lv_at hl 3 rfl) ?_
        refine rs_cVL (rest := [.ref (q 0)]) (wr := []) (ws' := fun u_54 => wC aI aJ aL q d n kn rz (rs_th (rs_bl kn d n rz (fun _ => u) 0 (rs_sp kn d u (n - (d + 1))) d d) (rs_bl kn d n rz (fun _ => u) 2 (rs_sp kn d u (n - (d + 1))) d d)) up ar u_54) ⟨hx, hb, hml, hown, hts⟩ (c_X1_blossom l D aI aJ aL _ q d n kn rz (rs_th (rs_bl kn d n rz (fun _ => u) 0 (rs_sp kn d u (n - (d + 1))) d d) (rs_bl kn d n rz (fun _ => u) 2 (rs_sp kn d u (n - (d + 1))) d d)) up ar u_40 1 (rs_sp kn d u (n - (d + 1))) (fun _ => u) hd hn (by omega) (by omega) (by omega) (fun k hk => ha k (by omega))) (cwV 2 hts (rs_gV rw_286 rw_288 rv_8 rw_4 rw_289) rfl rfl rfl (by decide +kernel) ⟨Nat.le_of_ble_eq_true rfl, Nat.le_of_ble_eq_true rfl⟩) hK hN hP hD hS hA [0, 1, 2, 3, 4, 5, 6, 7] [] [0, 1, 2, 3, 4, 5, 6, 7] (by decide) rfl rfl (fun _ => rfl) 0 rfl rfl hl.1 rfl rfl (Nat.le_of_ble_eq_true rfl) dX1_goTo_54 ⟨Nat.le_refl _, Nat.le_refl _⟩ (fun u_54 H locs hP hD hS => ?_)
        have hP : va_P D vwCl (wC aI aJ aL q d n kn rz (rs_th (rs_bl kn d n rz (fun _ => u) 0 (rs_sp kn d u (n - (d + 1))) d d) (rs_bl kn d n rz (fun _ => u) 2 (rs_sp kn d u (n - (d + 1))) d d)) up ar u_54) H := hP
        have hD : va_D A (wC aI aJ aL q d n kn rz (rs_th (rs_bl kn d n rz (fun _ => u) 0 (rs_sp kn d u (n - (d + 1))) d d) (rs_bl kn d n rz (fun _ => u) 2 (rs_sp kn d u (n - (d + 1))) d d)) up ar u_54) := hD
        refine lv_lload_n hx hb dX1_goTo_57 rfl (lv_at hl 0 rfl) ?_
        refine rs_cSI (rest := [.ref (q 0)]) (wr := (wC aI aJ aL q d n kn rz (rs_th (rs_bl kn d n rz (fun _ => u) 0 (rs_sp kn d u (n - (d + 1))) d d) (rs_bl kn d n rz (fun _ => u) 2 (rs_sp kn d u (n - (d + 1))) d d)) up ar u_54)) (ws' := fun u_58 => wC aI aJ aL q d n kn rz (rs_th (rs_bl kn d n rz (fun _ => u) 0 (rs_sp kn d u (n - (d + 1))) d d) (rs_bl kn d n rz (fun _ => u) 2 (rs_sp kn d u (n - (d + 1))) d d)) up ar u_54) ⟨hx, hb, hml, hown, hts⟩ (c_X1_thousandths l D aI aJ aL _ (rs_bl kn d n rz (fun _ => u) 1 (rs_sp kn d u (n - (d + 1))) d d) (rs_bl kn d n rz (fun _ => u) 2 (rs_sp kn d u (n - (d + 1))) d d) ) (cwS 2 hts (rs_gS rw_346 rw_347 rw_4 rw_348) rfl rfl rfl (by decide +kernel) ⟨Nat.le_of_ble_eq_true rfl, Nat.le_of_ble_eq_true rfl⟩) hK hN hP hD hS hA [] [0, 1, 2, 3, 4, 5, 6, 7] [0, 1, 2, 3, 4, 5, 6, 7] (by decide) rfl rfl (fun _ => rfl) hl.1 rfl rfl (Nat.le_of_ble_eq_true rfl) dX1_goTo_58 ⟨Nat.le_refl _, Nat.le_refl _⟩ (fun u_58 H locs hP hD hS => ?_)
        have hP : va_P D vwCl (wC aI aJ aL q d n kn rz (rs_th (rs_bl kn d n rz (fun _ => u) 0 (rs_sp kn d u (n - (d + 1))) d d) (rs_bl kn d n rz (fun _ => u) 2 (rs_sp kn d u (n - (d + 1))) d d)) up ar u_54) H := hP
        have hD : va_D A (wC aI aJ aL q d n kn rz (rs_th (rs_bl kn d n rz (fun _ => u) 0 (rs_sp kn d u (n - (d + 1))) d d) (rs_bl kn d n rz (fun _ => u) 2 (rs_sp kn d u (n - (d + 1))) d d)) up ar u_54) := hD
        refine va_put hx hb hts inX1 (ty0 := tyX1) tyX1_ok nmX1 hown hK hP hD hS 0 (ci := 1) (C := RX1) (T := TX1) (N := 8) rfl rfl 5 (by decide) (hts _ rw_99) (fun _ h => h) rfl (ty := .int) (by decide +kernel) rfl rfl (Nat.le_of_ble_eq_true rfl) dX1_goTo_61 (fun H locs hP hD hS => ?_)
        have hP : va_P D vwCl (wC aI aJ aL q d n kn rz (rs_th (rs_bl kn d n rz (fun _ => u) 0 (rs_sp kn d u (n - (d + 1))) d d) (rs_bl kn d n rz (fun _ => u) 2 (rs_sp kn d u (n - (d + 1))) d d)) (rs_th (rs_bl kn d n rz (fun _ => u) 1 (rs_sp kn d u (n - (d + 1))) d d) (rs_bl kn d n rz (fun _ => u) 2 (rs_sp kn d u (n - (d + 1))) d d)) ar u_54) H := hP
        have hD : va_D A (wC aI aJ aL q d n kn rz (rs_th (rs_bl kn d n rz (fun _ => u) 0 (rs_sp kn d u (n - (d + 1))) d d) (rs_bl kn d n rz (fun _ => u) 2 (rs_sp kn d u (n - (d + 1))) d d)) (rs_th (rs_bl kn d n rz (fun _ => u) 1 (rs_sp kn d u (n - (d + 1))) d d) (rs_bl kn d n rz (fun _ => u) 2 (rs_sp kn d u (n - (d + 1))) d d)) ar u_54) := hD
        exact rs_vret (ar, u_54) hx hb hr hlk hQ hK hP hD hS rfl dX1_goTo_64
      · have h_13 : j < d := Nat.lt_of_not_le (fun z => h_13 ((nI_leI (by omega) (by omega)).2 z))
        refine lv_aload_n hx hb dX1_goTo_16 rfl (lv_at hl 0 rfl) ?_
        refine va_get hx hb hts inX1 hown hK hP 0 (ci := 1) (C := RX1) (T := TX1) (N := 8) rfl rfl 6 (by decide) (hts _ rw_100) (fun _ h => h) (v := .ref (q 6)) rfl dX1_goTo_17 ?_
        refine lv_iload_n hx hb dX1_goTo_20 rfl (lv_at hl 3 rfl) ?_
        refine lv_iload_n hx hb dX1_goTo_21 rfl (lv_at hl 1 rfl) ?_
        refine rs_iast hx hb hK hP hD hS 6 0 rfl rfl (i := j) (by omega) (by decide) (rs_upI _ _ _) dX1_goTo_22 (ws' := wC aI aJ aL q d n kn rz ac up (rs_up ar j u) wk) rfl (fun H locs hP hD hS => ?_)
        refine lv_iinc hx hb dX1_goTo_23 hl (k := 3) rfl (v := nI (j + 1)) (rs_inc _ _) (by decide) (lv' := [(3, .int (nI (j + 1))), (0, .ref (q 0)), (1, .int (nI u)), (2, .int (nI (rs_sp kn d u (n - (d + 1)))))]) rfl (fun ls hl => ?_)
        refine lv_goto hx hb dX1_goTo_26 (tgt := 8) rfl ?_
        exact ih_8 (j + 1) _ _ _ _ (by omega) (by omega) (rs_wN_up ha rfl) (lv_sub hl [1, 2, 3, 0] rfl) hP hD hS
  exact L_8 ((d - 0) + 1) 0 ar _ _ _ (Nat.lt_succ_self _) (Nat.zero_le _) lt_0 (lv_sub hl [2, 3, 1, 0] rfl) hP hD hS

def rm_X1_turnInto : Room := { frames := 2, cells := 0, slots := 0, locals := 148 }
set_option maxHeartbeats 4000000 in
set_option maxRecDepth 100000 in
theorem c_X1_turnInto (l : Launch) (D : va_G) (aI aJ aL : ClassId) (sz : Nat) (q : Nat → Nat) (d : Nat) (n : Nat) (kn : Nat → Nat) (rz : Nat → Nat → Int64) (ac : Int32) (up : Int32) (ar : Nat → Nat) (wk : Nat → Int64) (q2 : Nat → Nat) (d2 : Nat) (n2 : Nat) (kn2 : Nat → Nat) (rz2 : Nat → Nat → Int64) (ac2 : Int32) (up2 : Int32) (ar2 : Nat → Nat) (wk2 : Nat → Int64) (hd : d ≤ 3) (hn : n ≤ 19) (hk : ∀ i, kn i ≤ 6) (hk2 : ∀ i, kn2 i ≤ 6) : rs_MV (S := {x : (Nat → Nat) × (Nat → Nat → Int64) // (∀ j, j < n + d + 1 → x.1 j = 6 - kn (n + d - j)) ∧ (∀ j, x.1 j ≤ 6) ∧ ∀ b j, b < 3 → j < n → x.2 b j = rz b (n - 1 - j)}) l yX1_turnInto (Cond.code yX1_turnInto prog_3_method_17_code 4 none :: rsW) rm_X1_turnInto D vwCl (rs_tys aI aJ aL) rs_nw [.ref (q 0), .ref (q2 0)] ((wC aI aJ aL q d n kn rz ac up ar wk) ++ (wC aI aJ aL q2 d2 n2 kn2 rz2 ac2 up2 ar2 wk2)) sz (fun uu => (wC aI aJ aL q d n kn rz ac up ar wk) ++ (wC aI aJ aL q2 d n uu.1.1 uu.1.2 ac2 up2 ar2 wk2)) := by
  refine rs_ent (cc := cX1_turnInto) (maxL := 4) (ret := none) (Qc := rs_QV D vwCl _ _) (by decide) rfl (Nat.le_of_ble_eq_true rfl) ?_
  intro p e s m args below meth c ls A Q hx hb hr hml hlk hts hown hin hK hN hP hD hS hA hQ hl
  have hl : lv_has ls 4 [(0, .ref (q 0)), (1, .ref (q2 0))] := hl
  refine lv_aload_n hx hb dX1_turnInto_0 rfl (lv_at hl 1 rfl) ?_
  refine lv_aload_n hx hb dX1_turnInto_1 rfl (lv_at hl 0 rfl) ?_
  refine va_get hx hb hts inX1 hown hK hP 0 (ci := 1) (C := RX1) (T := TX1) (N := 8) rfl rfl 0 (by decide) (hts _ rw_80) (fun _ h => h) (v := .int (nI d)) rfl dX1_turnInto_2 ?_
  refine va_put hx hb hts inX1 (ty0 := tyX1) tyX1_ok nmX1 hown hK hP hD hS 8 (ci := 1) (C := RX1) (T := TX1) (N := 8) rfl rfl 0 (by decide) (hts _ rw_80) (fun _ h => h) rfl (ty := .int) (by decide +kernel) rfl rfl (Nat.le_of_ble_eq_true rfl) dX1_turnInto_5 (fun H locs hP hD hS => ?_)
  have hP : va_P D vwCl ((wC aI aJ aL q d n kn rz ac up ar wk) ++ (wC aI aJ aL q2 d n2 kn2 rz2 ac2 up2 ar2 wk2)) H := hP
  have hD : va_D A ((wC aI aJ aL q d n kn rz ac up ar wk) ++ (wC aI aJ aL q2 d n2 kn2 rz2 ac2 up2 ar2 wk2)) := hD
  refine lv_aload_n hx hb dX1_turnInto_8 rfl (lv_at hl 1 rfl) ?_
  refine lv_aload_n hx hb dX1_turnInto_9 rfl (lv_at hl 0 rfl) ?_
  refine va_get hx hb hts inX1 hown hK hP 0 (ci := 1) (C := RX1) (T := TX1) (N := 8) rfl rfl 1 (by decide) (hts _ rw_84) (fun _ h => h) (v := .int (nI n)) rfl dX1_turnInto_10 ?_
  refine va_put hx hb hts inX1 (ty0 := tyX1) tyX1_ok nmX1 hown hK hP hD hS 8 (ci := 1) (C := RX1) (T := TX1) (N := 8) rfl rfl 1 (by decide) (hts _ rw_84) (fun _ h => h) rfl (ty := .int) (by decide +kernel) rfl rfl (Nat.le_of_ble_eq_true rfl) dX1_turnInto_13 (fun H locs hP hD hS => ?_)
  have hP : va_P D vwCl ((wC aI aJ aL q d n kn rz ac up ar wk) ++ (wC aI aJ aL q2 d n kn2 rz2 ac2 up2 ar2 wk2)) H := hP
  have hD : va_D A ((wC aI aJ aL q d n kn rz ac up ar wk) ++ (wC aI aJ aL q2 d n kn2 rz2 ac2 up2 ar2 wk2)) := hD
  refine lv_iconst hx hb dX1_turnInto_16 (v := nI 0) (by decide) ?_
  refine lv_istore_n hx hb dX1_turnInto_17 rfl hl (lv' := [(2, .int (nI 0)), (0, .ref (q 0)), (1, .ref (q2 0))]) (by decide) rfl (fun ls hl => ?_)
  have L_18 : ∀ (k_18 : Nat) (i : Nat) (kn2 : Nat → Nat) (H : Heap) (locs : List Loc) (ls : Array Slot), n + d + 1 - i < k_18 → (i ≤ n + d + 1) → (∀ j, kn2 j ≤ 6) → (∀ j, j < i → kn2 j = 6 - kn (n + d - j)) → lv_has ls 4 [(0, .ref (q 0)), (1, .ref (q2 0)), (2, .int (nI i))] → va_P D vwCl ((wC aI aJ aL q d n kn rz ac up ar wk) ++ (wC aI aJ aL q2 d n kn2 rz2 ac2 up2 ar2 wk2)) H → va_D A ((wC aI aJ aL q d n kn rz ac up ar wk) ++ (wC aI aJ aL q2 d n kn2 rz2 ac2 up2 ar2 wk2)) → va_S A s.heap H locs → W p l e rm_X1_turnInto s m args below meth c H locs 0 0 Q (F0 m 18 ls []) := by
    intro k_18
    induction k_18 with
    | zero => intro i kn2 H locs ls hk_18; exact absurd hk_18 (Nat.not_lt_zero _)
    | succ k_18 ih_18 =>
      intro i kn2 H locs ls hk_18 hi hk2 hKn hl hP hD hS
      refine lv_iload_n hx hb dX1_turnInto_18 rfl (lv_at hl 2 rfl) ?_
      refine lv_aload_n hx hb dX1_turnInto_19 rfl (lv_at hl 0 rfl) ?_
      refine rs_cVI (rest := [.int (nI i)]) (wr := (wC aI aJ aL q2 d n kn2 rz2 ac2 up2 ar2 wk2)) (ws' := fun u_20 => (wC aI aJ aL q d n kn rz ac up ar wk) ++ (wC aI aJ aL q2 d n kn2 rz2 ac2 up2 ar2 wk2)) ⟨hx, hb, hml, hown, hts⟩ (c_X1_knotCount l D aI aJ aL _ q d n kn rz ac up ar wk hd hn) (cwV 0 hts (rs_gV rw_212 rw_213 rw_214 rw_4 rw_215) rfl rfl rfl (by decide +kernel) ⟨Nat.le_of_ble_eq_true rfl, Nat.le_of_ble_eq_true rfl⟩) hK hN hP hD hS hA [0, 1, 2, 3, 4, 5, 6, 7] [8, 9, 10, 11, 12, 13, 14, 15] [8, 9, 10, 11, 12, 13, 14, 15, 0, 1, 2, 3, 4, 5, 6, 7] (by decide) rfl rfl (fun _ => rfl) 0 rfl rfl hl.1 rfl rfl (Nat.le_of_ble_eq_true rfl) dX1_turnInto_20 ⟨Nat.le_refl _, Nat.le_refl _⟩ (fun u_20 H locs hP hD hS => ?_)
      have hP : va_P D vwCl ((wC aI aJ aL q d n kn rz ac up ar wk) ++ (wC aI aJ aL q2 d n kn2 rz2 ac2 up2 ar2 wk2)) H := hP
      have hD : va_D A ((wC aI aJ aL q d n kn rz ac up ar wk) ++ (wC aI aJ aL q2 d n kn2 rz2 ac2 up2 ar2 wk2)) := hD
      refine lv_icmp_ge hx hb dX1_turnInto_23 (tgt := 54) rfl (fun h_23 => ?_) (fun h_23 => ?_)
      · have h_23 : (n + d + 1) ≤ i := (nI_leI (by omega) (by omega)).1 h_23
        refine lv_iconst hx hb dX1_turnInto_54 (v := nI 0) (by decide) ?_
        have hKn9 : ∀ j, j < n + d + 1 → kn2 j = 6 - kn (n + d - j) := fun j hj => hKn j (by omega)
        refine lv_istore_n hx hb dX1_turnInto_55 rfl hl (lv' := [(2, .int (nI 0)), (0, .ref (q 0)), (1, .ref (q2 0))]) (by decide) rfl (fun ls hl => ?_)
        have L_56 : ∀ (k_56 : Nat) (a : Nat) (rz2 : Nat → Nat → Int64) (H : Heap) (locs : List Loc) (ls : Array Slot), 3 - a < k_56 → (a ≤ 3) → (∀ b j, (b < a ∨ (b = a ∧ j < 0)) → j < n → rz2 b j = rz b (n - 1 - j)) → lv_has ls 4 [(0, .ref (q 0)), (1, .ref (q2 0)), (2, .int (nI a))] → va_P D vwCl ((wC aI aJ aL q d n kn rz ac up ar wk) ++ (wC aI aJ aL q2 d n kn2 rz2 ac2 up2 ar2 wk2)) H → va_D A ((wC aI aJ aL q d n kn rz ac up ar wk) ++ (wC aI aJ aL q2 d n kn2 rz2 ac2 up2 ar2 wk2)) → va_S A s.heap H locs → W p l e rm_X1_turnInto s m args below meth c H locs 0 0 Q (F0 m 56 ls []) := by
          intro k_56
          induction k_56 with
          | zero => intro a rz2 H locs ls hk_56; exact absurd hk_56 (Nat.not_lt_zero _)
          | succ k_56 ih_56 =>
            intro a rz2 H locs ls hk_56 ha hG hl hP hD hS
            refine lv_iload_n hx hb dX1_turnInto_56 rfl (lv_at hl 2 rfl) ?_
            refine lv_iconst hx hb dX1_turnInto_57 (v := nI 3) (by decide) ?_
            refine lv_icmp_ge hx hb dX1_turnInto_58 (tgt := 106) rfl (fun h_58 => ?_) (fun h_58 => ?_)
            · have h_58 : 3 ≤ a := (nI_leI (by omega) (by omega)).1 h_58
              exact rs_vret ⟨(kn2, rz2), hKn9, hk2, fun b j hb hj => hG b j (Or.inl (by omega)) hj⟩ hx hb hr hlk hQ hK hP hD hS rfl dX1_turnInto_106
            · have h_58 : a < 3 := Nat.lt_of_not_le (fun z => h_58 ((nI_leI (by omega) (by omega)).2 z))
              refine lv_iconst hx hb dX1_turnInto_61 (v := nI 0) (by decide) ?_
              refine lv_istore_n hx hb dX1_turnInto_62 rfl hl (lv' := [(3, .int (nI 0)), (0, .ref (q 0)), (1, .ref (q2 0)), (2, .int (nI a))]) (by decide) rfl (fun ls hl => ?_)
              have L_63 : ∀ (k_63 : Nat) (i : Nat) (rz2 : Nat → Nat → Int64) (H : Heap) (locs : List Loc) (ls : Array Slot), n - i < k_63 → (i ≤ n) → (∀ b j, (b < a ∨ (b = a ∧ j < i)) → j < n → rz2 b j = rz b (n - 1 - j)) → lv_has ls 4 [(0, .ref (q 0)), (1, .ref (q2 0)), (2, .int (nI a)), (3, .int (nI i))] → va_P D vwCl ((wC aI aJ aL q d n kn rz ac up ar wk) ++ (wC aI aJ aL q2 d n kn2 rz2 ac2 up2 ar2 wk2)) H → va_D A ((wC aI aJ aL q d n kn rz ac up ar wk) ++ (wC aI aJ aL q2 d n kn2 rz2 ac2 up2 ar2 wk2)) → va_S A s.heap H locs → W p l e rm_X1_turnInto s m args below meth c H locs 0 0 Q (F0 m 63 ls []) := by
                intro k_63
                induction k_63 with
                | zero => intro i rz2 H locs ls hk_63; exact absurd hk_63 (Nat.not_lt_zero _)
                | succ k_63 ih_63 =>
                  intro i rz2 H locs ls hk_63 hi2 hG hl hP hD hS
                  refine lv_iload_n hx hb dX1_turnInto_63 rfl (lv_at hl 3 rfl) ?_
                  refine lv_aload_n hx hb dX1_turnInto_64 rfl (lv_at hl 0 rfl) ?_
                  refine va_get hx hb hts inX1 hown hK hP 0 (ci := 1) (C := RX1) (T := TX1) (N := 8) rfl rfl 1 (by decide) (hts _ rw_84) (fun _ h => h) (v := .int (nI n)) rfl dX1_turnInto_65 ?_
                  refine lv_icmp_ge hx hb dX1_turnInto_68 (tgt := 100) rfl (fun h_68 => ?_) (fun h_68 => ?_)
                  · have h_68 : n ≤ i := (nI_leI (by omega) (by omega)).1 h_68
                    refine lv_iinc hx hb dX1_turnInto_100 hl (k := 2) rfl (v := nI (a + 1)) (rs_inc _ _) (by decide) (lv' := [(2, .int (nI (a + 1))), (0, .ref (q 0)), (1, .ref (q2 0)), (3, .int (nI i))]) rfl (fun ls hl => ?_)
                    refine lv_goto hx hb dX1_turnInto_103 (tgt := 56) rfl ?_
                    exact ih_56 (a + 1) rz2 _ _ _ (by omega) (by omega) (fun b j h hj => hG b j (by omega) hj) (lv_sub hl [1, 2, 0] rfl) hP hD hS
                  · have h_68 : i < n := Nat.lt_of_not_le (fun z => h_68 ((nI_leI (by omega) (by omega)).2 z))
                    refine lv_aload_n hx hb dX1_turnInto_71 rfl (lv_at hl 1 rfl) ?_
                    refine va_get hx hb hts inX1 hown hK hP 8 (ci := 1) (C := RX1) (T := TX1) (N := 8) rfl rfl 3 (by decide) (hts _ rw_92) (fun _ h => h) (v := .ref (q2 2)) rfl dX1_turnInto_72 ?_
                    refine lv_iload_n hx hb dX1_turnInto_75 rfl (lv_at hl 2 rfl) ?_
                    refine rs_aald hx hb hK hP 10 2 rfl rfl (i := a) (by omega) (by decide) (b := q2 (3 + a)) rfl dX1_turnInto_76 ?_
                    refine lv_iload_n hx hb dX1_turnInto_77 rfl (lv_at hl 3 rfl) ?_
                    refine lv_aload_n hx hb dX1_turnInto_78 rfl (lv_at hl 0 rfl) ?_
                    refine va_get hx hb hts inX1 hown hK hP 0 (ci := 1) (C := RX1) (T := TX1) (N := 8) rfl rfl 3 (by decide) (hts _ rw_92) (fun _ h => h) (v := .ref (q 2)) rfl dX1_turnInto_79 ?_
                    refine lv_iload_n hx hb dX1_turnInto_82 rfl (lv_at hl 2 rfl) ?_
                    refine rs_aald hx hb hK hP 2 2 rfl rfl (i := a) (by omega) (by decide) (b := q (3 + a)) rfl dX1_turnInto_83 ?_
                    refine lv_aload_n hx hb dX1_turnInto_84 rfl (lv_at hl 0 rfl) ?_
                    refine va_get hx hb hts inX1 hown hK hP 0 (ci := 1) (C := RX1) (T := TX1) (N := 8) rfl rfl 1 (by decide) (hts _ rw_84) (fun _ h => h) (v := .int (nI n)) rfl dX1_turnInto_85 ?_
                    refine lv_iconst hx hb dX1_turnInto_88 (v := nI 1) (by decide) ?_
                    refine rs_isub hx hb dX1_turnInto_89 (v := nI (n - 1)) (pk_sub (by omega)) ?_
                    refine lv_iload_n hx hb dX1_turnInto_90 rfl (lv_at hl 3 rfl) ?_
                    refine rs_isub hx hb dX1_turnInto_91 (v := nI ((n - 1) - i)) (pk_sub (by omega)) ?_
                    refine rs_lald hx hb hK hP (3 + a) 1 (co_3 (P := fun z => ((wC aI aJ aL q d n kn rz ac up ar wk) ++ (wC aI aJ aL q2 d n kn2 rz2 ac2 up2 ar2 wk2))[3 + z]? = some (q (3 + z), .inl (aJ, 19, .inr (.inl (rz z))))) rfl rfl rfl (by omega)) rfl (i := ((n - 1) - i)) (by omega) (by decide) (v := rz a ((n - 1) - i)) rfl dX1_turnInto_92 ?_
                    refine rs_last hx hb hK hP hD hS (11 + a) 1 (co_3 (P := fun z => ((wC aI aJ aL q d n kn rz ac up ar wk) ++ (wC aI aJ aL q2 d n kn2 rz2 ac2 up2 ar2 wk2))[11 + z]? = some (q2 (3 + z), .inl (aJ, 19, .inr (.inl (rz2 z))))) rfl rfl rfl (by omega)) rfl (i := i) (by omega) (by decide) dX1_turnInto_93 (ws' := (wC aI aJ aL q d n kn rz ac up ar wk) ++ (wC aI aJ aL q2 d n kn2 (rs_upR rz2 a i (rz a ((n - 1) - i))) ac2 up2 ar2 wk2)) (co_3 (P := fun z => ((wC aI aJ aL q d n kn rz ac up ar wk) ++ (wC aI aJ aL q2 d n kn2 rz2 ac2 up2 ar2 wk2)).set (11 + z) (q2 (3 + z), .inl (aJ, 19, .inr (.inl (vp_updL (rz2 z) i (rz a ((n - 1) - i)))))) = ((wC aI aJ aL q d n kn rz ac up ar wk) ++ (wC aI aJ aL q2 d n kn2 (rs_upR rz2 z i (rz a ((n - 1) - i))) ac2 up2 ar2 wk2))) rfl rfl rfl (by omega)) (fun H locs hP hD hS => ?_)
                    refine lv_iinc hx hb dX1_turnInto_94 hl (k := 3) rfl (v := nI (i + 1)) (rs_inc _ _) (by decide) (lv' := [(3, .int (nI (i + 1))), (0, .ref (q 0)), (1, .ref (q2 0)), (2, .int (nI a))]) rfl (fun ls hl => ?_)
                    refine lv_goto hx hb dX1_turnInto_97 (tgt := 63) rfl ?_
                    exact ih_63 (i + 1) _ _ _ _ (by omega) (by omega) (rs_G_up hG) (lv_sub hl [1, 2, 3, 0] rfl) hP hD hS
              exact L_63 ((n - 0) + 1) 0 rz2 _ _ _ (Nat.lt_succ_self _) (Nat.zero_le _) hG (lv_sub hl [1, 2, 3, 0] rfl) hP hD hS
        exact L_56 ((3 - 0) + 1) 0 rz2 _ _ _ (Nat.lt_succ_self _) (Nat.zero_le _) (by intro b j h; omega) (lv_sub hl [1, 2, 0] rfl) hP hD hS
      · have h_23 : i < (n + d + 1) := Nat.lt_of_not_le (fun z => h_23 ((nI_leI (by omega) (by omega)).2 z))
        refine lv_aload_n hx hb dX1_turnInto_26 rfl (lv_at hl 1 rfl) ?_
        refine va_get hx hb hts inX1 hown hK hP 8 (ci := 1) (C := RX1) (T := TX1) (N := 8) rfl rfl 2 (by decide) (hts _ rw_88) (fun _ h => h) (v := .ref (q2 1)) rfl dX1_turnInto_27 ?_
        refine lv_iload_n hx hb dX1_turnInto_30 rfl (lv_at hl 2 rfl) ?_
        refine lv_bipush hx hb dX1_turnInto_31 (v := nI 6) (by decide) ?_
        refine lv_aload_n hx hb dX1_turnInto_33 rfl (lv_at hl 0 rfl) ?_
        refine va_get hx hb hts inX1 hown hK hP 0 (ci := 1) (C := RX1) (T := TX1) (N := 8) rfl rfl 2 (by decide) (hts _ rw_88) (fun _ h => h) (v := .ref (q 1)) rfl dX1_turnInto_34 ?_
        refine lv_aload_n hx hb dX1_turnInto_37 rfl (lv_at hl 0 rfl) ?_
        refine rs_cVI (rest := [.ref (q 1), .int (nI 6), .int (nI i), .ref (q2 1)]) (wr := (wC aI aJ aL q2 d n kn2 rz2 ac2 up2 ar2 wk2)) (ws' := fun u_38 => (wC aI aJ aL q d n kn rz ac up ar wk) ++ (wC aI aJ aL q2 d n kn2 rz2 ac2 up2 ar2 wk2)) ⟨hx, hb, hml, hown, hts⟩ (c_X1_knotCount l D aI aJ aL _ q d n kn rz ac up ar wk hd hn) (cwV 0 hts (rs_gV rw_212 rw_213 rw_214 rw_4 rw_215) rfl rfl rfl (by decide +kernel) ⟨Nat.le_of_ble_eq_true rfl, Nat.le_of_ble_eq_true rfl⟩) hK hN hP hD hS hA [0, 1, 2, 3, 4, 5, 6, 7] [8, 9, 10, 11, 12, 13, 14, 15] [8, 9, 10, 11, 12, 13, 14, 15, 0, 1, 2, 3, 4, 5, 6, 7] (by decide) rfl rfl (fun _ => rfl) 0 rfl rfl hl.1 rfl rfl (Nat.le_of_ble_eq_true rfl) dX1_turnInto_38 ⟨Nat.le_refl _, Nat.le_refl _⟩ (fun u_38 H locs hP hD hS => ?_)
        have hP : va_P D vwCl ((wC aI aJ aL q d n kn rz ac up ar wk) ++ (wC aI aJ aL q2 d n kn2 rz2 ac2 up2 ar2 wk2)) H := hP
        have hD : va_D A ((wC aI aJ aL q d n kn rz ac up ar wk) ++ (wC aI aJ aL q2 d n kn2 rz2 ac2 up2 ar2 wk2)) := hD
        refine lv_iconst hx hb dX1_turnInto_41 (v := nI 1) (by decide) ?_
        refine rs_isub hx hb dX1_turnInto_42 (v := nI ((n + d + 1) - 1)) (pk_sub (by omega)) ?_
        refine lv_iload_n hx hb dX1_turnInto_43 rfl (lv_at hl 2 rfl) ?_
        refine rs_isub hx hb dX1_turnInto_44 (v := nI (((n + d + 1) - 1) - i)) (pk_sub (by omega)) ?_
        refine rs_iald hx hb hK hP 1 0 rfl rfl (i := (((n + d + 1) - 1) - i)) (by omega) (by decide) (v := nI (kn (((n + d + 1) - 1) - i))) rfl dX1_turnInto_45 ?_
        have hk9 := hk (n + d + 1 - 1 - i)
        refine rs_isub hx hb dX1_turnInto_46 (v := nI (6 - (kn (((n + d + 1) - 1) - i)))) (pk_sub (by omega)) ?_
        refine rs_iast hx hb hK hP hD hS 9 0 rfl rfl (i := i) (by omega) (by decide) (rs_upI _ _ _) dX1_turnInto_47 (ws' := (wC aI aJ aL q d n kn rz ac up ar wk) ++ (wC aI aJ aL q2 d n (rs_up kn2 i (6 - (kn (((n + d + 1) - 1) - i)))) rz2 ac2 up2 ar2 wk2)) rfl (fun H locs hP hD hS => ?_)
        refine lv_iinc hx hb dX1_turnInto_48 hl (k := 2) rfl (v := nI (i + 1)) (rs_inc _ _) (by decide) (lv' := [(2, .int (nI (i + 1))), (0, .ref (q 0)), (1, .ref (q2 0))]) rfl (fun ls hl => ?_)
        refine lv_goto hx hb dX1_turnInto_51 (tgt := 18) rfl ?_
        exact ih_18 (i + 1) _ _ _ _ (by omega) (by omega) (rs_up_le hk2 (by omega)) (rs_wN_up hKn (by rw [show n + d + 1 - 1 - i = n + d - i by omega])) (lv_sub hl [1, 2, 0] rfl) hP hD hS
  exact L_18 ((n + d + 1 - 0) + 1) 0 kn2 _ _ _ (Nat.lt_succ_self _) (Nat.zero_le _) hk2 lt_0 (lv_sub hl [1, 2, 0] rfl) hP hD hS

def rm_X1_raised : Room := { frames := 3, cells := 0, slots := 0, locals := 242 }
set_option maxHeartbeats 4000000 in
set_option maxRecDepth 100000 in
theorem c_X1_raised (l : Launch) (D : va_G) (aI aJ aL : ClassId) (sz : Nat) (q : Nat → Nat) (d : Nat) (n : Nat) (kn : Nat → Nat) (rz : Nat → Nat → Int64) (ac : Int32) (up : Int32) (ar : Nat → Nat) (wk : Nat → Int64) (q2 : Nat → Nat) (n2 : Nat) (kn2 : Nat → Nat) (rz2 : Nat → Nat → Int64) (ac2 : Int32) (up2 : Int32) (ar2 : Nat → Nat) (wk2 : Nat → Int64) (ax : Nat) (i : Nat) (hd : d ≤ 2) (hn : n ≤ 19) (hdn : d + 1 ≤ n) (hk : ∀ i, kn i ≤ 6) (hk2 : ∀ i, kn2 i ≤ 6) (hax : ax < 3) (hi : i + d + 1 ≤ 22) : rs_ML (S := (Nat → Nat) × (Nat → Int64)) l yX1_raised (Cond.code yX1_raised prog_3_method_16_code 10 (some .long) :: rsW) rm_X1_raised D vwCl (rs_tys aI aJ aL) rs_nw [.ref (q 0), .ref (q2 0), .int (nI ax), .int (nI i)] ((wC aI aJ aL q d n kn rz ac up ar wk) ++ (wC aI aJ aL q2 (d + 1) n2 kn2 rz2 ac2 up2 ar2 wk2)) sz (rs_rai kn d n rz kn2 ax i) (fun uu => (wC aI aJ aL q d n kn rz ac up uu.1 uu.2) ++ (wC aI aJ aL q2 (d + 1) n2 kn2 rz2 ac2 up2 ar2 wk2)) := by
  refine rs_ent (cc := cX1_raised) (maxL := 10) (ret := some .long) (Qc := rs_QL D vwCl _ _ _) (by decide) rfl (Nat.le_of_ble_eq_true rfl) ?_
  intro p e s m args below meth c ls A Q hx hb hr hml hlk hts hown hin hK hN hP hD hS hA hQ hl
  have hl : lv_has ls 10 [(0, .ref (q 0)), (1, .ref (q2 0)), (2, .int (nI ax)), (3, .int (nI i))] := hl
  refine lv_aload_n hx hb dX1_raised_0 rfl (lv_at hl 0 rfl) ?_
  refine lv_bipush hx hb dX1_raised_1 (v := nI 60) (by decide) ?_
  refine lv_aload_n hx hb dX1_raised_3 rfl (lv_at hl 1 rfl) ?_
  refine va_get hx hb hts inX1 hown hK hP 8 (ci := 1) (C := RX1) (T := TX1) (N := 8) rfl rfl 2 (by decide) (hts _ rw_88) (fun _ h => h) (v := .ref (q2 1)) rfl dX1_raised_4 ?_
  refine lv_iload_n hx hb dX1_raised_7 rfl (lv_at hl 3 rfl) ?_
  have hk9 := hk2 i
  refine rs_iald hx hb hK hP 9 0 rfl rfl (i := i) (by omega) (by decide) (v := nI (kn2 i)) rfl dX1_raised_8 ?_
  refine rs_imul hx hb dX1_raised_9 (v := nI (60 * (kn2 i))) (pk_mul _ _) ?_
  refine rs_cVI (rest := []) (wr := (wC aI aJ aL q2 (d + 1) n2 kn2 rz2 ac2 up2 ar2 wk2)) (ws' := fun u_10 => (wC aI aJ aL q d n kn rz ac up ar wk) ++ (wC aI aJ aL q2 (d + 1) n2 kn2 rz2 ac2 up2 ar2 wk2)) ⟨hx, hb, hml, hown, hts⟩ (c_X1_spanOf l D aI aJ aL _ q d n kn rz ac up ar wk (60 * (kn2 i)) (by omega) hn hk (by omega)) (cwV 1 hts (rs_gV rw_205 rw_206 rw_207 rw_4 rw_208) rfl rfl rfl (by decide +kernel) ⟨Nat.le_of_ble_eq_true rfl, Nat.le_of_ble_eq_true rfl⟩) hK hN hP hD hS hA [0, 1, 2, 3, 4, 5, 6, 7] [8, 9, 10, 11, 12, 13, 14, 15] [8, 9, 10, 11, 12, 13, 14, 15, 0, 1, 2, 3, 4, 5, 6, 7] (by decide) rfl rfl (fun _ => rfl) 0 rfl rfl hl.1 rfl rfl (Nat.le_of_ble_eq_true rfl) dX1_raised_10 ⟨Nat.le_refl _, Nat.le_refl _⟩ (fun u_10 H locs hP hD hS => ?_)
  have hP : va_P D vwCl ((wC aI aJ aL q d n kn rz ac up ar wk) ++ (wC aI aJ aL q2 (d + 1) n2 kn2 rz2 ac2 up2 ar2 wk2)) H := hP
  have hD : va_D A ((wC aI aJ aL q d n kn rz ac up ar wk) ++ (wC aI aJ aL q2 (d + 1) n2 kn2 rz2 ac2 up2 ar2 wk2)) := hD
  have hp1 := rs_sp_le kn d (60 * kn2 i) (n - (d + 1))
  refine lv_istore hx hb dX1_raised_13 hl (lv' := [(4, .int (nI (rs_sp kn d (60 * (kn2 i)) (n - (d + 1))))), (0, .ref (q 0)), (1, .ref (q2 0)), (2, .int (nI ax)), (3, .int (nI i))]) (by decide) rfl (fun ls hl => ?_)
  refine lv_lconst hx hb dX1_raised_15 (v := 0) (by decide) ?_
  refine lv_lstore hx hb dX1_raised_16 hl (lv' := [(5, .long 0), (4, .int (nI (rs_sp kn d (60 * (kn2 i)) (n - (d + 1))))), (0, .ref (q 0)), (1, .ref (q2 0)), (2, .int (nI ax)), (3, .int (nI i))]) (by decide) rfl (fun ls hl => ?_)
  refine lv_iconst hx hb dX1_raised_18 (v := nI 1) (by decide) ?_
  refine lv_istore hx hb dX1_raised_19 hl (lv' := [(7, .int (nI 1)), (5, .long 0), (4, .int (nI (rs_sp kn d (60 * (kn2 i)) (n - (d + 1))))), (0, .ref (q 0)), (1, .ref (q2 0)), (2, .int (nI ax)), (3, .int (nI i))]) (by decide) rfl (fun ls hl => ?_)
  have L_21 : ∀ (k_21 : Nat) (v : Nat) (ar : Nat → Nat) (wk : Nat → Int64) (H : Heap) (locs : List Loc) (ls : Array Slot), d + 1 - v < k_21 → (v ≤ d + 1) → lv_has ls 10 [(0, .ref (q 0)), (1, .ref (q2 0)), (2, .int (nI ax)), (3, .int (nI i)), (4, .int (nI (rs_sp kn d (60 * kn2 i) (n - (d + 1))))), (5, .long (rs_sumL (fun v => rs_bl kn d n rz (rs_us kn2 i v) ax (rs_sp kn d (60 * kn2 i) (n - (d + 1))) d d) v)), (7, .int (nI (v + 1)))] → va_P D vwCl ((wC aI aJ aL q d n kn rz ac up ar wk) ++ (wC aI aJ aL q2 (d + 1) n2 kn2 rz2 ac2 up2 ar2 wk2)) H → va_D A ((wC aI aJ aL q d n kn rz ac up ar wk) ++ (wC aI aJ aL q2 (d + 1) n2 kn2 rz2 ac2 up2 ar2 wk2)) → va_S A s.heap H locs → W p l e rm_X1_raised s m args below meth c H locs 0 0 Q (F0 m 21 ls []) := by
    intro k_21
    induction k_21 with
    | zero => intro v ar wk H locs ls hk_21; exact absurd hk_21 (Nat.not_lt_zero _)
    | succ k_21 ih_21 =>
      intro v ar wk H locs ls hk_21 hv hl hP hD hS
      refine lv_iload hx hb dX1_raised_21 (lv_at hl 6 rfl) ?_
      refine lv_aload_n hx hb dX1_raised_23 rfl (lv_at hl 1 rfl) ?_
      refine va_get hx hb hts inX1 hown hK hP 8 (ci := 1) (C := RX1) (T := TX1) (N := 8) rfl rfl 0 (by decide) (hts _ rw_80) (fun _ h => h) (v := .int (nI (d + 1))) rfl dX1_raised_24 ?_
      refine lv_icmp_gt hx hb dX1_raised_27 (tgt := 98) rfl (fun h_27 => ?_) (fun h_27 => ?_)
      · have h_27 : (d + 1) < (v + 1) := (nI_ltI (by omega) (by omega)).1 h_27
        refine lv_aload_n hx hb dX1_raised_98 rfl (lv_at hl 1 rfl) ?_
        refine va_get hx hb hts inX1 hown hK hP 8 (ci := 1) (C := RX1) (T := TX1) (N := 8) rfl rfl 0 (by decide) (hts _ rw_80) (fun _ h => h) (v := .int (nI (d + 1))) rfl dX1_raised_99 ?_
        refine lv_i2l hx hb dX1_raised_102 (v := (lN (d + 1))) (nI_l (by omega)) ?_
        refine lv_lstore hx hb dX1_raised_103 hl (lv' := [(7, .long (lN (d + 1))), (0, .ref (q 0)), (1, .ref (q2 0)), (2, .int (nI ax)), (3, .int (nI i)), (4, .int (nI (rs_sp kn d (60 * kn2 i) (n - (d + 1))))), (5, .long (rs_sumL (fun v => rs_bl kn d n rz (rs_us kn2 i v) ax (rs_sp kn d (60 * kn2 i) (n - (d + 1))) d d) v))]) (by decide) rfl (fun ls hl => ?_)
        refine lv_iconst hx hb dX1_raised_105 (v := nI 0) (by decide) ?_
        refine lv_istore hx hb dX1_raised_106 hl (lv' := [(9, .int (nI 0)), (7, .long (lN (d + 1))), (0, .ref (q 0)), (1, .ref (q2 0)), (2, .int (nI ax)), (3, .int (nI i)), (4, .int (nI (rs_sp kn d (60 * kn2 i) (n - (d + 1))))), (5, .long (rs_sumL (fun v => rs_bl kn d n rz (rs_us kn2 i v) ax (rs_sp kn d (60 * kn2 i) (n - (d + 1))) d d) v))]) (by decide) rfl (fun ls hl => ?_)
        have L_108 : ∀ (k_108 : Nat) (w : Nat) (H : Heap) (locs : List Loc) (ls : Array Slot), d - w < k_108 → (w ≤ d) → lv_has ls 10 [(0, .ref (q 0)), (1, .ref (q2 0)), (5, .long (rs_sumL (fun v => rs_bl kn d n rz (rs_us kn2 i v) ax (rs_sp kn d (60 * kn2 i) (n - (d + 1))) d d) v)), (7, .long (rs_p60 (lN (d + 1)) w)), (9, .int (nI w))] → va_P D vwCl ((wC aI aJ aL q d n kn rz ac up ar wk) ++ (wC aI aJ aL q2 (d + 1) n2 kn2 rz2 ac2 up2 ar2 wk2)) H → va_D A ((wC aI aJ aL q d n kn rz ac up ar wk) ++ (wC aI aJ aL q2 (d + 1) n2 kn2 rz2 ac2 up2 ar2 wk2)) → va_S A s.heap H locs → W p l e rm_X1_raised s m args below meth c H locs 0 0 Q (F0 m 108 ls []) := by
          intro k_108
          induction k_108 with
          | zero => intro w H locs ls hk_108; exact absurd hk_108 (Nat.not_lt_zero _)
          | succ k_108 ih_108 =>
            intro w H locs ls hk_108 hw2 hl hP hD hS
            refine lv_iload hx hb dX1_raised_108 (lv_at hl 4 rfl) ?_
            refine lv_aload_n hx hb dX1_raised_110 rfl (lv_at hl 0 rfl) ?_
            refine va_get hx hb hts inX1 hown hK hP 0 (ci := 1) (C := RX1) (T := TX1) (N := 8) rfl rfl 0 (by decide) (hts _ rw_80) (fun _ h => h) (v := .int (nI d)) rfl dX1_raised_111 ?_
            refine lv_icmp_ge hx hb dX1_raised_114 (tgt := 131) rfl (fun h_114 => ?_) (fun h_114 => ?_)
            · have h_114 : d ≤ w := (nI_leI (by omega) (by omega)).1 h_114
              refine lv_lload hx hb dX1_raised_131 (lv_at hl 2 rfl) ?_
              refine lv_lload hx hb dX1_raised_133 (lv_at hl 3 rfl) ?_
              refine rs_cSL (rest := []) (wr := (wC aI aJ aL q d n kn rz ac up ar wk) ++ (wC aI aJ aL q2 (d + 1) n2 kn2 rz2 ac2 up2 ar2 wk2)) (ws' := fun u_135 => (wC aI aJ aL q d n kn rz ac up ar wk) ++ (wC aI aJ aL q2 (d + 1) n2 kn2 rz2 ac2 up2 ar2 wk2)) ⟨hx, hb, hml, hown, hts⟩ (c_X1_quotient l D aI aJ aL _ (rs_sumL (fun v => rs_bl kn d n rz (rs_us kn2 i v) ax (rs_sp kn d (60 * kn2 i) (n - (d + 1))) d d) v) (rs_p60 (lN (d + 1)) w) ) (cwS 2 hts (rs_gS rw_235 rw_236 rw_4 rw_237) rfl rfl rfl (by decide +kernel) ⟨Nat.le_of_ble_eq_true rfl, Nat.le_of_ble_eq_true rfl⟩) hK hN hP hD hS hA [] [0, 1, 2, 3, 4, 5, 6, 7, 8, 9, 10, 11, 12, 13, 14, 15] [0, 1, 2, 3, 4, 5, 6, 7, 8, 9, 10, 11, 12, 13, 14, 15] (by decide) rfl rfl (fun _ => rfl) hl.1 rfl rfl (Nat.le_of_ble_eq_true rfl) dX1_raised_135 ⟨Nat.le_refl _, Nat.le_refl _⟩ (fun u_135 H locs hP hD hS => ?_)
              have hP : va_P D vwCl ((wC aI aJ aL q d n kn rz ac up ar wk) ++ (wC aI aJ aL q2 (d + 1) n2 kn2 rz2 ac2 up2 ar2 wk2)) H := hP
              have hD : va_D A ((wC aI aJ aL q d n kn rz ac up ar wk) ++ (wC aI aJ aL q2 (d + 1) n2 kn2 rz2 ac2 up2 ar2 wk2)) := hD
              exact rs_lret (ar, wk) hx hb hr hlk hQ hK hP hD hS (by rw [show v = d + 1 by omega, show w = d by omega]; rfl) rfl dX1_raised_138
            · have h_114 : w < d := Nat.lt_of_not_le (fun z => h_114 ((nI_leI (by omega) (by omega)).2 z))
              refine lv_lload hx hb dX1_raised_117 (lv_at hl 3 rfl) ?_
              refine lv_ldc2 hx hb hown (hts _ rw_290) dX1_raised_119 ?_
              refine lv_lmul hx hb dX1_raised_122 ?_
              refine lv_lstore hx hb dX1_raised_123 hl (lv' := [(7, .long ((rs_p60 (lN (d + 1)) w) * 60)), (0, .ref (q 0)), (1, .ref (q2 0)), (5, .long (rs_sumL (fun v => rs_bl kn d n rz (rs_us kn2 i v) ax (rs_sp kn d (60 * kn2 i) (n - (d + 1))) d d) v)), (9, .int (nI w))]) (by decide) rfl (fun ls hl => ?_)
              refine lv_iinc hx hb dX1_raised_125 hl (k := 4) rfl (v := nI (w + 1)) (rs_inc _ _) (by decide) (lv' := [(9, .int (nI (w + 1))), (7, .long ((rs_p60 (lN (d + 1)) w) * 60)), (0, .ref (q 0)), (1, .ref (q2 0)), (5, .long (rs_sumL (fun v => rs_bl kn d n rz (rs_us kn2 i v) ax (rs_sp kn d (60 * kn2 i) (n - (d + 1))) d d) v))]) rfl (fun ls hl => ?_)
              refine lv_goto hx hb dX1_raised_128 (tgt := 108) rfl ?_
              exact ih_108 (w + 1) _ _ _ (by omega) (by omega) (lv_sub hl [2, 3, 4, 1, 0] rfl) hP hD hS
        exact L_108 ((d - 0) + 1) 0 _ _ _ (Nat.lt_succ_self _) (by omega) (lv_sub hl [2, 3, 7, 1, 0] rfl) hP hD hS
      · have h_27 : (v + 1) ≤ (d + 1) := Nat.le_of_not_lt (fun z => h_27 ((nI_ltI (by omega) (by omega)).2 z))
        refine lv_iconst hx hb dX1_raised_30 (v := nI 0) (by decide) ?_
        refine lv_istore hx hb dX1_raised_31 hl (lv' := [(8, .int (nI 0)), (0, .ref (q 0)), (1, .ref (q2 0)), (2, .int (nI ax)), (3, .int (nI i)), (4, .int (nI (rs_sp kn d (60 * kn2 i) (n - (d + 1))))), (5, .long (rs_sumL (fun v => rs_bl kn d n rz (rs_us kn2 i v) ax (rs_sp kn d (60 * kn2 i) (n - (d + 1))) d d) v)), (7, .int (nI (v + 1)))]) (by decide) rfl (fun ls hl => ?_)
        refine lv_iconst hx hb dX1_raised_33 (v := nI 1) (by decide) ?_
        refine lv_istore hx hb dX1_raised_34 hl (lv' := [(9, .int (nI 1)), (8, .int (nI 0)), (0, .ref (q 0)), (1, .ref (q2 0)), (2, .int (nI ax)), (3, .int (nI i)), (4, .int (nI (rs_sp kn d (60 * kn2 i) (n - (d + 1))))), (5, .long (rs_sumL (fun v => rs_bl kn d n rz (rs_us kn2 i v) ax (rs_sp kn d (60 * kn2 i) (n - (d + 1))) d d) v)), (7, .int (nI (v + 1)))]) (by decide) rfl (fun ls hl => ?_)
        have L_36 : ∀ (k_36 : Nat) (w : Nat) (f : Nat) (ar : Nat → Nat) (H : Heap) (locs : List Loc) (ls : Array Slot), d + 1 - w < k_36 → (w ≤ d + 1) → ((w ≤ v ∧ f = w) ∨ (v < w ∧ f + 1 = w)) → (∀ k, k < f → ar k = rs_us kn2 i v k) → lv_has ls 10 [(0, .ref (q 0)), (1, .ref (q2 0)), (2, .int (nI ax)), (3, .int (nI i)), (4, .int (nI (rs_sp kn d (60 * kn2 i) (n - (d + 1))))), (5, .long (rs_sumL (fun v => rs_bl kn d n rz (rs_us kn2 i v) ax (rs_sp kn d (60 * kn2 i) (n - (d + 1))) d d) v)), (7, .int (nI (v + 1))), (8, .int (nI f)), (9, .int (nI (w + 1)))] → va_P D vwCl ((wC aI aJ aL q d n kn rz ac up ar wk) ++ (wC aI aJ aL q2 (d + 1) n2 kn2 rz2 ac2 up2 ar2 wk2)) H → va_D A ((wC aI aJ aL q d n kn rz ac up ar wk) ++ (wC aI aJ aL q2 (d + 1) n2 kn2 rz2 ac2 up2 ar2 wk2)) → va_S A s.heap H locs → W p l e rm_X1_raised s m args below meth c H locs 0 0 Q (F0 m 36 ls []) := by
          intro k_36
          induction k_36 with
          | zero => intro w f ar H locs ls hk_36; exact absurd hk_36 (Nat.not_lt_zero _)
          | succ k_36 ih_36 =>
            intro w f ar H locs ls hk_36 hw hf har hl hP hD hS
            refine lv_iload hx hb dX1_raised_36 (lv_at hl 8 rfl) ?_
            refine lv_aload_n hx hb dX1_raised_38 rfl (lv_at hl 1 rfl) ?_
            refine va_get hx hb hts inX1 hown hK hP 8 (ci := 1) (C := RX1) (T := TX1) (N := 8) rfl rfl 0 (by decide) (hts _ rw_80) (fun _ h => h) (v := .int (nI (d + 1))) rfl dX1_raised_39 ?_
            refine lv_icmp_gt hx hb dX1_raised_42 (tgt := 80) rfl (fun h_42 => ?_) (fun h_42 => ?_)
            · have h_42 : (d + 1) < (w + 1) := (nI_ltI (by omega) (by omega)).1 h_42
              refine lv_lload hx hb dX1_raised_80 (lv_at hl 5 rfl) ?_
              refine lv_aload_n hx hb dX1_raised_82 rfl (lv_at hl 0 rfl) ?_
              refine lv_iload_n hx hb dX1_raised_83 rfl (lv_at hl 2 rfl) ?_
              refine lv_iload hx hb dX1_raised_84 (lv_at hl 4 rfl) ?_
              refine rs_cVL (rest := [.long (rs_sumL (fun v => rs_bl kn d n rz (rs_us kn2 i v) ax (rs_sp kn d (60 * kn2 i) (n - (d + 1))) d d) v)]) (wr := (wC aI aJ aL q2 (d + 1) n2 kn2 rz2 ac2 up2 ar2 wk2)) (ws' := fun u_86 => (wC aI aJ aL q d n kn rz ac up ar u_86) ++ (wC aI aJ aL q2 (d + 1) n2 kn2 rz2 ac2 up2 ar2 wk2)) ⟨hx, hb, hml, hown, hts⟩ (c_X1_blossom l D aI aJ aL _ q d n kn rz ac up ar wk ax (rs_sp kn d (60 * kn2 i) (n - (d + 1))) (rs_us kn2 i v) (by omega) hn hax (by omega) (by omega) (fun k hk => har k (by omega))) (cwV 2 hts (rs_gV rw_286 rw_288 rv_8 rw_4 rw_289) rfl rfl rfl (by decide +kernel) ⟨Nat.le_of_ble_eq_true rfl, Nat.le_of_ble_eq_true rfl⟩) hK hN hP hD hS hA [0, 1, 2, 3, 4, 5, 6, 7] [8, 9, 10, 11, 12, 13, 14, 15] [8, 9, 10, 11, 12, 13, 14, 15, 0, 1, 2, 3, 4, 5, 6, 7] (by decide) rfl rfl (fun _ => rfl) 0 rfl rfl hl.1 rfl rfl (Nat.le_of_ble_eq_true rfl) dX1_raised_86 ⟨Nat.le_refl _, Nat.le_refl _⟩ (fun u_86 H locs hP hD hS => ?_)
              have hP : va_P D vwCl ((wC aI aJ aL q d n kn rz ac up ar u_86) ++ (wC aI aJ aL q2 (d + 1) n2 kn2 rz2 ac2 up2 ar2 wk2)) H := hP
              have hD : va_D A ((wC aI aJ aL q d n kn rz ac up ar u_86) ++ (wC aI aJ aL q2 (d + 1) n2 kn2 rz2 ac2 up2 ar2 wk2)) := hD
              refine lv_ladd hx hb dX1_raised_89 ?_
              refine lv_lstore hx hb dX1_raised_90 hl (lv' := [(5, .long ((rs_sumL (fun v => rs_bl kn d n rz (rs_us kn2 i v) ax (rs_sp kn d (60 * kn2 i) (n - (d + 1))) d d) v) + (rs_bl kn d n rz (rs_us kn2 i v) ax (rs_sp kn d (60 * kn2 i) (n - (d + 1))) d d))), (0, .ref (q 0)), (1, .ref (q2 0)), (2, .int (nI ax)), (3, .int (nI i)), (4, .int (nI (rs_sp kn d (60 * kn2 i) (n - (d + 1))))), (7, .int (nI (v + 1))), (8, .int (nI f)), (9, .int (nI (w + 1)))]) (by decide) rfl (fun ls hl => ?_)
              refine lv_iinc hx hb dX1_raised_92 hl (k := 6) rfl (v := nI ((v + 1) + 1)) (rs_inc _ _) (by decide) (lv' := [(7, .int (nI ((v + 1) + 1))), (5, .long ((rs_sumL (fun v => rs_bl kn d n rz (rs_us kn2 i v) ax (rs_sp kn d (60 * kn2 i) (n - (d + 1))) d d) v) + (rs_bl kn d n rz (rs_us kn2 i v) ax (rs_sp kn d (60 * kn2 i) (n - (d + 1))) d d))), (0, .ref (q 0)), (1, .ref (q2 0)), (2, .int (nI ax)), (3, .int (nI i)), (4, .int (nI (rs_sp kn d (60 * kn2 i) (n - (d + 1))))), (8, .int (nI f)), (9, .int (nI (w + 1)))]) rfl (fun ls hl => ?_)
              refine lv_goto hx hb dX1_raised_95 (tgt := 21) rfl ?_
              exact ih_21 (v + 1) _ _ _ _ _ (by omega) (by omega) (lv_sub hl [2, 3, 4, 5, 6, 1, 0] rfl) hP hD hS
            · have h_42 : (w + 1) ≤ (d + 1) := Nat.le_of_not_lt (fun z => h_42 ((nI_ltI (by omega) (by omega)).2 z))
              refine lv_iload hx hb dX1_raised_45 (lv_at hl 8 rfl) ?_
              refine lv_iload hx hb dX1_raised_47 (lv_at hl 6 rfl) ?_
              refine lv_icmp_eq hx hb dX1_raised_49 (tgt := 74) rfl (fun h_49 => ?_) (fun h_49 => ?_)
              · have h_49 : (w + 1) = (v + 1) := (nI_eq (by omega) (by omega)).1 h_49
                refine lv_iinc hx hb dX1_raised_74 hl (k := 8) rfl (v := nI ((w + 1) + 1)) (rs_inc _ _) (by decide) (lv' := [(9, .int (nI ((w + 1) + 1))), (0, .ref (q 0)), (1, .ref (q2 0)), (2, .int (nI ax)), (3, .int (nI i)), (4, .int (nI (rs_sp kn d (60 * kn2 i) (n - (d + 1))))), (5, .long (rs_sumL (fun v => rs_bl kn d n rz (rs_us kn2 i v) ax (rs_sp kn d (60 * kn2 i) (n - (d + 1))) d d) v)), (7, .int (nI (v + 1))), (8, .int (nI f))]) rfl (fun ls hl => ?_)
                refine lv_goto hx hb dX1_raised_77 (tgt := 36) rfl ?_
                exact ih_36 (w + 1) _ _ _ _ _ (by omega) (by omega) (by omega) (by first | exact har | exact rs_wN_up har (rs_us_eq (by omega))) (lv_sub hl [1, 2, 3, 4, 5, 6, 7, 8, 0] rfl) hP hD hS
              · have h_49 : ¬ (w + 1) = (v + 1) := fun z => h_49 ((nI_eq (by omega) (by omega)).2 z)
                refine lv_aload_n hx hb dX1_raised_52 rfl (lv_at hl 0 rfl) ?_
                refine va_get hx hb hts inX1 hown hK hP 0 (ci := 1) (C := RX1) (T := TX1) (N := 8) rfl rfl 6 (by decide) (hts _ rw_100) (fun _ h => h) (v := .ref (q 6)) rfl dX1_raised_53 ?_
                refine lv_iload hx hb dX1_raised_56 (lv_at hl 7 rfl) ?_
                refine lv_iinc hx hb dX1_raised_58 hl (k := 7) rfl (v := nI (f + 1)) (rs_inc _ _) (by decide) (lv' := [(8, .int (nI (f + 1))), (0, .ref (q 0)), (1, .ref (q2 0)), (2, .int (nI ax)), (3, .int (nI i)), (4, .int (nI (rs_sp kn d (60 * kn2 i) (n - (d + 1))))), (5, .long (rs_sumL (fun v => rs_bl kn d n rz (rs_us kn2 i v) ax (rs_sp kn d (60 * kn2 i) (n - (d + 1))) d d) v)), (7, .int (nI (v + 1))), (9, .int (nI (w + 1)))]) rfl (fun ls hl => ?_)
                refine lv_bipush hx hb dX1_raised_61 (v := nI 60) (by decide) ?_
                refine lv_aload_n hx hb dX1_raised_63 rfl (lv_at hl 2 rfl) ?_
                refine va_get hx hb hts inX1 hown hK hP 8 (ci := 1) (C := RX1) (T := TX1) (N := 8) rfl rfl 2 (by decide) (hts _ rw_88) (fun _ h => h) (v := .ref (q2 1)) rfl dX1_raised_64 ?_
                refine lv_iload_n hx hb dX1_raised_67 rfl (lv_at hl 4 rfl) ?_
                refine lv_iload hx hb dX1_raised_68 (lv_at hl 8 rfl) ?_
                refine rs_iadd hx hb dX1_raised_70 (v := nI (i + (w + 1))) (nI_add _ _) ?_
                refine rs_iald hx hb hK hP 9 0 rfl rfl (i := (i + (w + 1))) (by omega) (by decide) (v := nI (kn2 (i + (w + 1)))) rfl dX1_raised_71 ?_
                refine rs_imul hx hb dX1_raised_72 (v := nI (60 * (kn2 (i + (w + 1))))) (pk_mul _ _) ?_
                refine rs_iast hx hb hK hP hD hS 6 0 rfl rfl (i := f) (by omega) (by decide) (rs_upI _ _ _) dX1_raised_73 (ws' := (wC aI aJ aL q d n kn rz ac up (rs_up ar f (60 * (kn2 (i + (w + 1))))) wk) ++ (wC aI aJ aL q2 (d + 1) n2 kn2 rz2 ac2 up2 ar2 wk2)) rfl (fun H locs hP hD hS => ?_)
                refine lv_iinc hx hb dX1_raised_74 hl (k := 8) rfl (v := nI ((w + 1) + 1)) (rs_inc _ _) (by decide) (lv' := [(9, .int (nI ((w + 1) + 1))), (8, .int (nI (f + 1))), (0, .ref (q 0)), (1, .ref (q2 0)), (2, .int (nI ax)), (3, .int (nI i)), (4, .int (nI (rs_sp kn d (60 * kn2 i) (n - (d + 1))))), (5, .long (rs_sumL (fun v => rs_bl kn d n rz (rs_us kn2 i v) ax (rs_sp kn d (60 * kn2 i) (n - (d + 1))) d d) v)), (7, .int (nI (v + 1)))]) rfl (fun ls hl => ?_)
                refine lv_goto hx hb dX1_raised_77 (tgt := 36) rfl ?_
                exact ih_36 (w + 1) _ _ _ _ _ (by omega) (by omega) (by omega) (by first | exact har | exact rs_wN_up har (rs_us_eq (by omega))) (lv_sub hl [2, 3, 4, 5, 6, 7, 8, 1, 0] rfl) hP hD hS
        exact L_36 ((d + 1 - 0) + 1) 0 0 ar _ _ _ (Nat.lt_succ_self _) (Nat.zero_le _) (by omega) lt_0 (lv_sub hl [2, 3, 4, 5, 6, 7, 8, 1, 0] rfl) hP hD hS
  exact L_21 ((d + 1 - 0) + 1) 0 ar wk _ _ _ (Nat.lt_succ_self _) (by omega) (lv_sub hl [3, 4, 5, 6, 2, 1, 0] rfl) hP hD hS

def rm_X1_raiseInto : Room := { frames := 4, cells := 0, slots := 0, locals := 335 }
set_option maxHeartbeats 4000000 in
set_option maxRecDepth 100000 in
theorem c_X1_raiseInto (l : Launch) (D : va_G) (aI aJ aL : ClassId) (sz : Nat) (q : Nat → Nat) (d : Nat) (n : Nat) (kn : Nat → Nat) (rz : Nat → Nat → Int64) (ac : Int32) (up : Int32) (ar : Nat → Nat) (wk : Nat → Int64) (q2 : Nat → Nat) (d2 : Nat) (n2 : Nat) (kn2 : Nat → Nat) (rz2 : Nat → Nat → Int64) (ac2 : Int32) (up2 : Int32) (ar2 : Nat → Nat) (wk2 : Nat → Int64) (n3 : Nat) (hd : d ≤ 2) (hn : n ≤ 19) (hdn : d + 1 ≤ n) (hk : ∀ i, kn i ≤ 6) (hk2 : ∀ i, kn2 i ≤ 6) (hrf : ∀ i, i ≤ n + d + 1 → rs_rf kn (n + d + 1) i ≤ 23) (hrn : rs_rf kn (n + d + 1) (n + d + 1) = n3 + d + 2) (hn3 : n3 ≤ 19) : rs_MV (S := {x : (Nat → Nat) × (Nat → Nat → Int64) × (Nat → Nat) × (Nat → Int64) // rs_RK kn (n + d + 1) x.1 (n + d + 1) ∧ (∀ j, x.1 j ≤ 6) ∧ rs_F (fun b j => rs_rai kn d n rz x.1 b j) x.2.1 n3 0}) l yX1_raiseInto (Cond.code yX1_raiseInto prog_3_method_15_code 5 none :: rsW) rm_X1_raiseInto D vwCl (rs_tys aI aJ aL) rs_nw [.ref (q 0), .ref (q2 0)] ((wC aI aJ aL q d n kn rz ac up ar wk) ++ (wC aI aJ aL q2 d2 n2 kn2 rz2 ac2 up2 ar2 wk2)) sz (fun uu => (wC aI aJ aL q d n kn rz ac up uu.1.2.2.1 uu.1.2.2.2) ++ (wC aI aJ aL q2 (d + 1) n3 uu.1.1 uu.1.2.1 ac2 up2 ar2 wk2)) := by
  refine rs_ent (cc := cX1_raiseInto) (maxL := 5) (ret := none) (Qc := rs_QV D vwCl _ _) (by decide) rfl (Nat.le_of_ble_eq_true rfl) ?_
  intro p e s m args below meth c ls A Q hx hb hr hml hlk hts hown hin hK hN hP hD hS hA hQ hl
  have hl : lv_has ls 5 [(0, .ref (q 0)), (1, .ref (q2 0))] := hl
  refine lv_iconst hx hb dX1_raiseInto_0 (v := nI 0) (by decide) ?_
  refine lv_istore_n hx hb dX1_raiseInto_1 rfl hl (lv' := [(2, .int (nI 0)), (0, .ref (q 0)), (1, .ref (q2 0))]) (by decide) rfl (fun ls hl => ?_)
  refine lv_iconst hx hb dX1_raiseInto_2 (v := nI 0) (by decide) ?_
  refine lv_istore_n hx hb dX1_raiseInto_3 rfl hl (lv' := [(3, .int (nI 0)), (2, .int (nI 0)), (0, .ref (q 0)), (1, .ref (q2 0))]) (by decide) rfl (fun ls hl => ?_)
  have L_4 : ∀ (k_4 : Nat) (i : Nat) (kn2 : Nat → Nat) (H : Heap) (locs : List Loc) (ls : Array Slot), n + d + 1 - i < k_4 → (i ≤ n + d + 1) → (∀ j, kn2 j ≤ 6) → (rs_RK kn (n + d + 1) kn2 i) → lv_has ls 5 [(0, .ref (q 0)), (1, .ref (q2 0)), (2, .int (nI (rs_rf kn (n + d + 1) i))), (3, .int (nI i))] → va_P D vwCl ((wC aI aJ aL q d n kn rz ac up ar wk) ++ (wC aI aJ aL q2 d2 n2 kn2 rz2 ac2 up2 ar2 wk2)) H → va_D A ((wC aI aJ aL q d n kn rz ac up ar wk) ++ (wC aI aJ aL q2 d2 n2 kn2 rz2 ac2 up2 ar2 wk2)) → va_S A s.heap H locs → W p l e rm_X1_raiseInto s m args below meth c H locs 0 0 Q (F0 m 4 ls []) := by
    intro k_4
    induction k_4 with
    | zero => intro i kn2 H locs ls hk_4; exact absurd hk_4 (Nat.not_lt_zero _)
    | succ k_4 ih_4 =>
      intro i kn2 H locs ls hk_4 hi hk2 hRK hl hP hD hS
      refine lv_iload_n hx hb dX1_raiseInto_4 rfl (lv_at hl 3 rfl) ?_
      refine lv_aload_n hx hb dX1_raiseInto_5 rfl (lv_at hl 0 rfl) ?_
      refine rs_cVI (rest := [.int (nI i)]) (wr := (wC aI aJ aL q2 d2 n2 kn2 rz2 ac2 up2 ar2 wk2)) (ws' := fun u_6 => (wC aI aJ aL q d n kn rz ac up ar wk) ++ (wC aI aJ aL q2 d2 n2 kn2 rz2 ac2 up2 ar2 wk2)) ⟨hx, hb, hml, hown, hts⟩ (c_X1_knotCount l D aI aJ aL _ q d n kn rz ac up ar wk (by omega) hn) (cwV 0 hts (rs_gV rw_212 rw_213 rw_214 rw_4 rw_215) rfl rfl rfl (by decide +kernel) ⟨Nat.le_of_ble_eq_true rfl, Nat.le_of_ble_eq_true rfl⟩) hK hN hP hD hS hA [0, 1, 2, 3, 4, 5, 6, 7] [8, 9, 10, 11, 12, 13, 14, 15] [8, 9, 10, 11, 12, 13, 14, 15, 0, 1, 2, 3, 4, 5, 6, 7] (by decide) rfl rfl (fun _ => rfl) 0 rfl rfl hl.1 rfl rfl (Nat.le_of_ble_eq_true rfl) dX1_raiseInto_6 ⟨Nat.le_refl _, Nat.le_refl _⟩ (fun u_6 H locs hP hD hS => ?_)
      have hP : va_P D vwCl ((wC aI aJ aL q d n kn rz ac up ar wk) ++ (wC aI aJ aL q2 d2 n2 kn2 rz2 ac2 up2 ar2 wk2)) H := hP
      have hD : va_D A ((wC aI aJ aL q d n kn rz ac up ar wk) ++ (wC aI aJ aL q2 d2 n2 kn2 rz2 ac2 up2 ar2 wk2)) := hD
      refine lv_icmp_ge hx hb dX1_raiseInto_9 (tgt := 75) rfl (fun h_9 => ?_) (fun h_9 => ?_)
      · have h_9 : (n + d + 1) ≤ i := (nI_leI (by omega) (by omega)).1 h_9
        have hi9 : rs_rf kn (n + d + 1) i = n3 + d + 2 := by rw [show i = n + d + 1 by omega]; exact hrn
        have hRK9 : rs_RK kn (n + d + 1) kn2 (n + d + 1) := by rw [show i = n + d + 1 by omega] at hRK; exact hRK
        refine lv_aload_n hx hb dX1_raiseInto_75 rfl (lv_at hl 1 rfl) ?_
        refine lv_aload_n hx hb dX1_raiseInto_76 rfl (lv_at hl 0 rfl) ?_
        refine va_get hx hb hts inX1 hown hK hP 0 (ci := 1) (C := RX1) (T := TX1) (N := 8) rfl rfl 0 (by decide) (hts _ rw_80) (fun _ h => h) (v := .int (nI d)) rfl dX1_raiseInto_77 ?_
        refine lv_iconst hx hb dX1_raiseInto_80 (v := nI 1) (by decide) ?_
        refine rs_iadd hx hb dX1_raiseInto_81 (v := nI (d + 1)) (nI_add _ _) ?_
        refine va_put hx hb hts inX1 (ty0 := tyX1) tyX1_ok nmX1 hown hK hP hD hS 8 (ci := 1) (C := RX1) (T := TX1) (N := 8) rfl rfl 0 (by decide) (hts _ rw_80) (fun _ h => h) rfl (ty := .int) (by decide +kernel) rfl rfl (Nat.le_of_ble_eq_true rfl) dX1_raiseInto_82 (fun H locs hP hD hS => ?_)
        have hP : va_P D vwCl ((wC aI aJ aL q d n kn rz ac up ar wk) ++ (wC aI aJ aL q2 (d + 1) n2 kn2 rz2 ac2 up2 ar2 wk2)) H := hP
        have hD : va_D A ((wC aI aJ aL q d n kn rz ac up ar wk) ++ (wC aI aJ aL q2 (d + 1) n2 kn2 rz2 ac2 up2 ar2 wk2)) := hD
        refine lv_aload_n hx hb dX1_raiseInto_85 rfl (lv_at hl 1 rfl) ?_
        refine lv_iload_n hx hb dX1_raiseInto_86 rfl (lv_at hl 2 rfl) ?_
        refine lv_aload_n hx hb dX1_raiseInto_87 rfl (lv_at hl 1 rfl) ?_
        refine va_get hx hb hts inX1 hown hK hP 8 (ci := 1) (C := RX1) (T := TX1) (N := 8) rfl rfl 0 (by decide) (hts _ rw_80) (fun _ h => h) (v := .int (nI (d + 1))) rfl dX1_raiseInto_88 ?_
        refine rs_isub hx hb dX1_raiseInto_91 (v := nI ((rs_rf kn (n + d + 1) i) - (d + 1))) (pk_sub (by omega)) ?_
        refine lv_iconst hx hb dX1_raiseInto_92 (v := nI 1) (by decide) ?_
        refine rs_isub hx hb dX1_raiseInto_93 (v := nI n3) (by rw [pk_sub (by omega)]; exact congrArg nI (by omega)) ?_
        refine va_put hx hb hts inX1 (ty0 := tyX1) tyX1_ok nmX1 hown hK hP hD hS 8 (ci := 1) (C := RX1) (T := TX1) (N := 8) rfl rfl 1 (by decide) (hts _ rw_84) (fun _ h => h) rfl (ty := .int) (by decide +kernel) rfl rfl (Nat.le_of_ble_eq_true rfl) dX1_raiseInto_94 (fun H locs hP hD hS => ?_)
        have hP : va_P D vwCl ((wC aI aJ aL q d n kn rz ac up ar wk) ++ (wC aI aJ aL q2 (d + 1) n3 kn2 rz2 ac2 up2 ar2 wk2)) H := hP
        have hD : va_D A ((wC aI aJ aL q d n kn rz ac up ar wk) ++ (wC aI aJ aL q2 (d + 1) n3 kn2 rz2 ac2 up2 ar2 wk2)) := hD
        refine lv_iconst hx hb dX1_raiseInto_97 (v := nI 0) (by decide) ?_
        refine lv_istore_n hx hb dX1_raiseInto_98 rfl hl (lv' := [(3, .int (nI 0)), (0, .ref (q 0)), (1, .ref (q2 0)), (2, .int (nI (rs_rf kn (n + d + 1) i)))]) (by decide) rfl (fun ls hl => ?_)
        have L_99 : ∀ (k_99 : Nat) (i : Nat) (rz2 : Nat → Nat → Int64) (ar : Nat → Nat) (wk : Nat → Int64) (H : Heap) (locs : List Loc) (ls : Array Slot), n3 - i < k_99 → (i ≤ n3) → (rs_F (fun b j => rs_rai kn d n rz kn2 b j) rz2 i 0) → lv_has ls 5 [(0, .ref (q 0)), (1, .ref (q2 0)), (3, .int (nI i))] → va_P D vwCl ((wC aI aJ aL q d n kn rz ac up ar wk) ++ (wC aI aJ aL q2 (d + 1) n3 kn2 rz2 ac2 up2 ar2 wk2)) H → va_D A ((wC aI aJ aL q d n kn rz ac up ar wk) ++ (wC aI aJ aL q2 (d + 1) n3 kn2 rz2 ac2 up2 ar2 wk2)) → va_S A s.heap H locs → W p l e rm_X1_raiseInto s m args below meth c H locs 0 0 Q (F0 m 99 ls []) := by
          intro k_99
          induction k_99 with
          | zero => intro i rz2 ar wk H locs ls hk_99; exact absurd hk_99 (Nat.not_lt_zero _)
          | succ k_99 ih_99 =>
            intro i rz2 ar wk H locs ls hk_99 hi hF hl hP hD hS
            refine lv_iload_n hx hb dX1_raiseInto_99 rfl (lv_at hl 2 rfl) ?_
            refine lv_aload_n hx hb dX1_raiseInto_100 rfl (lv_at hl 1 rfl) ?_
            refine va_get hx hb hts inX1 hown hK hP 8 (ci := 1) (C := RX1) (T := TX1) (N := 8) rfl rfl 1 (by decide) (hts _ rw_84) (fun _ h => h) (v := .int (nI n3)) rfl dX1_raiseInto_101 ?_
            refine lv_icmp_ge hx hb dX1_raiseInto_104 (tgt := 145) rfl (fun h_104 => ?_) (fun h_104 => ?_)
            · have h_104 : n3 ≤ i := (nI_leI (by omega) (by omega)).1 h_104
              exact rs_vret ⟨(kn2, rz2, ar, wk), hRK9, hk2, by have h9 : i = n3 := (by omega); subst h9; exact hF⟩ hx hb hr hlk hQ hK hP hD hS rfl dX1_raiseInto_145
            · have h_104 : i < n3 := Nat.lt_of_not_le (fun z => h_104 ((nI_leI (by omega) (by omega)).2 z))
              refine lv_iconst hx hb dX1_raiseInto_107 (v := nI 0) (by decide) ?_
              refine lv_istore hx hb dX1_raiseInto_108 hl (lv' := [(4, .int (nI 0)), (0, .ref (q 0)), (1, .ref (q2 0)), (3, .int (nI i))]) (by decide) rfl (fun ls hl => ?_)
              have L_110 : ∀ (k_110 : Nat) (a : Nat) (rz2 : Nat → Nat → Int64) (ar : Nat → Nat) (wk : Nat → Int64) (H : Heap) (locs : List Loc) (ls : Array Slot), 3 - a < k_110 → (a ≤ 3) → (rs_F (fun b j => rs_rai kn d n rz kn2 b j) rz2 i a) → lv_has ls 5 [(0, .ref (q 0)), (1, .ref (q2 0)), (3, .int (nI i)), (4, .int (nI a))] → va_P D vwCl ((wC aI aJ aL q d n kn rz ac up ar wk) ++ (wC aI aJ aL q2 (d + 1) n3 kn2 rz2 ac2 up2 ar2 wk2)) H → va_D A ((wC aI aJ aL q d n kn rz ac up ar wk) ++ (wC aI aJ aL q2 (d + 1) n3 kn2 rz2 ac2 up2 ar2 wk2)) → va_S A s.heap H locs → W p l e rm_X1_raiseInto s m args below meth c H locs 0 0 Q (F0 m 110 ls []) := by
                intro k_110
                induction k_110 with
                | zero => intro a rz2 ar wk H locs ls hk_110; exact absurd hk_110 (Nat.not_lt_zero _)
                | succ k_110 ih_110 =>
                  intro a rz2 ar wk H locs ls hk_110 ha hF hl hP hD hS
                  refine lv_iload hx hb dX1_raiseInto_110 (lv_at hl 3 rfl) ?_
                  refine lv_iconst hx hb dX1_raiseInto_112 (v := nI 3) (by decide) ?_
                  refine lv_icmp_ge hx hb dX1_raiseInto_113 (tgt := 139) rfl (fun h_113 => ?_) (fun h_113 => ?_)
                  · have h_113 : 3 ≤ a := (nI_leI (by omega) (by omega)).1 h_113
                    refine lv_iinc hx hb dX1_raiseInto_139 hl (k := 2) rfl (v := nI (i + 1)) (rs_inc _ _) (by decide) (lv' := [(3, .int (nI (i + 1))), (0, .ref (q 0)), (1, .ref (q2 0)), (4, .int (nI a))]) rfl (fun ls hl => ?_)
                    refine lv_goto hx hb dX1_raiseInto_142 (tgt := 99) rfl ?_
                    exact ih_99 (i + 1) _ _ _ _ _ _ (by omega) (by omega) (by have h9 : a = 3 := (by omega); subst h9; exact hF.next) (lv_sub hl [1, 2, 0] rfl) hP hD hS
                  · have h_113 : a < 3 := Nat.lt_of_not_le (fun z => h_113 ((nI_leI (by omega) (by omega)).2 z))
                    refine lv_aload_n hx hb dX1_raiseInto_116 rfl (lv_at hl 1 rfl) ?_
                    refine va_get hx hb hts inX1 hown hK hP 8 (ci := 1) (C := RX1) (T := TX1) (N := 8) rfl rfl 3 (by decide) (hts _ rw_92) (fun _ h => h) (v := .ref (q2 2)) rfl dX1_raiseInto_117 ?_
                    refine lv_iload hx hb dX1_raiseInto_120 (lv_at hl 3 rfl) ?_
                    refine rs_aald hx hb hK hP 10 2 rfl rfl (i := a) (by omega) (by decide) (b := q2 (3 + a)) rfl dX1_raiseInto_122 ?_
                    refine lv_iload_n hx hb dX1_raiseInto_123 rfl (lv_at hl 2 rfl) ?_
                    refine lv_aload_n hx hb dX1_raiseInto_124 rfl (lv_at hl 0 rfl) ?_
                    refine lv_aload_n hx hb dX1_raiseInto_125 rfl (lv_at hl 1 rfl) ?_
                    refine lv_iload hx hb dX1_raiseInto_126 (lv_at hl 3 rfl) ?_
                    refine lv_iload_n hx hb dX1_raiseInto_128 rfl (lv_at hl 2 rfl) ?_
                    refine rs_cVL (rest := [.int (nI i), .ref (q2 (3 + a))]) (wr := []) (ws' := fun u_129 => (wC aI aJ aL q d n kn rz ac up u_129.1 u_129.2) ++ (wC aI aJ aL q2 (d + 1) n3 kn2 rz2 ac2 up2 ar2 wk2)) ⟨hx, hb, hml, hown, hts⟩ (c_X1_raised l D aI aJ aL _ q d n kn rz ac up ar wk q2 n3 kn2 rz2 ac2 up2 ar2 wk2 a i hd hn hdn hk hk2 (by omega) (by omega)) (cwV 3 hts (rs_gV rw_282 rw_284 rv_7 rw_4 rw_285) rfl rfl rfl (by decide +kernel) ⟨Nat.le_of_ble_eq_true rfl, Nat.le_of_ble_eq_true rfl⟩) hK hN hP hD hS hA [0, 1, 2, 3, 4, 5, 6, 7, 8, 9, 10, 11, 12, 13, 14, 15] [] [0, 1, 2, 3, 4, 5, 6, 7, 8, 9, 10, 11, 12, 13, 14, 15] (by decide) rfl rfl (fun _ => rfl) 0 rfl rfl hl.1 rfl rfl (Nat.le_of_ble_eq_true rfl) dX1_raiseInto_129 ⟨Nat.le_refl _, Nat.le_refl _⟩ (fun u_129 H locs hP hD hS => ?_)
                    have hP : va_P D vwCl ((wC aI aJ aL q d n kn rz ac up u_129.1 u_129.2) ++ (wC aI aJ aL q2 (d + 1) n3 kn2 rz2 ac2 up2 ar2 wk2)) H := hP
                    have hD : va_D A ((wC aI aJ aL q d n kn rz ac up u_129.1 u_129.2) ++ (wC aI aJ aL q2 (d + 1) n3 kn2 rz2 ac2 up2 ar2 wk2)) := hD
                    refine rs_last hx hb hK hP hD hS (11 + a) 1 (co_3 (P := fun z => ((wC aI aJ aL q d n kn rz ac up u_129.1 u_129.2) ++ (wC aI aJ aL q2 (d + 1) n3 kn2 rz2 ac2 up2 ar2 wk2))[11 + z]? = some (q2 (3 + z), .inl (aJ, 19, .inr (.inl (rz2 z))))) rfl rfl rfl (by omega)) rfl (i := i) (by omega) (by decide) dX1_raiseInto_132 (ws' := (wC aI aJ aL q d n kn rz ac up u_129.1 u_129.2) ++ (wC aI aJ aL q2 (d + 1) n3 kn2 (rs_upR rz2 a i (rs_rai kn d n rz kn2 a i)) ac2 up2 ar2 wk2)) (co_3 (P := fun z => ((wC aI aJ aL q d n kn rz ac up u_129.1 u_129.2) ++ (wC aI aJ aL q2 (d + 1) n3 kn2 rz2 ac2 up2 ar2 wk2)).set (11 + z) (q2 (3 + z), .inl (aJ, 19, .inr (.inl (vp_updL (rz2 z) i (rs_rai kn d n rz kn2 a i))))) = ((wC aI aJ aL q d n kn rz ac up u_129.1 u_129.2) ++ (wC aI aJ aL q2 (d + 1) n3 kn2 (rs_upR rz2 z i (rs_rai kn d n rz kn2 a i)) ac2 up2 ar2 wk2))) rfl rfl rfl (by omega)) (fun H locs hP hD hS => ?_)
                    refine lv_iinc hx hb dX1_raiseInto_133 hl (k := 3) rfl (v := nI (a + 1)) (rs_inc _ _) (by decide) (lv' := [(4, .int (nI (a + 1))), (0, .ref (q 0)), (1, .ref (q2 0)), (3, .int (nI i))]) rfl (fun ls hl => ?_)
                    refine lv_goto hx hb dX1_raiseInto_136 (tgt := 110) rfl ?_
                    exact ih_110 (a + 1) _ _ _ _ _ _ (by omega) (by omega) (hF.up rfl) (lv_sub hl [1, 2, 3, 0] rfl) hP hD hS
              exact L_110 ((3 - 0) + 1) 0 rz2 ar wk _ _ _ (Nat.lt_succ_self _) (Nat.zero_le _) hF (lv_sub hl [1, 2, 3, 0] rfl) hP hD hS
        exact L_99 ((n3 - 0) + 1) 0 rz2 ar wk _ _ _ (Nat.lt_succ_self _) (Nat.zero_le _) rs_F.zero (lv_sub hl [1, 2, 0] rfl) hP hD hS
      · have h_9 : i < (n + d + 1) := Nat.lt_of_not_le (fun z => h_9 ((nI_leI (by omega) (by omega)).2 z))
        have hr0 := hrf (i + 1) (by omega)
        have hr1 := rs_rf_lt kn (n + d + 1) (x := i) (i := i + 1) (by omega)
        have hk7 := hk i
        have hk8 := hk (i + 1)
        refine lv_aload_n hx hb dX1_raiseInto_12 rfl (lv_at hl 1 rfl) ?_
        refine va_get hx hb hts inX1 hown hK hP 8 (ci := 1) (C := RX1) (T := TX1) (N := 8) rfl rfl 2 (by decide) (hts _ rw_88) (fun _ h => h) (v := .ref (q2 1)) rfl dX1_raiseInto_13 ?_
        refine lv_iload_n hx hb dX1_raiseInto_16 rfl (lv_at hl 2 rfl) ?_
        refine lv_iinc hx hb dX1_raiseInto_17 hl (k := 2) rfl (v := nI ((rs_rf kn (n + d + 1) i) + 1)) (rs_inc _ _) (by decide) (lv' := [(2, .int (nI ((rs_rf kn (n + d + 1) i) + 1))), (0, .ref (q 0)), (1, .ref (q2 0)), (3, .int (nI i))]) rfl (fun ls hl => ?_)
        refine lv_aload_n hx hb dX1_raiseInto_20 rfl (lv_at hl 1 rfl) ?_
        refine va_get hx hb hts inX1 hown hK hP 0 (ci := 1) (C := RX1) (T := TX1) (N := 8) rfl rfl 2 (by decide) (hts _ rw_88) (fun _ h => h) (v := .ref (q 1)) rfl dX1_raiseInto_21 ?_
        refine lv_iload_n hx hb dX1_raiseInto_24 rfl (lv_at hl 3 rfl) ?_
        refine rs_iald hx hb hK hP 1 0 rfl rfl (i := i) (by omega) (by decide) (v := nI (kn i)) rfl dX1_raiseInto_25 ?_
        refine rs_iast hx hb hK hP hD hS 9 0 rfl rfl (i := (rs_rf kn (n + d + 1) i)) (by omega) (by decide) (rs_upI _ _ _) dX1_raiseInto_26 (ws' := (wC aI aJ aL q d n kn rz ac up ar wk) ++ (wC aI aJ aL q2 d2 n2 (rs_up kn2 (rs_rf kn (n + d + 1) i) (kn i)) rz2 ac2 up2 ar2 wk2)) rfl (fun H locs hP hD hS => ?_)
        refine lv_iload_n hx hb dX1_raiseInto_27 rfl (lv_at hl 3 rfl) ?_
        refine lv_iconst hx hb dX1_raiseInto_28 (v := nI 1) (by decide) ?_
        refine rs_iadd hx hb dX1_raiseInto_29 (v := nI (i + 1)) (nI_add _ _) ?_
        refine lv_aload_n hx hb dX1_raiseInto_30 rfl (lv_at hl 1 rfl) ?_
        refine rs_cVI (rest := [.int (nI (i + 1))]) (wr := (wC aI aJ aL q2 d2 n2 (rs_up kn2 (rs_rf kn (n + d + 1) i) (kn i)) rz2 ac2 up2 ar2 wk2)) (ws' := fun u_31 => (wC aI aJ aL q d n kn rz ac up ar wk) ++ (wC aI aJ aL q2 d2 n2 (rs_up kn2 (rs_rf kn (n + d + 1) i) (kn i)) rz2 ac2 up2 ar2 wk2)) ⟨hx, hb, hml, hown, hts⟩ (c_X1_knotCount l D aI aJ aL _ q d n kn rz ac up ar wk (by omega) hn) (cwV 0 hts (rs_gV rw_212 rw_213 rw_214 rw_4 rw_215) rfl rfl rfl (by decide +kernel) ⟨Nat.le_of_ble_eq_true rfl, Nat.le_of_ble_eq_true rfl⟩) hK hN hP hD hS hA [0, 1, 2, 3, 4, 5, 6, 7] [8, 9, 10, 11, 12, 13, 14, 15] [8, 9, 10, 11, 12, 13, 14, 15, 0, 1, 2, 3, 4, 5, 6, 7] (by decide) rfl rfl (fun _ => rfl) 0 rfl rfl hl.1 rfl rfl (Nat.le_of_ble_eq_true rfl) dX1_raiseInto_31 ⟨Nat.le_refl _, Nat.le_refl _⟩ (fun u_31 H locs hP hD hS => ?_)
        have hP : va_P D vwCl ((wC aI aJ aL q d n kn rz ac up ar wk) ++ (wC aI aJ aL q2 d2 n2 (rs_up kn2 (rs_rf kn (n + d + 1) i) (kn i)) rz2 ac2 up2 ar2 wk2)) H := hP
        have hD : va_D A ((wC aI aJ aL q d n kn rz ac up ar wk) ++ (wC aI aJ aL q2 d2 n2 (rs_up kn2 (rs_rf kn (n + d + 1) i) (kn i)) rz2 ac2 up2 ar2 wk2)) := hD
        refine lv_icmp_eq hx hb dX1_raiseInto_34 (tgt := 54) rfl (fun h_34 => ?_) (fun h_34 => ?_)
        · have h_34 : (i + 1) = (n + d + 1) := (nI_eq (by omega) (by omega)).1 h_34
          have e_i : rs_rf kn (n + d + 1) (i + 1) = rs_rf kn (n + d + 1) i + 2 := if_pos (Or.inl h_34)
          refine lv_aload_n hx hb dX1_raiseInto_54 rfl (lv_at hl 2 rfl) ?_
          refine va_get hx hb hts inX1 hown hK hP 8 (ci := 1) (C := RX1) (T := TX1) (N := 8) rfl rfl 2 (by decide) (hts _ rw_88) (fun _ h => h) (v := .ref (q2 1)) rfl dX1_raiseInto_55 ?_
          refine lv_iload_n hx hb dX1_raiseInto_58 rfl (lv_at hl 0 rfl) ?_
          refine lv_iinc hx hb dX1_raiseInto_59 hl (k := 0) rfl (v := nI (((rs_rf kn (n + d + 1) i) + 1) + 1)) (rs_inc _ _) (by decide) (lv' := [(2, .int (nI (((rs_rf kn (n + d + 1) i) + 1) + 1))), (0, .ref (q 0)), (1, .ref (q2 0)), (3, .int (nI i))]) rfl (fun ls hl => ?_)
          refine lv_aload_n hx hb dX1_raiseInto_62 rfl (lv_at hl 1 rfl) ?_
          refine va_get hx hb hts inX1 hown hK hP 0 (ci := 1) (C := RX1) (T := TX1) (N := 8) rfl rfl 2 (by decide) (hts _ rw_88) (fun _ h => h) (v := .ref (q 1)) rfl dX1_raiseInto_63 ?_
          refine lv_iload_n hx hb dX1_raiseInto_66 rfl (lv_at hl 3 rfl) ?_
          refine rs_iald hx hb hK hP 1 0 rfl rfl (i := i) (by omega) (by decide) (v := nI (kn i)) rfl dX1_raiseInto_67 ?_
          refine rs_iast hx hb hK hP hD hS 9 0 rfl rfl (i := ((rs_rf kn (n + d + 1) i) + 1)) (by omega) (by decide) (rs_upI _ _ _) dX1_raiseInto_68 (ws' := (wC aI aJ aL q d n kn rz ac up ar wk) ++ (wC aI aJ aL q2 d2 n2 (rs_up (rs_up kn2 (rs_rf kn (n + d + 1) i) (kn i)) ((rs_rf kn (n + d + 1) i) + 1) (kn i)) rz2 ac2 up2 ar2 wk2)) rfl (fun H locs hP hD hS => ?_)
          refine lv_iinc hx hb dX1_raiseInto_69 hl (k := 3) rfl (v := nI (i + 1)) (rs_inc _ _) (by decide) (lv' := [(3, .int (nI (i + 1))), (2, .int (nI (((rs_rf kn (n + d + 1) i) + 1) + 1))), (0, .ref (q 0)), (1, .ref (q2 0))]) rfl (fun ls hl => ?_)
          refine lv_goto hx hb dX1_raiseInto_72 (tgt := 4) rfl ?_
          exact ih_4 (i + 1) _ _ _ _ (by omega) (by omega) (by first | exact rs_up_le (rs_up_le hk2 (hk _)) (hk _) | exact rs_up_le hk2 (hk _)) (by first | exact rs_RK_b hRK (by omega) | exact rs_RK_a hRK (by omega)) (by rw [e_i]; exact lv_sub hl [2, 3, 1, 0] rfl) hP hD hS
        · have h_34 : ¬ (i + 1) = (n + d + 1) := fun z => h_34 ((nI_eq (by omega) (by omega)).2 z)
          refine lv_aload_n hx hb dX1_raiseInto_37 rfl (lv_at hl 1 rfl) ?_
          refine va_get hx hb hts inX1 hown hK hP 0 (ci := 1) (C := RX1) (T := TX1) (N := 8) rfl rfl 2 (by decide) (hts _ rw_88) (fun _ h => h) (v := .ref (q 1)) rfl dX1_raiseInto_38 ?_
          refine lv_iload_n hx hb dX1_raiseInto_41 rfl (lv_at hl 3 rfl) ?_
          refine rs_iald hx hb hK hP 1 0 rfl rfl (i := i) (by omega) (by decide) (v := nI (kn i)) rfl dX1_raiseInto_42 ?_
          refine lv_aload_n hx hb dX1_raiseInto_43 rfl (lv_at hl 1 rfl) ?_
          refine va_get hx hb hts inX1 hown hK hP 0 (ci := 1) (C := RX1) (T := TX1) (N := 8) rfl rfl 2 (by decide) (hts _ rw_88) (fun _ h => h) (v := .ref (q 1)) rfl dX1_raiseInto_44 ?_
          refine lv_iload_n hx hb dX1_raiseInto_47 rfl (lv_at hl 3 rfl) ?_
          refine lv_iconst hx hb dX1_raiseInto_48 (v := nI 1) (by decide) ?_
          refine rs_iadd hx hb dX1_raiseInto_49 (v := nI (i + 1)) (nI_add _ _) ?_
          refine rs_iald hx hb hK hP 1 0 rfl rfl (i := (i + 1)) (by omega) (by decide) (v := nI (kn (i + 1))) rfl dX1_raiseInto_50 ?_
          refine lv_icmp_ge hx hb dX1_raiseInto_51 (tgt := 69) rfl (fun h_51 => ?_) (fun h_51 => ?_)
          · have h_51 : (kn (i + 1)) ≤ (kn i) := (nI_leI (by omega) (by omega)).1 h_51
            have e_i : rs_rf kn (n + d + 1) (i + 1) = rs_rf kn (n + d + 1) i + 1 := if_neg (by omega)
            refine lv_iinc hx hb dX1_raiseInto_69 hl (k := 3) rfl (v := nI (i + 1)) (rs_inc _ _) (by decide) (lv' := [(3, .int (nI (i + 1))), (2, .int (nI ((rs_rf kn (n + d + 1) i) + 1))), (0, .ref (q 0)), (1, .ref (q2 0))]) rfl (fun ls hl => ?_)
            refine lv_goto hx hb dX1_raiseInto_72 (tgt := 4) rfl ?_
            exact ih_4 (i + 1) _ _ _ _ (by omega) (by omega) (by first | exact rs_up_le (rs_up_le hk2 (hk _)) (hk _) | exact rs_up_le hk2 (hk _)) (by first | exact rs_RK_b hRK (by omega) | exact rs_RK_a hRK (by omega)) (by rw [e_i]; exact lv_sub hl [2, 3, 1, 0] rfl) hP hD hS
          · have h_51 : (kn i) < (kn (i + 1)) := Nat.lt_of_not_le (fun z => h_51 ((nI_leI (by omega) (by omega)).2 z))
            have e_i : rs_rf kn (n + d + 1) (i + 1) = rs_rf kn (n + d + 1) i + 2 := if_pos (Or.inr h_51)
            refine lv_aload_n hx hb dX1_raiseInto_54 rfl (lv_at hl 2 rfl) ?_
            refine va_get hx hb hts inX1 hown hK hP 8 (ci := 1) (C := RX1) (T := TX1) (N := 8) rfl rfl 2 (by decide) (hts _ rw_88) (fun _ h => h) (v := .ref (q2 1)) rfl dX1_raiseInto_55 ?_
            refine lv_iload_n hx hb dX1_raiseInto_58 rfl (lv_at hl 0 rfl) ?_
            refine lv_iinc hx hb dX1_raiseInto_59 hl (k := 0) rfl (v := nI (((rs_rf kn (n + d + 1) i) + 1) + 1)) (rs_inc _ _) (by decide) (lv' := [(2, .int (nI (((rs_rf kn (n + d + 1) i) + 1) + 1))), (0, .ref (q 0)), (1, .ref (q2 0)), (3, .int (nI i))]) rfl (fun ls hl => ?_)
            refine lv_aload_n hx hb dX1_raiseInto_62 rfl (lv_at hl 1 rfl) ?_
            refine va_get hx hb hts inX1 hown hK hP 0 (ci := 1) (C := RX1) (T := TX1) (N := 8) rfl rfl 2 (by decide) (hts _ rw_88) (fun _ h => h) (v := .ref (q 1)) rfl dX1_raiseInto_63 ?_
            refine lv_iload_n hx hb dX1_raiseInto_66 rfl (lv_at hl 3 rfl) ?_
            refine rs_iald hx hb hK hP 1 0 rfl rfl (i := i) (by omega) (by decide) (v := nI (kn i)) rfl dX1_raiseInto_67 ?_
            refine rs_iast hx hb hK hP hD hS 9 0 rfl rfl (i := ((rs_rf kn (n + d + 1) i) + 1)) (by omega) (by decide) (rs_upI _ _ _) dX1_raiseInto_68 (ws' := (wC aI aJ aL q d n kn rz ac up ar wk) ++ (wC aI aJ aL q2 d2 n2 (rs_up (rs_up kn2 (rs_rf kn (n + d + 1) i) (kn i)) ((rs_rf kn (n + d + 1) i) + 1) (kn i)) rz2 ac2 up2 ar2 wk2)) rfl (fun H locs hP hD hS => ?_)
            refine lv_iinc hx hb dX1_raiseInto_69 hl (k := 3) rfl (v := nI (i + 1)) (rs_inc _ _) (by decide) (lv' := [(3, .int (nI (i + 1))), (2, .int (nI (((rs_rf kn (n + d + 1) i) + 1) + 1))), (0, .ref (q 0)), (1, .ref (q2 0))]) rfl (fun ls hl => ?_)
            refine lv_goto hx hb dX1_raiseInto_72 (tgt := 4) rfl ?_
            exact ih_4 (i + 1) _ _ _ _ (by omega) (by omega) (by first | exact rs_up_le (rs_up_le hk2 (hk _)) (hk _) | exact rs_up_le hk2 (hk _)) (by first | exact rs_RK_b hRK (by omega) | exact rs_RK_a hRK (by omega)) (by rw [e_i]; exact lv_sub hl [2, 3, 1, 0] rfl) hP hD hS
  exact L_4 ((n + d + 1 - 0) + 1) 0 kn2 _ _ _ (Nat.lt_succ_self _) (Nat.zero_le _) hk2 rs_RK.zero (lv_sub hl [2, 3, 1, 0] rfl) hP hD hS
