def rm_X0_forget : Room := { frames := 1, cells := 0, slots := 0, locals := 64 }
set_option maxHeartbeats 4000000 in
set_option maxRecDepth 100000 in
theorem c_X0_forget (l : Launch) (D : va_G) (aI aJ aL : ClassId) (sz : Nat) (q : Nat → Nat) (cs : Nat) (ho : Int32) (tl : Int32) (vt : Nat → Nat) (xa : Nat → Int32) (ya : Nat → Int32)  : rs_MV (S := Unit) l yX0_forget (Cond.code yX0_forget prog_2_method_2_code 1 none :: rsW) rm_X0_forget D vwCl (rs_tys aI aJ aL) rs_nw [.ref (q 0)] (wCh aI aJ aL q cs ho tl vt xa ya) sz (fun uu => wCh aI aJ aL q 0 ho tl vt xa ya) := by
  refine rs_ent (cc := cX0_forget) (maxL := 1) (ret := none) (Qc := rs_QV D vwCl _ _) (by decide) rfl (Nat.le_of_ble_eq_true rfl) ?_
  intro p e s m args below meth c ls A Q hx hb hr hml hlk hts hown hin hK hN hP hD hS hA hQ hl
  have hl : lv_has ls 1 [(0, .ref (q 0))] := hl
  refine lv_aload_n hx hb dX0_forget_0 rfl (lv_at hl 0 rfl) ?_
  refine lv_iconst hx hb dX0_forget_1 (v := nI 0) (by decide) ?_
  refine va_put hx hb hts inX0 (ty0 := tyX0) tyX0_ok nmX0 hown hK hP hD hS 0 (ci := 0) (C := RX0) (T := TX0) (N := 6) rfl rfl 0 (by decide) (hts _ rw_51) (fun _ h => h) rfl (ty := .int) (by decide +kernel) rfl rfl (Nat.le_of_ble_eq_true rfl) dX0_forget_2 (fun H locs hP hD hS => ?_)
  have hP : va_P D vwCl (wCh aI aJ aL q 0 ho tl vt xa ya) H := hP
  have hD : va_D A (wCh aI aJ aL q 0 ho tl vt xa ya) := hD
  exact rs_vret () hx hb hr hlk hQ hK hP hD hS rfl dX0_forget_5

def rm_X0_addVertex : Room := { frames := 1, cells := 0, slots := 0, locals := 64 }
set_option maxHeartbeats 4000000 in
set_option maxRecDepth 100000 in
theorem c_X0_addVertex (l : Launch) (D : va_G) (aI aJ aL : ClassId) (sz : Nat) (q : Nat → Nat) (cs : Nat) (ho : Int32) (tl : Int32) (vt : Nat → Nat) (xa : Nat → Int32) (ya : Nat → Int32) (u : Nat) (hcs : cs < 361) : rs_MV (S := Unit) l yX0_addVertex (Cond.code yX0_addVertex prog_2_method_7_code 2 none :: rsW) rm_X0_addVertex D vwCl (rs_tys aI aJ aL) rs_nw [.ref (q 0), .int (nI u)] (wCh aI aJ aL q cs ho tl vt xa ya) sz (fun uu => wCh aI aJ aL q (cs + 1) ho tl (rs_up vt cs u) xa ya) := by
  refine rs_ent (cc := cX0_addVertex) (maxL := 2) (ret := none) (Qc := rs_QV D vwCl _ _) (by decide) rfl (Nat.le_of_ble_eq_true rfl) ?_
  intro p e s m args below meth c ls A Q hx hb hr hml hlk hts hown hin hK hN hP hD hS hA hQ hl
  have hl : lv_has ls 2 [(0, .ref (q 0)), (1, .int (nI u))] := hl
  refine lv_aload_n hx hb dX0_addVertex_0 rfl (lv_at hl 0 rfl) ?_
  refine va_get hx hb hts inX0 hown hK hP 0 (ci := 0) (C := RX0) (T := TX0) (N := 6) rfl rfl 0 (by decide) (hts _ rw_51) (fun _ h => h) (v := .int (nI cs)) rfl dX0_addVertex_1 ?_
  refine lv_aload_n hx hb dX0_addVertex_4 rfl (lv_at hl 0 rfl) ?_
  refine va_get hx hb hts inX0 hown hK hP 0 (ci := 0) (C := RX0) (T := TX0) (N := 6) rfl rfl 3 (by decide) (hts _ rw_55) (fun _ h => h) (v := .ref (q 1)) rfl dX0_addVertex_5 ?_
  refine va_alen hx hb hK hP 1 0 rfl rfl (v := nI 361) rfl dX0_addVertex_8 ?_
  refine lv_icmp_ge hx hb dX0_addVertex_9 (tgt := 32) rfl (fun h_9 => ?_) (fun h_9 => ?_)
  · have h_9 : 361 ≤ cs := (nI_leI (by omega) (by omega)).1 h_9
    omega
  · have h_9 : cs < 361 := Nat.lt_of_not_le (fun z => h_9 ((nI_leI (by omega) (by omega)).2 z))
    refine lv_aload_n hx hb dX0_addVertex_12 rfl (lv_at hl 0 rfl) ?_
    refine va_get hx hb hts inX0 hown hK hP 0 (ci := 0) (C := RX0) (T := TX0) (N := 6) rfl rfl 3 (by decide) (hts _ rw_55) (fun _ h => h) (v := .ref (q 1)) rfl dX0_addVertex_13 ?_
    refine lv_aload_n hx hb dX0_addVertex_16 rfl (lv_at hl 0 rfl) ?_
    refine va_get hx hb hts inX0 hown hK hP 0 (ci := 0) (C := RX0) (T := TX0) (N := 6) rfl rfl 0 (by decide) (hts _ rw_51) (fun _ h => h) (v := .int (nI cs)) rfl dX0_addVertex_17 ?_
    refine lv_iload_n hx hb dX0_addVertex_20 rfl (lv_at hl 1 rfl) ?_
    refine rs_iast hx hb hK hP hD hS 1 0 rfl rfl (i := cs) (by omega) (by decide) (rs_upI _ _ _) dX0_addVertex_21 (ws' := wCh aI aJ aL q cs ho tl (rs_up vt cs u) xa ya) rfl (fun H locs hP hD hS => ?_)
    refine lv_aload_n hx hb dX0_addVertex_22 rfl (lv_at hl 0 rfl) ?_
    refine lv_dup hx hb dX0_addVertex_23 rfl ?_
    refine va_get hx hb hts inX0 hown hK hP 0 (ci := 0) (C := RX0) (T := TX0) (N := 6) rfl rfl 0 (by decide) (hts _ rw_51) (fun _ h => h) (v := .int (nI cs)) rfl dX0_addVertex_24 ?_
    refine lv_iconst hx hb dX0_addVertex_27 (v := nI 1) (by decide) ?_
    refine rs_iadd hx hb dX0_addVertex_28 (v := nI (cs + 1)) (nI_add _ _) ?_
    refine va_put hx hb hts inX0 (ty0 := tyX0) tyX0_ok nmX0 hown hK hP hD hS 0 (ci := 0) (C := RX0) (T := TX0) (N := 6) rfl rfl 0 (by decide) (hts _ rw_51) (fun _ h => h) rfl (ty := .int) (by decide +kernel) rfl rfl (Nat.le_of_ble_eq_true rfl) dX0_addVertex_29 (fun H locs hP hD hS => ?_)
    have hP : va_P D vwCl (wCh aI aJ aL q (cs + 1) ho tl (rs_up vt cs u) xa ya) H := hP
    have hD : va_D A (wCh aI aJ aL q (cs + 1) ho tl (rs_up vt cs u) xa ya) := hD
    exact rs_vret () hx hb hr hlk hQ hK hP hD hS rfl dX0_addVertex_32

def rm_X0_isStraight : Room := { frames := 1, cells := 0, slots := 0, locals := 64 }
set_option maxHeartbeats 4000000 in
set_option maxRecDepth 100000 in
theorem c_X0_isStraight (l : Launch) (D : va_G) (aI aJ aL : ClassId) (sz : Nat) (q : Nat → Nat) (cs : Nat) (ho : Int32) (tl : Int32) (vt : Nat → Nat) (xa : Nat → Int32) (ya : Nat → Int32) (x : Int32) (y : Int32) (z : Int32)  : rs_MI (S := Unit) l yX0_isStraight (Cond.code yX0_isStraight prog_2_method_5_code 5 (some .boolean) :: rsW) rm_X0_isStraight D vwCl (rs_tys aI aJ aL) rs_nw [.ref (q 0), .int x, .int y, .int z] (wCh aI aJ aL q cs ho tl vt xa ya) sz (rs_b (decide (rs_str ho tl x y z))) (fun uu => wCh aI aJ aL q cs ho tl vt xa ya) := by
  refine rs_ent (cc := cX0_isStraight) (maxL := 5) (ret := some .boolean) (Qc := rs_QI D vwCl _ _ _) (by decide) rfl (Nat.le_of_ble_eq_true rfl) ?_
  intro p e s m args below meth c ls A Q hx hb hr hml hlk hts hown hin hK hN hP hD hS hA hQ hl
  have hl : lv_has ls 5 [(0, .ref (q 0)), (1, .int x), (2, .int y), (3, .int z)] := hl
  refine lv_aload_n hx hb dX0_isStraight_0 rfl (lv_at hl 0 rfl) ?_
  refine va_get hx hb hts inX0 hown hK hP 0 (ci := 0) (C := RX0) (T := TX0) (N := 6) rfl rfl 1 (by decide) (hts _ rw_53) (fun _ h => h) (v := .int ho) rfl dX0_isStraight_1 ?_
  refine lv_if_ne hx hb dX0_isStraight_4 (tgt := 17) rfl (fun h_4 => ?_) (fun h_4 => ?_)
  · skip
    refine lv_iload_n hx hb dX0_isStraight_17 rfl (lv_at hl 1 rfl) ?_
    refine lv_iload_n hx hb dX0_isStraight_18 rfl (lv_at hl 3 rfl) ?_
    refine rs_isub hx hb dX0_isStraight_19 (v := (x - z)) rfl ?_
    refine lv_istore hx hb dX0_isStraight_20 hl (lv' := [(4, .int (x - z)), (0, .ref (q 0)), (1, .int x), (2, .int y), (3, .int z)]) (by decide) rfl (fun ls hl => ?_)
    refine lv_iload hx hb dX0_isStraight_22 (lv_at hl 0 rfl) ?_
    refine va_mabs hx hb (by rw [hml]; exact hl.1.symm) hown (hts (Cond.methodLink RX0 58 Lib.Math.abs.name) rw_378) (hts (Cond.static Lib.Math.abs.name) rw_379) (hts _ rw_7) (hts (Cond.code Lib.Math.abs.name Lib.Math.abs.code 1 (some .int)) rw_380) (Nat.le_of_ble_eq_true rfl) (Nat.le_of_ble_eq_true rfl) (Nat.le_refl _) (Nat.le_refl _) dX0_isStraight_24 ?_
    refine lv_aload_n hx hb dX0_isStraight_27 rfl (lv_at hl 1 rfl) ?_
    refine va_get hx hb hts inX0 hown hK hP 0 (ci := 0) (C := RX0) (T := TX0) (N := 6) rfl rfl 2 (by decide) (hts _ rw_54) (fun _ h => h) (v := .int tl) rfl dX0_isStraight_28 ?_
    refine lv_icmp_gt hx hb dX0_isStraight_31 (tgt := 38) rfl (fun h_31 => ?_) (fun h_31 => ?_)
    · skip
      refine lv_iconst hx hb dX0_isStraight_38 (v := nI 0) (by decide) ?_
      exact rs_iret () hx hb hr hlk hQ hK hP hD hS (by decide) (by first | exact rs_bT (rs_str_1 h_4 h_31) | exact rs_bT (rs_str_2 h_4 h_31) | exact rs_bF (rs_str_3 h_4 h_31) | exact rs_bF (rs_str_4 h_4 h_31)) rfl dX0_isStraight_39
    · skip
      refine lv_iconst hx hb dX0_isStraight_34 (v := nI 1) (by decide) ?_
      refine lv_goto hx hb dX0_isStraight_35 (tgt := 39) rfl ?_
      exact rs_iret () hx hb hr hlk hQ hK hP hD hS (by decide) (by first | exact rs_bT (rs_str_1 h_4 h_31) | exact rs_bT (rs_str_2 h_4 h_31) | exact rs_bF (rs_str_3 h_4 h_31) | exact rs_bF (rs_str_4 h_4 h_31)) rfl dX0_isStraight_39
  · skip
    refine lv_iload_n hx hb dX0_isStraight_7 rfl (lv_at hl 1 rfl) ?_
    refine lv_iload_n hx hb dX0_isStraight_8 rfl (lv_at hl 3 rfl) ?_
    refine rs_iadd hx hb dX0_isStraight_9 (v := (x + z)) rfl ?_
    refine lv_iconst hx hb dX0_isStraight_10 (v := nI 2) (by decide) ?_
    refine lv_iload_n hx hb dX0_isStraight_11 rfl (lv_at hl 2 rfl) ?_
    refine rs_imul hx hb dX0_isStraight_12 (v := (nI 2 * y)) rfl ?_
    refine rs_isub hx hb dX0_isStraight_13 (v := ((x + z) - (nI 2 * y))) rfl ?_
    refine lv_goto hx hb dX0_isStraight_14 (tgt := 20) rfl ?_
    refine lv_istore hx hb dX0_isStraight_20 hl (lv' := [(4, .int ((x + z) - (nI 2 * y))), (0, .ref (q 0)), (1, .int x), (2, .int y), (3, .int z)]) (by decide) rfl (fun ls hl => ?_)
    refine lv_iload hx hb dX0_isStraight_22 (lv_at hl 0 rfl) ?_
    refine va_mabs hx hb (by rw [hml]; exact hl.1.symm) hown (hts (Cond.methodLink RX0 58 Lib.Math.abs.name) rw_378) (hts (Cond.static Lib.Math.abs.name) rw_379) (hts _ rw_7) (hts (Cond.code Lib.Math.abs.name Lib.Math.abs.code 1 (some .int)) rw_380) (Nat.le_of_ble_eq_true rfl) (Nat.le_of_ble_eq_true rfl) (Nat.le_refl _) (Nat.le_refl _) dX0_isStraight_24 ?_
    refine lv_aload_n hx hb dX0_isStraight_27 rfl (lv_at hl 1 rfl) ?_
    refine va_get hx hb hts inX0 hown hK hP 0 (ci := 0) (C := RX0) (T := TX0) (N := 6) rfl rfl 2 (by decide) (hts _ rw_54) (fun _ h => h) (v := .int tl) rfl dX0_isStraight_28 ?_
    refine lv_icmp_gt hx hb dX0_isStraight_31 (tgt := 38) rfl (fun h_31 => ?_) (fun h_31 => ?_)
    · skip
      refine lv_iconst hx hb dX0_isStraight_38 (v := nI 0) (by decide) ?_
      exact rs_iret () hx hb hr hlk hQ hK hP hD hS (by decide) (by first | exact rs_bT (rs_str_1 h_4 h_31) | exact rs_bT (rs_str_2 h_4 h_31) | exact rs_bF (rs_str_3 h_4 h_31) | exact rs_bF (rs_str_4 h_4 h_31)) rfl dX0_isStraight_39
    · skip
      refine lv_iconst hx hb dX0_isStraight_34 (v := nI 1) (by decide) ?_
      refine lv_goto hx hb dX0_isStraight_35 (tgt := 39) rfl ?_
      exact rs_iret () hx hb hr hlk hQ hK hP hD hS (by decide) (by first | exact rs_bT (rs_str_1 h_4 h_31) | exact rs_bT (rs_str_2 h_4 h_31) | exact rs_bF (rs_str_3 h_4 h_31) | exact rs_bF (rs_str_4 h_4 h_31)) rfl dX0_isStraight_39

def rm_X0_look : Room := { frames := 4, cells := 0, slots := 0, locals := 330 }
set_option maxHeartbeats 4000000 in
set_option maxRecDepth 100000 in
theorem c_X0_look (l : Launch) (D : va_G) (aI aJ aL : ClassId) (sz : Nat) (q : Nat → Nat) (cs : Nat) (ho : Int32) (tl : Int32) (vt : Nat → Nat) (xa : Nat → Int32) (ya : Nat → Int32) (q2 : Nat → Nat) (d2 : Nat) (n2 : Nat) (kn2 : Nat → Nat) (rz2 : Nat → Nat → Int64) (ac2 : Int32) (up2 : Int32) (ar2 : Nat → Nat) (wk2 : Nat → Int64) (u : Nat) (hd : d2 ≤ 3) (hn : n2 ≤ 19) (hk : ∀ i, kn2 i ≤ 6) (hdn : d2 + 1 ≤ n2) (hu : u ≤ 360) : rs_MV (S := (Int32 × Int32 × (Nat → Nat) × (Nat → Int64))) l yX0_look (Cond.code yX0_look prog_2_method_6_code 3 none :: rsW) rm_X0_look D vwCl (rs_tys aI aJ aL) rs_nw [.ref (q 0), .ref (q2 0), .int (nI u)] ((wCh aI aJ aL q cs ho tl vt xa ya) ++ (wC aI aJ aL q2 d2 n2 kn2 rz2 ac2 up2 ar2 wk2)) sz (fun uu => (wCh aI aJ aL q cs ho tl vt (upd xa u (rs_LX kn2 d2 n2 rz2 u)) (upd ya u (rs_LY kn2 d2 n2 rz2 u))) ++ (wC aI aJ aL q2 d2 n2 kn2 rz2 uu.1 uu.2.1 uu.2.2.1 uu.2.2.2)) := by
  refine rs_ent (cc := cX0_look) (maxL := 3) (ret := none) (Qc := rs_QV D vwCl _ _) (by decide) rfl (Nat.le_of_ble_eq_true rfl) ?_
  intro p e s m args below meth c ls A Q hx hb hr hml hlk hts hown hin hK hN hP hD hS hA hQ hl
  have hl : lv_has ls 3 [(0, .ref (q 0)), (1, .ref (q2 0)), (2, .int (nI u))] := hl
  refine lv_aload_n hx hb dX0_look_0 rfl (lv_at hl 1 rfl) ?_
  refine lv_iload_n hx hb dX0_look_1 rfl (lv_at hl 2 rfl) ?_
  refine rs_cVV (rest := []) (wr := (wCh aI aJ aL q cs ho tl vt xa ya)) (ws' := fun u_2 => (wCh aI aJ aL q cs ho tl vt xa ya) ++ (wC aI aJ aL q2 d2 n2 kn2 rz2 (rs_th (rs_bl kn2 d2 n2 rz2 (fun _ => u) 0 (rs_sp kn2 d2 u (n2 - (d2 + 1))) d2 d2) (rs_bl kn2 d2 n2 rz2 (fun _ => u) 2 (rs_sp kn2 d2 u (n2 - (d2 + 1))) d2 d2)) (rs_th (rs_bl kn2 d2 n2 rz2 (fun _ => u) 1 (rs_sp kn2 d2 u (n2 - (d2 + 1))) d2 d2) (rs_bl kn2 d2 n2 rz2 (fun _ => u) 2 (rs_sp kn2 d2 u (n2 - (d2 + 1))) d2 d2)) u_2.1 u_2.2)) ⟨hx, hb, hml, hown, hts⟩ (c_X1_goTo l D aI aJ aL _ q2 d2 n2 kn2 rz2 ac2 up2 ar2 wk2 u hd hn hk hdn (by omega)) (cwV 1 hts (rs_gV rw_369 rw_343 rw_344 rw_4 rw_345) rfl rfl rfl (by decide +kernel) ⟨Nat.le_of_ble_eq_true rfl, Nat.le_of_ble_eq_true rfl⟩) hK hN hP hD hS hA [4, 5, 6, 7, 8, 9, 10, 11] [0, 1, 2, 3] [0, 1, 2, 3, 4, 5, 6, 7, 8, 9, 10, 11] (by decide) rfl rfl (fun _ => rfl) 4 rfl rfl hl.1 rfl rfl (Nat.le_of_ble_eq_true rfl) dX0_look_2 ⟨Nat.le_refl _, Nat.le_refl _⟩ (fun u_2 H locs hP hD hS => ?_)
  have hP : va_P D vwCl ((wCh aI aJ aL q cs ho tl vt xa ya) ++ (wC aI aJ aL q2 d2 n2 kn2 rz2 (rs_th (rs_bl kn2 d2 n2 rz2 (fun _ => u) 0 (rs_sp kn2 d2 u (n2 - (d2 + 1))) d2 d2) (rs_bl kn2 d2 n2 rz2 (fun _ => u) 2 (rs_sp kn2 d2 u (n2 - (d2 + 1))) d2 d2)) (rs_th (rs_bl kn2 d2 n2 rz2 (fun _ => u) 1 (rs_sp kn2 d2 u (n2 - (d2 + 1))) d2 d2) (rs_bl kn2 d2 n2 rz2 (fun _ => u) 2 (rs_sp kn2 d2 u (n2 - (d2 + 1))) d2 d2)) u_2.1 u_2.2)) H := hP
  have hD : va_D A ((wCh aI aJ aL q cs ho tl vt xa ya) ++ (wC aI aJ aL q2 d2 n2 kn2 rz2 (rs_th (rs_bl kn2 d2 n2 rz2 (fun _ => u) 0 (rs_sp kn2 d2 u (n2 - (d2 + 1))) d2 d2) (rs_bl kn2 d2 n2 rz2 (fun _ => u) 2 (rs_sp kn2 d2 u (n2 - (d2 + 1))) d2 d2)) (rs_th (rs_bl kn2 d2 n2 rz2 (fun _ => u) 1 (rs_sp kn2 d2 u (n2 - (d2 + 1))) d2 d2) (rs_bl kn2 d2 n2 rz2 (fun _ => u) 2 (rs_sp kn2 d2 u (n2 - (d2 + 1))) d2 d2)) u_2.1 u_2.2)) := hD
  have hP : va_P D vwCl ((wCh aI aJ aL q cs ho tl vt xa ya) ++ (wC aI aJ aL q2 d2 n2 kn2 rz2 (rs_LX kn2 d2 n2 rz2 u) (rs_LY kn2 d2 n2 rz2 u) u_2.1 u_2.2)) H := hP
  have hD : va_D A ((wCh aI aJ aL q cs ho tl vt xa ya) ++ (wC aI aJ aL q2 d2 n2 kn2 rz2 (rs_LX kn2 d2 n2 rz2 u) (rs_LY kn2 d2 n2 rz2 u) u_2.1 u_2.2)) := hD
  refine lv_aload_n hx hb dX0_look_5 rfl (lv_at hl 0 rfl) ?_
  refine va_get hx hb hts inX0 hown hK hP 0 (ci := 0) (C := RX0) (T := TX0) (N := 6) rfl rfl 4 (by decide) (hts _ rw_57) (fun _ h => h) (v := .ref (q 2)) rfl dX0_look_6 ?_
  refine lv_iload_n hx hb dX0_look_9 rfl (lv_at hl 2 rfl) ?_
  refine lv_aload_n hx hb dX0_look_10 rfl (lv_at hl 1 rfl) ?_
  refine va_getN hx hb hts inX1 hown hK hP 4 (ci := 1) (C := RX1) (T := TX1) (N := 8) rfl rfl 4 (by decide) (hN.bef (w := .fieldLinkNest RX0 67 "RefinedSpline$Curve" "across" "I" "RefinedSpline") (by decide +kernel) rfl) (fun _ h => h) (v := .int (rs_LX kn2 d2 n2 rz2 u)) rfl dX0_look_11 ?_
  refine rs_iast hx hb hK hP hD hS 2 0 rfl rfl (i := u) (by omega) (by decide) rfl dX0_look_14 (ws' := (wCh aI aJ aL q cs ho tl vt (upd xa u (rs_LX kn2 d2 n2 rz2 u)) ya) ++ (wC aI aJ aL q2 d2 n2 kn2 rz2 (rs_LX kn2 d2 n2 rz2 u) (rs_LY kn2 d2 n2 rz2 u) u_2.1 u_2.2)) rfl (fun H locs hP hD hS => ?_)
  refine lv_aload_n hx hb dX0_look_15 rfl (lv_at hl 0 rfl) ?_
  refine va_get hx hb hts inX0 hown hK hP 0 (ci := 0) (C := RX0) (T := TX0) (N := 6) rfl rfl 5 (by decide) (hts _ rw_58) (fun _ h => h) (v := .ref (q 3)) rfl dX0_look_16 ?_
  refine lv_iload_n hx hb dX0_look_19 rfl (lv_at hl 2 rfl) ?_
  refine lv_aload_n hx hb dX0_look_20 rfl (lv_at hl 1 rfl) ?_
  refine va_getN hx hb hts inX1 hown hK hP 4 (ci := 1) (C := RX1) (T := TX1) (N := 8) rfl rfl 5 (by decide) (hN.bef (w := .fieldLinkNest RX0 69 "RefinedSpline$Curve" "up" "I" "RefinedSpline") (by decide +kernel) rfl) (fun _ h => h) (v := .int (rs_LY kn2 d2 n2 rz2 u)) rfl dX0_look_21 ?_
  refine rs_iast hx hb hK hP hD hS 3 0 rfl rfl (i := u) (by omega) (by decide) rfl dX0_look_24 (ws' := (wCh aI aJ aL q cs ho tl vt (upd xa u (rs_LX kn2 d2 n2 rz2 u)) (upd ya u (rs_LY kn2 d2 n2 rz2 u))) ++ (wC aI aJ aL q2 d2 n2 kn2 rz2 (rs_LX kn2 d2 n2 rz2 u) (rs_LY kn2 d2 n2 rz2 u) u_2.1 u_2.2)) rfl (fun H locs hP hD hS => ?_)
  exact rs_vret (rs_LX kn2 d2 n2 rz2 u, rs_LY kn2 d2 n2 rz2 u, u_2.1, u_2.2) hx hb hr hlk hQ hK hP hD hS rfl dX0_look_25
