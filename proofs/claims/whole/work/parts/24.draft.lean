def rm_X3_isInner : Room := { frames := 1, cells := 0, slots := 0, locals := 64 }
set_option maxHeartbeats 4000000 in
set_option maxRecDepth 100000 in
theorem c_X3_isInner (l : Launch) (D : va_G) (aI aJ aL : ClassId) (sz : Nat) (k : Int32)  : rs_MI (S := Unit) l yX3_isInner (Cond.code yX3_isInner prog_1_method_21_code 1 (some .boolean) :: rsW) rm_X3_isInner D vwCl (rs_tys aI aJ aL) rs_nw [.int k] ([]) sz (rs_b (decide (0 < k ∧ k < nI 6))) (fun uu => []) := by
  refine rs_ent (cc := cX3_isInner) (maxL := 1) (ret := some .boolean) (Qc := rs_QI D vwCl _ _ _) (by decide) rfl (Nat.le_of_ble_eq_true rfl) ?_
  intro p e s m args below meth c ls A Q hx hb hr hml hlk hts hown hin hK hN hP hD hS hA hQ hl
  have hl : lv_has ls 1 [(0, .int k)] := hl
  refine lv_iload_n hx hb dX3_isInner_0 rfl (lv_at hl 0 rfl) ?_
  refine lv_if_le hx hb dX3_isInner_1 (tgt := 14) rfl (fun h_1 => ?_) (fun h_1 => ?_)
  · skip
    refine lv_iconst hx hb dX3_isInner_14 (v := nI 0) (by decide) ?_
    exact rs_iret () hx hb hr hlk hQ hK hP hD hS (by decide) (by first | exact rs_bT ⟨Int32.not_le.mp h_1, Int32.not_le.mp h_7⟩ | exact rs_bF (fun z => Int32.not_le.mpr z.2 h_7) | exact rs_bF (fun z => Int32.not_le.mpr z.1 h_1)) rfl dX3_isInner_15
  · skip
    refine lv_iload_n hx hb dX3_isInner_4 rfl (lv_at hl 0 rfl) ?_
    refine lv_bipush hx hb dX3_isInner_5 (v := nI 6) (by decide) ?_
    refine lv_icmp_ge hx hb dX3_isInner_7 (tgt := 14) rfl (fun h_7 => ?_) (fun h_7 => ?_)
    · skip
      refine lv_iconst hx hb dX3_isInner_14 (v := nI 0) (by decide) ?_
      exact rs_iret () hx hb hr hlk hQ hK hP hD hS (by decide) (by first | exact rs_bT ⟨Int32.not_le.mp h_1, Int32.not_le.mp h_7⟩ | exact rs_bF (fun z => Int32.not_le.mpr z.2 h_7) | exact rs_bF (fun z => Int32.not_le.mpr z.1 h_1)) rfl dX3_isInner_15
    · skip
      refine lv_iconst hx hb dX3_isInner_10 (v := nI 1) (by decide) ?_
      refine lv_goto hx hb dX3_isInner_11 (tgt := 15) rfl ?_
      exact rs_iret () hx hb hr hlk hQ hK hP hD hS (by decide) (by first | exact rs_bT ⟨Int32.not_le.mp h_1, Int32.not_le.mp h_7⟩ | exact rs_bF (fun z => Int32.not_le.mpr z.2 h_7) | exact rs_bF (fun z => Int32.not_le.mpr z.1 h_1)) rfl dX3_isInner_15

def rm_X3_isParameter : Room := { frames := 1, cells := 0, slots := 0, locals := 64 }
set_option maxHeartbeats 4000000 in
set_option maxRecDepth 100000 in
theorem c_X3_isParameter (l : Launch) (D : va_G) (aI aJ aL : ClassId) (sz : Nat) (k : Int32)  : rs_MI (S := Unit) l yX3_isParameter (Cond.code yX3_isParameter prog_1_method_22_code 1 (some .boolean) :: rsW) rm_X3_isParameter D vwCl (rs_tys aI aJ aL) rs_nw [.int k] ([]) sz (rs_b (decide (¬ k < 0 ∧ ¬ nI 360 < k))) (fun uu => []) := by
  refine rs_ent (cc := cX3_isParameter) (maxL := 1) (ret := some .boolean) (Qc := rs_QI D vwCl _ _ _) (by decide) rfl (Nat.le_of_ble_eq_true rfl) ?_
  intro p e s m args below meth c ls A Q hx hb hr hml hlk hts hown hin hK hN hP hD hS hA hQ hl
  have hl : lv_has ls 1 [(0, .int k)] := hl
  refine lv_iload_n hx hb dX3_isParameter_0 rfl (lv_at hl 0 rfl) ?_
  refine lv_if_lt hx hb dX3_isParameter_1 (tgt := 15) rfl (fun h_1 => ?_) (fun h_1 => ?_)
  · skip
    refine lv_iconst hx hb dX3_isParameter_15 (v := nI 0) (by decide) ?_
    exact rs_iret () hx hb hr hlk hQ hK hP hD hS (by decide) (by first | exact rs_bT ⟨h_1, h_8⟩ | exact rs_bF (fun z => z.2 h_8) | exact rs_bF (fun z => z.1 h_1)) rfl dX3_isParameter_16
  · skip
    refine lv_iload_n hx hb dX3_isParameter_4 rfl (lv_at hl 0 rfl) ?_
    refine lv_sipush hx hb dX3_isParameter_5 (v := nI 360) (by decide) ?_
    refine lv_icmp_gt hx hb dX3_isParameter_8 (tgt := 15) rfl (fun h_8 => ?_) (fun h_8 => ?_)
    · skip
      refine lv_iconst hx hb dX3_isParameter_15 (v := nI 0) (by decide) ?_
      exact rs_iret () hx hb hr hlk hQ hK hP hD hS (by decide) (by first | exact rs_bT ⟨h_1, h_8⟩ | exact rs_bF (fun z => z.2 h_8) | exact rs_bF (fun z => z.1 h_1)) rfl dX3_isParameter_16
    · skip
      refine lv_iconst hx hb dX3_isParameter_11 (v := nI 1) (by decide) ?_
      refine lv_goto hx hb dX3_isParameter_12 (tgt := 16) rfl ?_
      exact rs_iret () hx hb hr hlk hQ hK hP hD hS (by decide) (by first | exact rs_bT ⟨h_1, h_8⟩ | exact rs_bF (fun z => z.2 h_8) | exact rs_bF (fun z => z.1 h_1)) rfl dX3_isParameter_16

def rm_X2_isCoordinate : Room := { frames := 1, cells := 0, slots := 0, locals := 64 }
set_option maxHeartbeats 4000000 in
set_option maxRecDepth 100000 in
theorem c_X2_isCoordinate (l : Launch) (D : va_G) (aI aJ aL : ClassId) (sz : Nat) (k : Int32)  : rs_MI (S := Unit) l yX2_isCoordinate (Cond.code yX2_isCoordinate prog_4_method_8_code 1 (some .boolean) :: rsW) rm_X2_isCoordinate D vwCl (rs_tys aI aJ aL) rs_nw [.int k] ([]) sz (rs_b (decide (rs_isc k))) (fun uu => []) := by
  refine rs_ent (cc := cX2_isCoordinate) (maxL := 1) (ret := some .boolean) (Qc := rs_QI D vwCl _ _ _) (by decide) rfl (Nat.le_of_ble_eq_true rfl) ?_
  intro p e s m args below meth c ls A Q hx hb hr hml hlk hts hown hin hK hN hP hD hS hA hQ hl
  have hl : lv_has ls 1 [(0, .int k)] := hl
  refine lv_iload_n hx hb dX2_isCoordinate_0 rfl (lv_at hl 0 rfl) ?_
  refine lv_sipush hx hb dX2_isCoordinate_1 (v := (-1000)) (by decide) ?_
  refine lv_icmp_lt hx hb dX2_isCoordinate_4 (tgt := 18) rfl (fun h_4 => ?_) (fun h_4 => ?_)
  · skip
    refine lv_iconst hx hb dX2_isCoordinate_18 (v := nI 0) (by decide) ?_
    exact rs_iret () hx hb hr hlk hQ hK hP hD hS (by decide) (by first | exact rs_bT ⟨h_4, h_11⟩ | exact rs_bF (fun z => z.2 h_11) | exact rs_bF (fun z => z.1 h_4)) rfl dX2_isCoordinate_19
  · skip
    refine lv_iload_n hx hb dX2_isCoordinate_7 rfl (lv_at hl 0 rfl) ?_
    refine lv_sipush hx hb dX2_isCoordinate_8 (v := nI 1000) (by decide) ?_
    refine lv_icmp_gt hx hb dX2_isCoordinate_11 (tgt := 18) rfl (fun h_11 => ?_) (fun h_11 => ?_)
    · skip
      refine lv_iconst hx hb dX2_isCoordinate_18 (v := nI 0) (by decide) ?_
      exact rs_iret () hx hb hr hlk hQ hK hP hD hS (by decide) (by first | exact rs_bT ⟨h_4, h_11⟩ | exact rs_bF (fun z => z.2 h_11) | exact rs_bF (fun z => z.1 h_4)) rfl dX2_isCoordinate_19
    · skip
      refine lv_iconst hx hb dX2_isCoordinate_14 (v := nI 1) (by decide) ?_
      refine lv_goto hx hb dX2_isCoordinate_15 (tgt := 19) rfl ?_
      exact rs_iret () hx hb hr hlk hQ hK hP hD hS (by decide) (by first | exact rs_bT ⟨h_4, h_11⟩ | exact rs_bF (fun z => z.2 h_11) | exact rs_bF (fun z => z.1 h_4)) rfl dX2_isCoordinate_19

def rm_X2_open : Room := { frames := 1, cells := 0, slots := 0, locals := 64 }
set_option maxHeartbeats 4000000 in
set_option maxRecDepth 100000 in
theorem c_X2_open (l : Launch) (D : va_G) (aI aJ aL : ClassId) (sz : Nat) (q : Nat → Nat) (dd : Nat) (dc : Nat) (di : Nat) (xs : Nat → Int32) (ys : Nat → Int32) (wt : Nat → Int32) (inn : Nat → Nat) (x : Nat)  : rs_MV (S := Unit) l yX2_open (Cond.code yX2_open prog_4_method_2_code 2 none :: rsW) rm_X2_open D vwCl (rs_tys aI aJ aL) rs_nw [.ref (q 0), .int (nI x)] (wDr aI aJ aL q dd dc di xs ys wt inn) sz (fun uu => wDr aI aJ aL q x 0 0 xs ys wt inn) := by
  refine rs_ent (cc := cX2_open) (maxL := 2) (ret := none) (Qc := rs_QV D vwCl _ _) (by decide) rfl (Nat.le_of_ble_eq_true rfl) ?_
  intro p e s m args below meth c ls A Q hx hb hr hml hlk hts hown hin hK hN hP hD hS hA hQ hl
  have hl : lv_has ls 2 [(0, .ref (q 0)), (1, .int (nI x))] := hl
  refine lv_aload_n hx hb dX2_open_0 rfl (lv_at hl 0 rfl) ?_
  refine lv_iload_n hx hb dX2_open_1 rfl (lv_at hl 1 rfl) ?_
  refine va_put hx hb hts inX2 (ty0 := tyX2) tyX2_ok nmX2 hown hK hP hD hS 0 (ci := 2) (C := RX2) (T := TX2) (N := 7) rfl rfl 0 (by decide) (hts _ rw_22) (fun _ h => h) rfl (ty := .int) (by decide +kernel) rfl rfl (Nat.le_of_ble_eq_true rfl) dX2_open_2 (fun H locs hP hD hS => ?_)
  have hP : va_P D vwCl (wDr aI aJ aL q x dc di xs ys wt inn) H := hP
  have hD : va_D A (wDr aI aJ aL q x dc di xs ys wt inn) := hD
  refine lv_aload_n hx hb dX2_open_5 rfl (lv_at hl 0 rfl) ?_
  refine lv_iconst hx hb dX2_open_6 (v := nI 0) (by decide) ?_
  refine va_put hx hb hts inX2 (ty0 := tyX2) tyX2_ok nmX2 hown hK hP hD hS 0 (ci := 2) (C := RX2) (T := TX2) (N := 7) rfl rfl 1 (by decide) (hts _ rw_23) (fun _ h => h) rfl (ty := .int) (by decide +kernel) rfl rfl (Nat.le_of_ble_eq_true rfl) dX2_open_7 (fun H locs hP hD hS => ?_)
  have hP : va_P D vwCl (wDr aI aJ aL q x 0 di xs ys wt inn) H := hP
  have hD : va_D A (wDr aI aJ aL q x 0 di xs ys wt inn) := hD
  refine lv_aload_n hx hb dX2_open_10 rfl (lv_at hl 0 rfl) ?_
  refine lv_iconst hx hb dX2_open_11 (v := nI 0) (by decide) ?_
  refine va_put hx hb hts inX2 (ty0 := tyX2) tyX2_ok nmX2 hown hK hP hD hS 0 (ci := 2) (C := RX2) (T := TX2) (N := 7) rfl rfl 2 (by decide) (hts _ rw_24) (fun _ h => h) rfl (ty := .int) (by decide +kernel) rfl rfl (Nat.le_of_ble_eq_true rfl) dX2_open_12 (fun H locs hP hD hS => ?_)
  have hP : va_P D vwCl (wDr aI aJ aL q x 0 0 xs ys wt inn) H := hP
  have hD : va_D A (wDr aI aJ aL q x 0 0 xs ys wt inn) := hD
  exact rs_vret () hx hb hr hlk hQ hK hP hD hS rfl dX2_open_15

def rm_X2_close : Room := { frames := 1, cells := 0, slots := 0, locals := 64 }
set_option maxHeartbeats 4000000 in
set_option maxRecDepth 100000 in
theorem c_X2_close (l : Launch) (D : va_G) (aI aJ aL : ClassId) (sz : Nat) (q : Nat → Nat) (dd : Nat) (dc : Nat) (di : Nat) (xs : Nat → Int32) (ys : Nat → Int32) (wt : Nat → Int32) (inn : Nat → Nat)  : rs_MV (S := Unit) l yX2_close (Cond.code yX2_close prog_4_method_3_code 1 none :: rsW) rm_X2_close D vwCl (rs_tys aI aJ aL) rs_nw [.ref (q 0)] (wDr aI aJ aL q dd dc di xs ys wt inn) sz (fun uu => wDr aI aJ aL q 0 dc di xs ys wt inn) := by
  refine rs_ent (cc := cX2_close) (maxL := 1) (ret := none) (Qc := rs_QV D vwCl _ _) (by decide) rfl (Nat.le_of_ble_eq_true rfl) ?_
  intro p e s m args below meth c ls A Q hx hb hr hml hlk hts hown hin hK hN hP hD hS hA hQ hl
  have hl : lv_has ls 1 [(0, .ref (q 0))] := hl
  refine lv_aload_n hx hb dX2_close_0 rfl (lv_at hl 0 rfl) ?_
  refine lv_iconst hx hb dX2_close_1 (v := nI 0) (by decide) ?_
  refine va_put hx hb hts inX2 (ty0 := tyX2) tyX2_ok nmX2 hown hK hP hD hS 0 (ci := 2) (C := RX2) (T := TX2) (N := 7) rfl rfl 0 (by decide) (hts _ rw_22) (fun _ h => h) rfl (ty := .int) (by decide +kernel) rfl rfl (Nat.le_of_ble_eq_true rfl) dX2_close_2 (fun H locs hP hD hS => ?_)
  have hP : va_P D vwCl (wDr aI aJ aL q 0 dc di xs ys wt inn) H := hP
  have hD : va_D A (wDr aI aJ aL q 0 dc di xs ys wt inn) := hD
  exact rs_vret () hx hb hr hlk hQ hK hP hD hS rfl dX2_close_5

def rm_X2_addPoint : Room := { frames := 2, cells := 0, slots := 0, locals := 148 }
set_option maxHeartbeats 4000000 in
set_option maxRecDepth 100000 in
theorem c_X2_addPoint (l : Launch) (D : va_G) (aI aJ aL : ClassId) (sz : Nat) (q : Nat → Nat) (dd : Nat) (dc : Nat) (di : Nat) (xs : Nat → Int32) (ys : Nat → Int32) (wt : Nat → Int32) (inn : Nat → Nat) (x : Int32) (y : Int32) (w : Int32) (hdd : dd ≤ 3) (hdc : dc ≤ 19) (hdi : di ≤ 15) : rs_MI (S := Unit) l yX2_addPoint (Cond.code yX2_addPoint prog_4_method_4_code 4 (some .boolean) :: rsW) rm_X2_addPoint D vwCl (rs_tys aI aJ aL) rs_nw [.ref (q 0), .int x, .int y, .int w] (wDr aI aJ aL q dd dc di xs ys wt inn) sz (rs_b (decide (rs_okp dd dc x y w))) (fun uu => if rs_okp dd dc x y w then wDr aI aJ aL q dd (dc + 1) di (upd xs dc x) (upd ys dc y) (upd wt dc w) inn else wDr aI aJ aL q dd dc di xs ys wt inn) := by
  refine rs_ent (cc := cX2_addPoint) (maxL := 4) (ret := some .boolean) (Qc := rs_QI D vwCl _ _ _) (by decide) rfl (Nat.le_of_ble_eq_true rfl) ?_
  intro p e s m args below meth c ls A Q hx hb hr hml hlk hts hown hin hK hN hP hD hS hA hQ hl
  have hl : lv_has ls 4 [(0, .ref (q 0)), (1, .int x), (2, .int y), (3, .int w)] := hl
  refine lv_aload_n hx hb dX2_addPoint_0 rfl (lv_at hl 0 rfl) ?_
  refine va_get hx hb hts inX2 hown hK hP 0 (ci := 2) (C := RX2) (T := TX2) (N := 7) rfl rfl 0 (by decide) (hts _ rw_22) (fun _ h => h) (v := .int (nI dd)) rfl dX2_addPoint_1 ?_
  refine lv_if_eq hx hb dX2_addPoint_4 (tgt := 30) rfl (fun h_4 => ?_) (fun h_4 => ?_)
  · have h_4 : dd = 0 := rs_z1 (by omega) h_4
    refine lv_iconst hx hb dX2_addPoint_30 (v := nI 0) (by decide) ?_
    have hno : ¬ rs_okp dd dc x y w := (by rintro ⟨z1, z2, z3, z4, z5, z6⟩; first | omega | exact absurd z3 (of_decide_eq_false h_20) | exact absurd z4 (of_decide_eq_false h_27) | exact z5 h_34 | exact h_40 z6)
    exact rs_iret () hx hb hr hlk hQ hK hP hD hS (by decide) (rs_bF hno) (if_neg hno).symm dX2_addPoint_31
  · have h_4 : 0 < dd := rs_z2 (by omega) h_4
    refine lv_aload_n hx hb dX2_addPoint_7 rfl (lv_at hl 0 rfl) ?_
    refine va_get hx hb hts inX2 hown hK hP 0 (ci := 2) (C := RX2) (T := TX2) (N := 7) rfl rfl 1 (by decide) (hts _ rw_23) (fun _ h => h) (v := .int (nI dc)) rfl dX2_addPoint_8 ?_
    refine lv_bipush hx hb dX2_addPoint_11 (v := nI 19) (by decide) ?_
    refine lv_icmp_ge hx hb dX2_addPoint_13 (tgt := 30) rfl (fun h_13 => ?_) (fun h_13 => ?_)
    · have h_13 : 19 ≤ dc := (nI_leI (by omega) (by omega)).1 h_13
      refine lv_iconst hx hb dX2_addPoint_30 (v := nI 0) (by decide) ?_
      have hno : ¬ rs_okp dd dc x y w := (by rintro ⟨z1, z2, z3, z4, z5, z6⟩; first | omega | exact absurd z3 (of_decide_eq_false h_20) | exact absurd z4 (of_decide_eq_false h_27) | exact z5 h_34 | exact h_40 z6)
      exact rs_iret () hx hb hr hlk hQ hK hP hD hS (by decide) (rs_bF hno) (if_neg hno).symm dX2_addPoint_31
    · have h_13 : dc < 19 := Nat.lt_of_not_le (fun z => h_13 ((nI_leI (by omega) (by omega)).2 z))
      refine lv_iload_n hx hb dX2_addPoint_16 rfl (lv_at hl 1 rfl) ?_
      refine rs_cSI (rest := []) (wr := (wDr aI aJ aL q dd dc di xs ys wt inn)) (ws' := fun u_17 => wDr aI aJ aL q dd dc di xs ys wt inn) ⟨hx, hb, hml, hown, hts⟩ (c_X2_isCoordinate l D aI aJ aL _ x ) (cwS 1 hts (rs_gS rw_149 rw_150 rw_2 rw_151) rfl rfl rfl (by decide +kernel) ⟨Nat.le_of_ble_eq_true rfl, Nat.le_of_ble_eq_true rfl⟩) hK hN hP hD hS hA [] [0, 1, 2, 3, 4] [0, 1, 2, 3, 4] (by decide) rfl rfl (fun _ => rfl) hl.1 rfl rfl (Nat.le_of_ble_eq_true rfl) dX2_addPoint_17 ⟨Nat.le_refl _, Nat.le_refl _⟩ (fun u_17 H locs hP hD hS => ?_)
      have hP : va_P D vwCl (wDr aI aJ aL q dd dc di xs ys wt inn) H := hP
      have hD : va_D A (wDr aI aJ aL q dd dc di xs ys wt inn) := hD
      refine lv_if_eq hx hb dX2_addPoint_20 (tgt := 30) rfl (fun h_20 => ?_) (fun h_20 => ?_)
      · have h_20 : (decide (rs_isc x)) = false := rs_bz h_20
        refine lv_iconst hx hb dX2_addPoint_30 (v := nI 0) (by decide) ?_
        have hno : ¬ rs_okp dd dc x y w := (by rintro ⟨z1, z2, z3, z4, z5, z6⟩; first | omega | exact absurd z3 (of_decide_eq_false h_20) | exact absurd z4 (of_decide_eq_false h_27) | exact z5 h_34 | exact h_40 z6)
        exact rs_iret () hx hb hr hlk hQ hK hP hD hS (by decide) (rs_bF hno) (if_neg hno).symm dX2_addPoint_31
      · have h_20 : (decide (rs_isc x)) = true := rs_bn h_20
        refine lv_iload_n hx hb dX2_addPoint_23 rfl (lv_at hl 2 rfl) ?_
        refine rs_cSI (rest := []) (wr := (wDr aI aJ aL q dd dc di xs ys wt inn)) (ws' := fun u_24 => wDr aI aJ aL q dd dc di xs ys wt inn) ⟨hx, hb, hml, hown, hts⟩ (c_X2_isCoordinate l D aI aJ aL _ y ) (cwS 1 hts (rs_gS rw_149 rw_150 rw_2 rw_151) rfl rfl rfl (by decide +kernel) ⟨Nat.le_of_ble_eq_true rfl, Nat.le_of_ble_eq_true rfl⟩) hK hN hP hD hS hA [] [0, 1, 2, 3, 4] [0, 1, 2, 3, 4] (by decide) rfl rfl (fun _ => rfl) hl.1 rfl rfl (Nat.le_of_ble_eq_true rfl) dX2_addPoint_24 ⟨Nat.le_refl _, Nat.le_refl _⟩ (fun u_24 H locs hP hD hS => ?_)
        have hP : va_P D vwCl (wDr aI aJ aL q dd dc di xs ys wt inn) H := hP
        have hD : va_D A (wDr aI aJ aL q dd dc di xs ys wt inn) := hD
        refine lv_if_ne hx hb dX2_addPoint_27 (tgt := 32) rfl (fun h_27 => ?_) (fun h_27 => ?_)
        · have h_27 : (decide (rs_isc y)) = true := rs_bn h_27
          refine lv_iload_n hx hb dX2_addPoint_32 rfl (lv_at hl 3 rfl) ?_
          refine lv_iconst hx hb dX2_addPoint_33 (v := nI 1) (by decide) ?_
          refine lv_icmp_lt hx hb dX2_addPoint_34 (tgt := 43) rfl (fun h_34 => ?_) (fun h_34 => ?_)
          · skip
            refine lv_iconst hx hb dX2_addPoint_43 (v := nI 0) (by decide) ?_
            have hno : ¬ rs_okp dd dc x y w := (by rintro ⟨z1, z2, z3, z4, z5, z6⟩; first | omega | exact absurd z3 (of_decide_eq_false h_20) | exact absurd z4 (of_decide_eq_false h_27) | exact z5 h_34 | exact h_40 z6)
            exact rs_iret () hx hb hr hlk hQ hK hP hD hS (by decide) (rs_bF hno) (if_neg hno).symm dX2_addPoint_44
          · skip
            refine lv_iload_n hx hb dX2_addPoint_37 rfl (lv_at hl 3 rfl) ?_
            refine lv_bipush hx hb dX2_addPoint_38 (v := nI 16) (by decide) ?_
            refine lv_icmp_le hx hb dX2_addPoint_40 (tgt := 45) rfl (fun h_40 => ?_) (fun h_40 => ?_)
            · skip
              refine lv_aload_n hx hb dX2_addPoint_45 rfl (lv_at hl 0 rfl) ?_
              refine va_get hx hb hts inX2 hown hK hP 0 (ci := 2) (C := RX2) (T := TX2) (N := 7) rfl rfl 3 (by decide) (hts _ rw_25) (fun _ h => h) (v := .ref (q 1)) rfl dX2_addPoint_46 ?_
              refine lv_aload_n hx hb dX2_addPoint_49 rfl (lv_at hl 0 rfl) ?_
              refine va_get hx hb hts inX2 hown hK hP 0 (ci := 2) (C := RX2) (T := TX2) (N := 7) rfl rfl 1 (by decide) (hts _ rw_23) (fun _ h => h) (v := .int (nI dc)) rfl dX2_addPoint_50 ?_
              refine lv_iload_n hx hb dX2_addPoint_53 rfl (lv_at hl 1 rfl) ?_
              refine rs_iast hx hb hK hP hD hS 1 0 rfl rfl (i := dc) (by omega) (by decide) rfl dX2_addPoint_54 (ws' := wDr aI aJ aL q dd dc di (upd xs dc x) ys wt inn) rfl (fun H locs hP hD hS => ?_)
              refine lv_aload_n hx hb dX2_addPoint_55 rfl (lv_at hl 0 rfl) ?_
              refine va_get hx hb hts inX2 hown hK hP 0 (ci := 2) (C := RX2) (T := TX2) (N := 7) rfl rfl 4 (by decide) (hts _ rw_26) (fun _ h => h) (v := .ref (q 2)) rfl dX2_addPoint_56 ?_
              refine lv_aload_n hx hb dX2_addPoint_59 rfl (lv_at hl 0 rfl) ?_
              refine va_get hx hb hts inX2 hown hK hP 0 (ci := 2) (C := RX2) (T := TX2) (N := 7) rfl rfl 1 (by decide) (hts _ rw_23) (fun _ h => h) (v := .int (nI dc)) rfl dX2_addPoint_60 ?_
              refine lv_iload_n hx hb dX2_addPoint_63 rfl (lv_at hl 2 rfl) ?_
              refine rs_iast hx hb hK hP hD hS 2 0 rfl rfl (i := dc) (by omega) (by decide) rfl dX2_addPoint_64 (ws' := wDr aI aJ aL q dd dc di (upd xs dc x) (upd ys dc y) wt inn) rfl (fun H locs hP hD hS => ?_)
              refine lv_aload_n hx hb dX2_addPoint_65 rfl (lv_at hl 0 rfl) ?_
              refine va_get hx hb hts inX2 hown hK hP 0 (ci := 2) (C := RX2) (T := TX2) (N := 7) rfl rfl 5 (by decide) (hts _ rw_27) (fun _ h => h) (v := .ref (q 3)) rfl dX2_addPoint_66 ?_
              refine lv_aload_n hx hb dX2_addPoint_69 rfl (lv_at hl 0 rfl) ?_
              refine va_get hx hb hts inX2 hown hK hP 0 (ci := 2) (C := RX2) (T := TX2) (N := 7) rfl rfl 1 (by decide) (hts _ rw_23) (fun _ h => h) (v := .int (nI dc)) rfl dX2_addPoint_70 ?_
              refine lv_iload_n hx hb dX2_addPoint_73 rfl (lv_at hl 3 rfl) ?_
              refine rs_iast hx hb hK hP hD hS 3 0 rfl rfl (i := dc) (by omega) (by decide) rfl dX2_addPoint_74 (ws' := wDr aI aJ aL q dd dc di (upd xs dc x) (upd ys dc y) (upd wt dc w) inn) rfl (fun H locs hP hD hS => ?_)
              refine lv_aload_n hx hb dX2_addPoint_75 rfl (lv_at hl 0 rfl) ?_
              refine lv_dup hx hb dX2_addPoint_76 rfl ?_
              refine va_get hx hb hts inX2 hown hK hP 0 (ci := 2) (C := RX2) (T := TX2) (N := 7) rfl rfl 1 (by decide) (hts _ rw_23) (fun _ h => h) (v := .int (nI dc)) rfl dX2_addPoint_77 ?_
              refine lv_iconst hx hb dX2_addPoint_80 (v := nI 1) (by decide) ?_
              refine rs_iadd hx hb dX2_addPoint_81 (v := nI (dc + 1)) (nI_add _ _) ?_
              refine va_put hx hb hts inX2 (ty0 := tyX2) tyX2_ok nmX2 hown hK hP hD hS 0 (ci := 2) (C := RX2) (T := TX2) (N := 7) rfl rfl 1 (by decide) (hts _ rw_23) (fun _ h => h) rfl (ty := .int) (by decide +kernel) rfl rfl (Nat.le_of_ble_eq_true rfl) dX2_addPoint_82 (fun H locs hP hD hS => ?_)
              have hP : va_P D vwCl (wDr aI aJ aL q dd (dc + 1) di (upd xs dc x) (upd ys dc y) (upd wt dc w) inn) H := hP
              have hD : va_D A (wDr aI aJ aL q dd (dc + 1) di (upd xs dc x) (upd ys dc y) (upd wt dc w) inn) := hD
              refine lv_iconst hx hb dX2_addPoint_85 (v := nI 1) (by decide) ?_
              have hok : rs_okp dd dc x y w := ⟨by omega, by omega, of_decide_eq_true h_20, of_decide_eq_true h_27, h_34, h_40⟩
              exact rs_iret () hx hb hr hlk hQ hK hP hD hS (by decide) (rs_bT hok) (if_pos hok).symm dX2_addPoint_86
            · skip
              refine lv_iconst hx hb dX2_addPoint_43 (v := nI 0) (by decide) ?_
              have hno : ¬ rs_okp dd dc x y w := (by rintro ⟨z1, z2, z3, z4, z5, z6⟩; first | omega | exact absurd z3 (of_decide_eq_false h_20) | exact absurd z4 (of_decide_eq_false h_27) | exact z5 h_34 | exact h_40 z6)
              exact rs_iret () hx hb hr hlk hQ hK hP hD hS (by decide) (rs_bF hno) (if_neg hno).symm dX2_addPoint_44
        · have h_27 : (decide (rs_isc y)) = false := rs_bz h_27
          refine lv_iconst hx hb dX2_addPoint_30 (v := nI 0) (by decide) ?_
          have hno : ¬ rs_okp dd dc x y w := (by rintro ⟨z1, z2, z3, z4, z5, z6⟩; first | omega | exact absurd z3 (of_decide_eq_false h_20) | exact absurd z4 (of_decide_eq_false h_27) | exact z5 h_34 | exact h_40 z6)
          exact rs_iret () hx hb hr hlk hQ hK hP hD hS (by decide) (rs_bF hno) (if_neg hno).symm dX2_addPoint_31

def rm_X2_addKnot : Room := { frames := 2, cells := 0, slots := 0, locals := 148 }
set_option maxHeartbeats 4000000 in
set_option maxRecDepth 100000 in
theorem c_X2_addKnot (l : Launch) (D : va_G) (aI aJ aL : ClassId) (sz : Nat) (q : Nat → Nat) (dd : Nat) (dc : Nat) (di : Nat) (xs : Nat → Int32) (ys : Nat → Int32) (wt : Nat → Int32) (inn : Nat → Nat) (k : Nat) (hdd : dd ≤ 3) (hdc : dc ≤ 19) (hdi : di ≤ 15) (hk1 : 1 ≤ k) (hk5 : k ≤ 5) (hin9 : ∀ i, inn i ≤ 6) : rs_MI (S := Unit) l yX2_addKnot (Cond.code yX2_addKnot prog_4_method_5_code 2 (some .boolean) :: rsW) rm_X2_addKnot D vwCl (rs_tys aI aJ aL) rs_nw [.ref (q 0), .int (nI k)] (wDr aI aJ aL q dd dc di xs ys wt inn) sz (rs_b (decide (rs_okk dd di inn k))) (fun uu => if rs_okk dd di inn k then wDr aI aJ aL q dd dc (di + 1) xs ys wt (rs_up inn di k) else wDr aI aJ aL q dd dc di xs ys wt inn) := by
  refine rs_ent (cc := cX2_addKnot) (maxL := 2) (ret := some .boolean) (Qc := rs_QI D vwCl _ _ _) (by decide) rfl (Nat.le_of_ble_eq_true rfl) ?_
  intro p e s m args below meth c ls A Q hx hb hr hml hlk hts hown hin hK hN hP hD hS hA hQ hl
  have hl : lv_has ls 2 [(0, .ref (q 0)), (1, .int (nI k))] := hl
  refine lv_aload_n hx hb dX2_addKnot_0 rfl (lv_at hl 0 rfl) ?_
  refine va_get hx hb hts inX2 hown hK hP 0 (ci := 2) (C := RX2) (T := TX2) (N := 7) rfl rfl 0 (by decide) (hts _ rw_22) (fun _ h => h) (v := .int (nI dd)) rfl dX2_addKnot_1 ?_
  refine lv_if_eq hx hb dX2_addKnot_4 (tgt := 23) rfl (fun h_4 => ?_) (fun h_4 => ?_)
  · have h_4 : dd = 0 := rs_z1 (by omega) h_4
    refine lv_iconst hx hb dX2_addKnot_23 (v := nI 0) (by decide) ?_
    have hno : ¬ rs_okk dd di inn k := (by rintro ⟨z1, z2, z3, z4⟩; omega)
    exact rs_iret () hx hb hr hlk hQ hK hP hD hS (by decide) (rs_bF hno) (if_neg hno).symm dX2_addKnot_24
  · have h_4 : 0 < dd := rs_z2 (by omega) h_4
    refine lv_iload_n hx hb dX2_addKnot_7 rfl (lv_at hl 1 rfl) ?_
    refine rs_cTI (rest := []) (wr := (wDr aI aJ aL q dd dc di xs ys wt inn)) (ws' := fun u_8 => wDr aI aJ aL q dd dc di xs ys wt inn) ⟨hx, hb, hml, hown, hts⟩ (c_X3_isInner l D aI aJ aL _ (nI k) ) (⟨va_cnB 1 hts (rs_gN rw_162) rfl rfl rfl (hN.use (w := .methodLinkNest RX2 38 yX3_isInner "RefinedSpline") (by decide +kernel)) (hts _ rw_1) (by decide +kernel) ⟨Nat.le_of_ble_eq_true rfl, Nat.le_of_ble_eq_true rfl⟩, (hts _ rw_161), trivial⟩) hK hN hP hD hS hA [] [0, 1, 2, 3, 4] [0, 1, 2, 3, 4] (by decide) rfl rfl (fun _ => rfl) hl.1 rfl rfl (Nat.le_of_ble_eq_true rfl) dX2_addKnot_8 ⟨Nat.le_refl _, Nat.le_refl _⟩ (fun u_8 H locs hP hD hS => ?_)
    have hP : va_P D vwCl (wDr aI aJ aL q dd dc di xs ys wt inn) H := hP
    have hD : va_D A (wDr aI aJ aL q dd dc di xs ys wt inn) := hD
    refine lv_if_eq hx hb dX2_addKnot_11 (tgt := 23) rfl (fun h_11 => ?_) (fun h_11 => ?_)
    · have h_11 : (decide (0 < (nI k) ∧ (nI k) < nI 6)) = false := rs_bz h_11
      exact absurd h_11 (by rw [rs_innT hk1 hk5]; decide)
    · have h_11 : (decide (0 < (nI k) ∧ (nI k) < nI 6)) = true := rs_bn h_11
      refine lv_aload_n hx hb dX2_addKnot_14 rfl (lv_at hl 0 rfl) ?_
      refine va_get hx hb hts inX2 hown hK hP 0 (ci := 2) (C := RX2) (T := TX2) (N := 7) rfl rfl 2 (by decide) (hts _ rw_24) (fun _ h => h) (v := .int (nI di)) rfl dX2_addKnot_15 ?_
      refine lv_bipush hx hb dX2_addKnot_18 (v := nI 15) (by decide) ?_
      refine lv_icmp_lt hx hb dX2_addKnot_20 (tgt := 25) rfl (fun h_20 => ?_) (fun h_20 => ?_)
      · have h_20 : di < 15 := (nI_ltI (by omega) (by omega)).1 h_20
        refine lv_aload_n hx hb dX2_addKnot_25 rfl (lv_at hl 0 rfl) ?_
        refine va_get hx hb hts inX2 hown hK hP 0 (ci := 2) (C := RX2) (T := TX2) (N := 7) rfl rfl 2 (by decide) (hts _ rw_24) (fun _ h => h) (v := .int (nI di)) rfl dX2_addKnot_26 ?_
        refine lv_if_le hx hb dX2_addKnot_29 (tgt := 49) rfl (fun h_29 => ?_) (fun h_29 => ?_)
        · have h_29 : di = 0 := rs_z5 (by omega) h_29
          refine lv_aload_n hx hb dX2_addKnot_49 rfl (lv_at hl 0 rfl) ?_
          refine va_get hx hb hts inX2 hown hK hP 0 (ci := 2) (C := RX2) (T := TX2) (N := 7) rfl rfl 2 (by decide) (hts _ rw_24) (fun _ h => h) (v := .int (nI di)) rfl dX2_addKnot_50 ?_
          refine lv_aload_n hx hb dX2_addKnot_53 rfl (lv_at hl 0 rfl) ?_
          refine va_get hx hb hts inX2 hown hK hP 0 (ci := 2) (C := RX2) (T := TX2) (N := 7) rfl rfl 0 (by decide) (hts _ rw_22) (fun _ h => h) (v := .int (nI dd)) rfl dX2_addKnot_54 ?_
          refine lv_icmp_lt hx hb dX2_addKnot_57 (tgt := 80) rfl (fun h_57 => ?_) (fun h_57 => ?_)
          · have h_57 : di < dd := (nI_ltI (by omega) (by omega)).1 h_57
            refine lv_aload_n hx hb dX2_addKnot_80 rfl (lv_at hl 0 rfl) ?_
            refine va_get hx hb hts inX2 hown hK hP 0 (ci := 2) (C := RX2) (T := TX2) (N := 7) rfl rfl 6 (by decide) (hts _ rw_28) (fun _ h => h) (v := .ref (q 4)) rfl dX2_addKnot_81 ?_
            refine lv_aload_n hx hb dX2_addKnot_84 rfl (lv_at hl 0 rfl) ?_
            refine va_get hx hb hts inX2 hown hK hP 0 (ci := 2) (C := RX2) (T := TX2) (N := 7) rfl rfl 2 (by decide) (hts _ rw_24) (fun _ h => h) (v := .int (nI di)) rfl dX2_addKnot_85 ?_
            refine lv_iload_n hx hb dX2_addKnot_88 rfl (lv_at hl 1 rfl) ?_
            refine rs_iast hx hb hK hP hD hS 4 0 rfl rfl (i := di) (by omega) (by decide) (rs_upI _ _ _) dX2_addKnot_89 (ws' := wDr aI aJ aL q dd dc di xs ys wt (rs_up inn di k)) rfl (fun H locs hP hD hS => ?_)
            refine lv_aload_n hx hb dX2_addKnot_90 rfl (lv_at hl 0 rfl) ?_
            refine lv_dup hx hb dX2_addKnot_91 rfl ?_
            refine va_get hx hb hts inX2 hown hK hP 0 (ci := 2) (C := RX2) (T := TX2) (N := 7) rfl rfl 2 (by decide) (hts _ rw_24) (fun _ h => h) (v := .int (nI di)) rfl dX2_addKnot_92 ?_
            refine lv_iconst hx hb dX2_addKnot_95 (v := nI 1) (by decide) ?_
            refine rs_iadd hx hb dX2_addKnot_96 (v := nI (di + 1)) (nI_add _ _) ?_
            refine va_put hx hb hts inX2 (ty0 := tyX2) tyX2_ok nmX2 hown hK hP hD hS 0 (ci := 2) (C := RX2) (T := TX2) (N := 7) rfl rfl 2 (by decide) (hts _ rw_24) (fun _ h => h) rfl (ty := .int) (by decide +kernel) rfl rfl (Nat.le_of_ble_eq_true rfl) dX2_addKnot_97 (fun H locs hP hD hS => ?_)
            have hP : va_P D vwCl (wDr aI aJ aL q dd dc (di + 1) xs ys wt (rs_up inn di k)) H := hP
            have hD : va_D A (wDr aI aJ aL q dd dc (di + 1) xs ys wt (rs_up inn di k)) := hD
            refine lv_iconst hx hb dX2_addKnot_100 (v := nI 1) (by decide) ?_
            have hok : rs_okk dd di inn k := ⟨by omega, by omega, by omega, by omega⟩
            exact rs_iret () hx hb hr hlk hQ hK hP hD hS (by decide) (rs_bT hok) (if_pos hok).symm dX2_addKnot_101
          · have h_57 : dd ≤ di := Nat.le_of_not_lt (fun z => h_57 ((nI_ltI (by omega) (by omega)).2 z))
            refine lv_aload_n hx hb dX2_addKnot_60 rfl (lv_at hl 0 rfl) ?_
            refine va_get hx hb hts inX2 hown hK hP 0 (ci := 2) (C := RX2) (T := TX2) (N := 7) rfl rfl 6 (by decide) (hts _ rw_28) (fun _ h => h) (v := .ref (q 4)) rfl dX2_addKnot_61 ?_
            refine lv_aload_n hx hb dX2_addKnot_64 rfl (lv_at hl 0 rfl) ?_
            refine va_get hx hb hts inX2 hown hK hP 0 (ci := 2) (C := RX2) (T := TX2) (N := 7) rfl rfl 2 (by decide) (hts _ rw_24) (fun _ h => h) (v := .int (nI di)) rfl dX2_addKnot_65 ?_
            refine lv_aload_n hx hb dX2_addKnot_68 rfl (lv_at hl 0 rfl) ?_
            refine va_get hx hb hts inX2 hown hK hP 0 (ci := 2) (C := RX2) (T := TX2) (N := 7) rfl rfl 0 (by decide) (hts _ rw_22) (fun _ h => h) (v := .int (nI dd)) rfl dX2_addKnot_69 ?_
            refine rs_isub hx hb dX2_addKnot_72 (v := nI (di - dd)) (pk_sub (by omega)) ?_
            have hb8 := hin9 (di - dd)
            refine rs_iald hx hb hK hP 4 0 rfl rfl (i := (di - dd)) (by omega) (by decide) (v := nI (inn (di - dd))) rfl dX2_addKnot_73 ?_
            refine lv_iload_n hx hb dX2_addKnot_74 rfl (lv_at hl 1 rfl) ?_
            refine lv_icmp_ne hx hb dX2_addKnot_75 (tgt := 80) rfl (fun h_75 => ?_) (fun h_75 => ?_)
            · have h_75 : ¬ (inn (di - dd)) = k := fun z => h_75 ((nI_eq (by omega) (by omega)).2 z)
              refine lv_aload_n hx hb dX2_addKnot_80 rfl (lv_at hl 0 rfl) ?_
              refine va_get hx hb hts inX2 hown hK hP 0 (ci := 2) (C := RX2) (T := TX2) (N := 7) rfl rfl 6 (by decide) (hts _ rw_28) (fun _ h => h) (v := .ref (q 4)) rfl dX2_addKnot_81 ?_
              refine lv_aload_n hx hb dX2_addKnot_84 rfl (lv_at hl 0 rfl) ?_
              refine va_get hx hb hts inX2 hown hK hP 0 (ci := 2) (C := RX2) (T := TX2) (N := 7) rfl rfl 2 (by decide) (hts _ rw_24) (fun _ h => h) (v := .int (nI di)) rfl dX2_addKnot_85 ?_
              refine lv_iload_n hx hb dX2_addKnot_88 rfl (lv_at hl 1 rfl) ?_
              refine rs_iast hx hb hK hP hD hS 4 0 rfl rfl (i := di) (by omega) (by decide) (rs_upI _ _ _) dX2_addKnot_89 (ws' := wDr aI aJ aL q dd dc di xs ys wt (rs_up inn di k)) rfl (fun H locs hP hD hS => ?_)
              refine lv_aload_n hx hb dX2_addKnot_90 rfl (lv_at hl 0 rfl) ?_
              refine lv_dup hx hb dX2_addKnot_91 rfl ?_
              refine va_get hx hb hts inX2 hown hK hP 0 (ci := 2) (C := RX2) (T := TX2) (N := 7) rfl rfl 2 (by decide) (hts _ rw_24) (fun _ h => h) (v := .int (nI di)) rfl dX2_addKnot_92 ?_
              refine lv_iconst hx hb dX2_addKnot_95 (v := nI 1) (by decide) ?_
              refine rs_iadd hx hb dX2_addKnot_96 (v := nI (di + 1)) (nI_add _ _) ?_
              refine va_put hx hb hts inX2 (ty0 := tyX2) tyX2_ok nmX2 hown hK hP hD hS 0 (ci := 2) (C := RX2) (T := TX2) (N := 7) rfl rfl 2 (by decide) (hts _ rw_24) (fun _ h => h) rfl (ty := .int) (by decide +kernel) rfl rfl (Nat.le_of_ble_eq_true rfl) dX2_addKnot_97 (fun H locs hP hD hS => ?_)
              have hP : va_P D vwCl (wDr aI aJ aL q dd dc (di + 1) xs ys wt (rs_up inn di k)) H := hP
              have hD : va_D A (wDr aI aJ aL q dd dc (di + 1) xs ys wt (rs_up inn di k)) := hD
              refine lv_iconst hx hb dX2_addKnot_100 (v := nI 1) (by decide) ?_
              have hok : rs_okk dd di inn k := ⟨by omega, by omega, by omega, by omega⟩
              exact rs_iret () hx hb hr hlk hQ hK hP hD hS (by decide) (rs_bT hok) (if_pos hok).symm dX2_addKnot_101
            · have h_75 : (inn (di - dd)) = k := (nI_eq (by omega) (by omega)).1 h_75
              refine lv_iconst hx hb dX2_addKnot_78 (v := nI 0) (by decide) ?_
              have hno : ¬ rs_okk dd di inn k := (by rintro ⟨z1, z2, z3, z4⟩; omega)
              exact rs_iret () hx hb hr hlk hQ hK hP hD hS (by decide) (rs_bF hno) (if_neg hno).symm dX2_addKnot_79
        · have h_29 : 0 < di := rs_z6 (by omega) h_29
          refine lv_iload_n hx hb dX2_addKnot_32 rfl (lv_at hl 1 rfl) ?_
          refine lv_aload_n hx hb dX2_addKnot_33 rfl (lv_at hl 0 rfl) ?_
          refine va_get hx hb hts inX2 hown hK hP 0 (ci := 2) (C := RX2) (T := TX2) (N := 7) rfl rfl 6 (by decide) (hts _ rw_28) (fun _ h => h) (v := .ref (q 4)) rfl dX2_addKnot_34 ?_
          refine lv_aload_n hx hb dX2_addKnot_37 rfl (lv_at hl 0 rfl) ?_
          refine va_get hx hb hts inX2 hown hK hP 0 (ci := 2) (C := RX2) (T := TX2) (N := 7) rfl rfl 2 (by decide) (hts _ rw_24) (fun _ h => h) (v := .int (nI di)) rfl dX2_addKnot_38 ?_
          refine lv_iconst hx hb dX2_addKnot_41 (v := nI 1) (by decide) ?_
          refine rs_isub hx hb dX2_addKnot_42 (v := nI (di - 1)) (pk_sub (by omega)) ?_
          have hb7 := hin9 (di - 1)
          refine rs_iald hx hb hK hP 4 0 rfl rfl (i := (di - 1)) (by omega) (by decide) (v := nI (inn (di - 1))) rfl dX2_addKnot_43 ?_
          refine lv_icmp_ge hx hb dX2_addKnot_44 (tgt := 49) rfl (fun h_44 => ?_) (fun h_44 => ?_)
          · have h_44 : (inn (di - 1)) ≤ k := (nI_leI (by omega) (by omega)).1 h_44
            refine lv_aload_n hx hb dX2_addKnot_49 rfl (lv_at hl 0 rfl) ?_
            refine va_get hx hb hts inX2 hown hK hP 0 (ci := 2) (C := RX2) (T := TX2) (N := 7) rfl rfl 2 (by decide) (hts _ rw_24) (fun _ h => h) (v := .int (nI di)) rfl dX2_addKnot_50 ?_
            refine lv_aload_n hx hb dX2_addKnot_53 rfl (lv_at hl 0 rfl) ?_
            refine va_get hx hb hts inX2 hown hK hP 0 (ci := 2) (C := RX2) (T := TX2) (N := 7) rfl rfl 0 (by decide) (hts _ rw_22) (fun _ h => h) (v := .int (nI dd)) rfl dX2_addKnot_54 ?_
            refine lv_icmp_lt hx hb dX2_addKnot_57 (tgt := 80) rfl (fun h_57 => ?_) (fun h_57 => ?_)
            · have h_57 : di < dd := (nI_ltI (by omega) (by omega)).1 h_57
              refine lv_aload_n hx hb dX2_addKnot_80 rfl (lv_at hl 0 rfl) ?_
              refine va_get hx hb hts inX2 hown hK hP 0 (ci := 2) (C := RX2) (T := TX2) (N := 7) rfl rfl 6 (by decide) (hts _ rw_28) (fun _ h => h) (v := .ref (q 4)) rfl dX2_addKnot_81 ?_
              refine lv_aload_n hx hb dX2_addKnot_84 rfl (lv_at hl 0 rfl) ?_
              refine va_get hx hb hts inX2 hown hK hP 0 (ci := 2) (C := RX2) (T := TX2) (N := 7) rfl rfl 2 (by decide) (hts _ rw_24) (fun _ h => h) (v := .int (nI di)) rfl dX2_addKnot_85 ?_
              refine lv_iload_n hx hb dX2_addKnot_88 rfl (lv_at hl 1 rfl) ?_
              refine rs_iast hx hb hK hP hD hS 4 0 rfl rfl (i := di) (by omega) (by decide) (rs_upI _ _ _) dX2_addKnot_89 (ws' := wDr aI aJ aL q dd dc di xs ys wt (rs_up inn di k)) rfl (fun H locs hP hD hS => ?_)
              refine lv_aload_n hx hb dX2_addKnot_90 rfl (lv_at hl 0 rfl) ?_
              refine lv_dup hx hb dX2_addKnot_91 rfl ?_
              refine va_get hx hb hts inX2 hown hK hP 0 (ci := 2) (C := RX2) (T := TX2) (N := 7) rfl rfl 2 (by decide) (hts _ rw_24) (fun _ h => h) (v := .int (nI di)) rfl dX2_addKnot_92 ?_
              refine lv_iconst hx hb dX2_addKnot_95 (v := nI 1) (by decide) ?_
              refine rs_iadd hx hb dX2_addKnot_96 (v := nI (di + 1)) (nI_add _ _) ?_
              refine va_put hx hb hts inX2 (ty0 := tyX2) tyX2_ok nmX2 hown hK hP hD hS 0 (ci := 2) (C := RX2) (T := TX2) (N := 7) rfl rfl 2 (by decide) (hts _ rw_24) (fun _ h => h) rfl (ty := .int) (by decide +kernel) rfl rfl (Nat.le_of_ble_eq_true rfl) dX2_addKnot_97 (fun H locs hP hD hS => ?_)
              have hP : va_P D vwCl (wDr aI aJ aL q dd dc (di + 1) xs ys wt (rs_up inn di k)) H := hP
              have hD : va_D A (wDr aI aJ aL q dd dc (di + 1) xs ys wt (rs_up inn di k)) := hD
              refine lv_iconst hx hb dX2_addKnot_100 (v := nI 1) (by decide) ?_
              have hok : rs_okk dd di inn k := ⟨by omega, by omega, by omega, by omega⟩
              exact rs_iret () hx hb hr hlk hQ hK hP hD hS (by decide) (rs_bT hok) (if_pos hok).symm dX2_addKnot_101
            · have h_57 : dd ≤ di := Nat.le_of_not_lt (fun z => h_57 ((nI_ltI (by omega) (by omega)).2 z))
              refine lv_aload_n hx hb dX2_addKnot_60 rfl (lv_at hl 0 rfl) ?_
              refine va_get hx hb hts inX2 hown hK hP 0 (ci := 2) (C := RX2) (T := TX2) (N := 7) rfl rfl 6 (by decide) (hts _ rw_28) (fun _ h => h) (v := .ref (q 4)) rfl dX2_addKnot_61 ?_
              refine lv_aload_n hx hb dX2_addKnot_64 rfl (lv_at hl 0 rfl) ?_
              refine va_get hx hb hts inX2 hown hK hP 0 (ci := 2) (C := RX2) (T := TX2) (N := 7) rfl rfl 2 (by decide) (hts _ rw_24) (fun _ h => h) (v := .int (nI di)) rfl dX2_addKnot_65 ?_
              refine lv_aload_n hx hb dX2_addKnot_68 rfl (lv_at hl 0 rfl) ?_
              refine va_get hx hb hts inX2 hown hK hP 0 (ci := 2) (C := RX2) (T := TX2) (N := 7) rfl rfl 0 (by decide) (hts _ rw_22) (fun _ h => h) (v := .int (nI dd)) rfl dX2_addKnot_69 ?_
              refine rs_isub hx hb dX2_addKnot_72 (v := nI (di - dd)) (pk_sub (by omega)) ?_
              have hb8 := hin9 (di - dd)
              refine rs_iald hx hb hK hP 4 0 rfl rfl (i := (di - dd)) (by omega) (by decide) (v := nI (inn (di - dd))) rfl dX2_addKnot_73 ?_
              refine lv_iload_n hx hb dX2_addKnot_74 rfl (lv_at hl 1 rfl) ?_
              refine lv_icmp_ne hx hb dX2_addKnot_75 (tgt := 80) rfl (fun h_75 => ?_) (fun h_75 => ?_)
              · have h_75 : ¬ (inn (di - dd)) = k := fun z => h_75 ((nI_eq (by omega) (by omega)).2 z)
                refine lv_aload_n hx hb dX2_addKnot_80 rfl (lv_at hl 0 rfl) ?_
                refine va_get hx hb hts inX2 hown hK hP 0 (ci := 2) (C := RX2) (T := TX2) (N := 7) rfl rfl 6 (by decide) (hts _ rw_28) (fun _ h => h) (v := .ref (q 4)) rfl dX2_addKnot_81 ?_
                refine lv_aload_n hx hb dX2_addKnot_84 rfl (lv_at hl 0 rfl) ?_
                refine va_get hx hb hts inX2 hown hK hP 0 (ci := 2) (C := RX2) (T := TX2) (N := 7) rfl rfl 2 (by decide) (hts _ rw_24) (fun _ h => h) (v := .int (nI di)) rfl dX2_addKnot_85 ?_
                refine lv_iload_n hx hb dX2_addKnot_88 rfl (lv_at hl 1 rfl) ?_
                refine rs_iast hx hb hK hP hD hS 4 0 rfl rfl (i := di) (by omega) (by decide) (rs_upI _ _ _) dX2_addKnot_89 (ws' := wDr aI aJ aL q dd dc di xs ys wt (rs_up inn di k)) rfl (fun H locs hP hD hS => ?_)
                refine lv_aload_n hx hb dX2_addKnot_90 rfl (lv_at hl 0 rfl) ?_
                refine lv_dup hx hb dX2_addKnot_91 rfl ?_
                refine va_get hx hb hts inX2 hown hK hP 0 (ci := 2) (C := RX2) (T := TX2) (N := 7) rfl rfl 2 (by decide) (hts _ rw_24) (fun _ h => h) (v := .int (nI di)) rfl dX2_addKnot_92 ?_
                refine lv_iconst hx hb dX2_addKnot_95 (v := nI 1) (by decide) ?_
                refine rs_iadd hx hb dX2_addKnot_96 (v := nI (di + 1)) (nI_add _ _) ?_
                refine va_put hx hb hts inX2 (ty0 := tyX2) tyX2_ok nmX2 hown hK hP hD hS 0 (ci := 2) (C := RX2) (T := TX2) (N := 7) rfl rfl 2 (by decide) (hts _ rw_24) (fun _ h => h) rfl (ty := .int) (by decide +kernel) rfl rfl (Nat.le_of_ble_eq_true rfl) dX2_addKnot_97 (fun H locs hP hD hS => ?_)
                have hP : va_P D vwCl (wDr aI aJ aL q dd dc (di + 1) xs ys wt (rs_up inn di k)) H := hP
                have hD : va_D A (wDr aI aJ aL q dd dc (di + 1) xs ys wt (rs_up inn di k)) := hD
                refine lv_iconst hx hb dX2_addKnot_100 (v := nI 1) (by decide) ?_
                have hok : rs_okk dd di inn k := ⟨by omega, by omega, by omega, by omega⟩
                exact rs_iret () hx hb hr hlk hQ hK hP hD hS (by decide) (rs_bT hok) (if_pos hok).symm dX2_addKnot_101
              · have h_75 : (inn (di - dd)) = k := (nI_eq (by omega) (by omega)).1 h_75
                refine lv_iconst hx hb dX2_addKnot_78 (v := nI 0) (by decide) ?_
                have hno : ¬ rs_okk dd di inn k := (by rintro ⟨z1, z2, z3, z4⟩; omega)
                exact rs_iret () hx hb hr hlk hQ hK hP hD hS (by decide) (rs_bF hno) (if_neg hno).symm dX2_addKnot_79
          · have h_44 : k < (inn (di - 1)) := Nat.lt_of_not_le (fun z => h_44 ((nI_leI (by omega) (by omega)).2 z))
            refine lv_iconst hx hb dX2_addKnot_47 (v := nI 0) (by decide) ?_
            have hno : ¬ rs_okk dd di inn k := (by rintro ⟨z1, z2, z3, z4⟩; omega)
            exact rs_iret () hx hb hr hlk hQ hK hP hD hS (by decide) (rs_bF hno) (if_neg hno).symm dX2_addKnot_48
      · have h_20 : 15 ≤ di := Nat.le_of_not_lt (fun z => h_20 ((nI_ltI (by omega) (by omega)).2 z))
        refine lv_iconst hx hb dX2_addKnot_23 (v := nI 0) (by decide) ?_
        have hno : ¬ rs_okk dd di inn k := (by rintro ⟨z1, z2, z3, z4⟩; omega)
        exact rs_iret () hx hb hr hlk hQ hK hP hD hS (by decide) (rs_bF hno) (if_neg hno).symm dX2_addKnot_24

def rm_X2_addKnotF : Room := { frames := 2, cells := 0, slots := 0, locals := 148 }
set_option maxHeartbeats 4000000 in
set_option maxRecDepth 100000 in
theorem c_X2_addKnotF (l : Launch) (D : va_G) (aI aJ aL : ClassId) (sz : Nat) (q : Nat → Nat) (dd : Nat) (dc : Nat) (di : Nat) (xs : Nat → Int32) (ys : Nat → Int32) (wt : Nat → Int32) (inn : Nat → Nat) (k : Int32) (hdd : dd ≤ 3) (hdc : dc ≤ 19) (hdi : di ≤ 15) (hk9 : ¬ (0 < k ∧ k < nI 6)) : rs_MI (S := Unit) l yX2_addKnot (Cond.code yX2_addKnot prog_4_method_5_code 2 (some .boolean) :: rsW) rm_X2_addKnotF D vwCl (rs_tys aI aJ aL) rs_nw [.ref (q 0), .int k] (wDr aI aJ aL q dd dc di xs ys wt inn) sz (nI 0) (fun uu => wDr aI aJ aL q dd dc di xs ys wt inn) := by
  refine rs_ent (cc := cX2_addKnot) (maxL := 2) (ret := some .boolean) (Qc := rs_QI D vwCl _ _ _) (by decide) rfl (Nat.le_of_ble_eq_true rfl) ?_
  intro p e s m args below meth c ls A Q hx hb hr hml hlk hts hown hin hK hN hP hD hS hA hQ hl
  have hl : lv_has ls 2 [(0, .ref (q 0)), (1, .int k)] := hl
  refine lv_aload_n hx hb dX2_addKnot_0 rfl (lv_at hl 0 rfl) ?_
  refine va_get hx hb hts inX2 hown hK hP 0 (ci := 2) (C := RX2) (T := TX2) (N := 7) rfl rfl 0 (by decide) (hts _ rw_22) (fun _ h => h) (v := .int (nI dd)) rfl dX2_addKnot_1 ?_
  refine lv_if_eq hx hb dX2_addKnot_4 (tgt := 23) rfl (fun h_4 => ?_) (fun h_4 => ?_)
  · have h_4 : dd = 0 := rs_z1 (by omega) h_4
    refine lv_iconst hx hb dX2_addKnot_23 (v := nI 0) (by decide) ?_
    exact rs_iret () hx hb hr hlk hQ hK hP hD hS (by decide) rfl rfl dX2_addKnot_24
  · have h_4 : 0 < dd := rs_z2 (by omega) h_4
    refine lv_iload_n hx hb dX2_addKnot_7 rfl (lv_at hl 1 rfl) ?_
    refine rs_cTI (rest := []) (wr := (wDr aI aJ aL q dd dc di xs ys wt inn)) (ws' := fun u_8 => wDr aI aJ aL q dd dc di xs ys wt inn) ⟨hx, hb, hml, hown, hts⟩ (c_X3_isInner l D aI aJ aL _ k ) (⟨va_cnB 1 hts (rs_gN rw_162) rfl rfl rfl (hN.use (w := .methodLinkNest RX2 38 yX3_isInner "RefinedSpline") (by decide +kernel)) (hts _ rw_1) (by decide +kernel) ⟨Nat.le_of_ble_eq_true rfl, Nat.le_of_ble_eq_true rfl⟩, (hts _ rw_161), trivial⟩) hK hN hP hD hS hA [] [0, 1, 2, 3, 4] [0, 1, 2, 3, 4] (by decide) rfl rfl (fun _ => rfl) hl.1 rfl rfl (Nat.le_of_ble_eq_true rfl) dX2_addKnot_8 ⟨Nat.le_refl _, Nat.le_refl _⟩ (fun u_8 H locs hP hD hS => ?_)
    have hP : va_P D vwCl (wDr aI aJ aL q dd dc di xs ys wt inn) H := hP
    have hD : va_D A (wDr aI aJ aL q dd dc di xs ys wt inn) := hD
    refine lv_if_eq hx hb dX2_addKnot_11 (tgt := 23) rfl (fun h_11 => ?_) (fun h_11 => ?_)
    · have h_11 : (decide (0 < k ∧ k < nI 6)) = false := rs_bz h_11
      refine lv_iconst hx hb dX2_addKnot_23 (v := nI 0) (by decide) ?_
      exact rs_iret () hx hb hr hlk hQ hK hP hD hS (by decide) rfl rfl dX2_addKnot_24
    · have h_11 : (decide (0 < k ∧ k < nI 6)) = true := rs_bn h_11
      exact absurd (of_decide_eq_true h_11) hk9

def rm_X2_fault : Room := { frames := 1, cells := 0, slots := 0, locals := 64 }
set_option maxHeartbeats 4000000 in
set_option maxRecDepth 100000 in
theorem c_X2_fault (l : Launch) (D : va_G) (aI aJ aL : ClassId) (sz : Nat) (q : Nat → Nat) (dd : Nat) (dc : Nat) (di : Nat) (xs : Nat → Int32) (ys : Nat → Int32) (wt : Nat → Int32) (inn : Nat → Nat) (hdd : dd ≤ 3) (hdc : dc ≤ 19) (hdi : di ≤ 15) : rs_MI (S := Unit) l yX2_fault (Cond.code yX2_fault prog_4_method_6_code 1 (some .int) :: rsW) rm_X2_fault D vwCl (rs_tys aI aJ aL) rs_nw [.ref (q 0)] (wDr aI aJ aL q dd dc di xs ys wt inn) sz (rs_fault dd dc di) (fun uu => wDr aI aJ aL q dd dc di xs ys wt inn) := by
  refine rs_ent (cc := cX2_fault) (maxL := 1) (ret := some .int) (Qc := rs_QI D vwCl _ _ _) (by decide) rfl (Nat.le_of_ble_eq_true rfl) ?_
  intro p e s m args below meth c ls A Q hx hb hr hml hlk hts hown hin hK hN hP hD hS hA hQ hl
  have hl : lv_has ls 1 [(0, .ref (q 0))] := hl
  refine lv_aload_n hx hb dX2_fault_0 rfl (lv_at hl 0 rfl) ?_
  refine va_get hx hb hts inX2 hown hK hP 0 (ci := 2) (C := RX2) (T := TX2) (N := 7) rfl rfl 0 (by decide) (hts _ rw_22) (fun _ h => h) (v := .int (nI dd)) rfl dX2_fault_1 ?_
  refine lv_if_ne hx hb dX2_fault_4 (tgt := 9) rfl (fun h_4 => ?_) (fun h_4 => ?_)
  · have h_4 : 0 < dd := rs_z2 (by omega) h_4
    refine lv_aload_n hx hb dX2_fault_9 rfl (lv_at hl 0 rfl) ?_
    refine va_get hx hb hts inX2 hown hK hP 0 (ci := 2) (C := RX2) (T := TX2) (N := 7) rfl rfl 1 (by decide) (hts _ rw_23) (fun _ h => h) (v := .int (nI dc)) rfl dX2_fault_10 ?_
    refine lv_aload_n hx hb dX2_fault_13 rfl (lv_at hl 0 rfl) ?_
    refine va_get hx hb hts inX2 hown hK hP 0 (ci := 2) (C := RX2) (T := TX2) (N := 7) rfl rfl 0 (by decide) (hts _ rw_22) (fun _ h => h) (v := .int (nI dd)) rfl dX2_fault_14 ?_
    refine lv_iconst hx hb dX2_fault_17 (v := nI 1) (by decide) ?_
    refine rs_iadd hx hb dX2_fault_18 (v := nI (dd + 1)) (nI_add _ _) ?_
    refine lv_icmp_ge hx hb dX2_fault_19 (tgt := 24) rfl (fun h_19 => ?_) (fun h_19 => ?_)
    · have h_19 : (dd + 1) ≤ dc := (nI_leI (by omega) (by omega)).1 h_19
      refine lv_aload_n hx hb dX2_fault_24 rfl (lv_at hl 0 rfl) ?_
      refine va_get hx hb hts inX2 hown hK hP 0 (ci := 2) (C := RX2) (T := TX2) (N := 7) rfl rfl 2 (by decide) (hts _ rw_24) (fun _ h => h) (v := .int (nI di)) rfl dX2_fault_25 ?_
      refine lv_aload_n hx hb dX2_fault_28 rfl (lv_at hl 0 rfl) ?_
      refine va_get hx hb hts inX2 hown hK hP 0 (ci := 2) (C := RX2) (T := TX2) (N := 7) rfl rfl 1 (by decide) (hts _ rw_23) (fun _ h => h) (v := .int (nI dc)) rfl dX2_fault_29 ?_
      refine lv_aload_n hx hb dX2_fault_32 rfl (lv_at hl 0 rfl) ?_
      refine va_get hx hb hts inX2 hown hK hP 0 (ci := 2) (C := RX2) (T := TX2) (N := 7) rfl rfl 0 (by decide) (hts _ rw_22) (fun _ h => h) (v := .int (nI dd)) rfl dX2_fault_33 ?_
      refine rs_isub hx hb dX2_fault_36 (v := nI (dc - dd)) (pk_sub (by omega)) ?_
      refine lv_iconst hx hb dX2_fault_37 (v := nI 1) (by decide) ?_
      refine rs_isub hx hb dX2_fault_38 (v := nI ((dc - dd) - 1)) (pk_sub (by omega)) ?_
      refine lv_icmp_ne hx hb dX2_fault_39 (tgt := 46) rfl (fun h_39 => ?_) (fun h_39 => ?_)
      · have h_39 : ¬ di = ((dc - dd) - 1) := fun z => h_39 ((nI_eq (by omega) (by omega)).2 z)
        refine lv_iconst hx hb dX2_fault_46 (v := nI 3) (by decide) ?_
        exact rs_iret () hx hb hr hlk hQ hK hP hD hS rfl (by first | exact ((if_neg (by omega)).trans ((if_neg (by omega)).trans (if_pos h_39))).symm | exact ((if_neg (by omega)).trans ((if_neg (by omega)).trans (if_neg h_39))).symm) rfl dX2_fault_47
      · have h_39 : di = ((dc - dd) - 1) := (nI_eq (by omega) (by omega)).1 h_39
        refine lv_iconst hx hb dX2_fault_42 (v := nI 0) (by decide) ?_
        refine lv_goto hx hb dX2_fault_43 (tgt := 47) rfl ?_
        exact rs_iret () hx hb hr hlk hQ hK hP hD hS rfl (by first | exact ((if_neg (by omega)).trans ((if_neg (by omega)).trans (if_pos h_39))).symm | exact ((if_neg (by omega)).trans ((if_neg (by omega)).trans (if_neg h_39))).symm) rfl dX2_fault_47
    · have h_19 : dc < (dd + 1) := Nat.lt_of_not_le (fun z => h_19 ((nI_leI (by omega) (by omega)).2 z))
      refine lv_iconst hx hb dX2_fault_22 (v := nI 2) (by decide) ?_
      exact rs_iret () hx hb hr hlk hQ hK hP hD hS rfl ((if_neg (by omega)).trans (if_pos h_19)).symm rfl dX2_fault_23
  · have h_4 : dd = 0 := rs_z1 (by omega) h_4
    refine lv_iconst hx hb dX2_fault_7 (v := nI 1) (by decide) ?_
    exact rs_iret () hx hb hr hlk hQ hK hP hD hS rfl (if_pos h_4).symm rfl dX2_fault_8
