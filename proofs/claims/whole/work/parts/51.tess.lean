def rm_X3_tessellate : Room := { frames := 61, cells := 0, slots := 0, locals := 4091 }
set_option maxHeartbeats 4000000 in
set_option maxRecDepth 100000 in
theorem c_X3_tessellate (l : Launch) (D : va_G) (aI aJ aL : ClassId) (sz : Nat) (h : Nat) (qd : Nat → Nat) (dd : Nat) (dc : Nat) (di : Nat) (xs : Nat → Int32) (ys : Nat → Int32) (wt : Nat → Int32) (inn : Nat → Nat) (qc : Nat → Nat) (cs : Nat) (ho : Int32) (tl : Int32) (vt : Nat → Nat) (xa : Nat → Int32) (ya : Nat → Int32) (q : Nat → Nat) (d : Nat) (n : Nat) (kn : Nat → Nat) (rz : Nat → Nat → Int64) (ac : Int32) (up : Int32) (ar : Nat → Nat) (wk : Nat → Int64) (q2 : Nat → Nat) (d2 : Nat) (n2 : Nat) (kn2 : Nat → Nat) (rz2 : Nat → Nat → Int64) (ac2 : Int32) (up2 : Int32) (ar2 : Nat → Nat) (wk2 : Nat → Int64) (how : Int32) (tol : Int32) (dep : Nat) (hd : d ≤ 3) (hn : n ≤ 19) (hk : ∀ i, kn i ≤ 6) (hd0 : 0 < d) (hdn : d + 1 ≤ n) (hhow : how = 0 ∨ how = nI 1) (htol : ¬ tol < 0) (hdep : dep ≤ 6) (hasc : ∀ i, d ≤ i → i < n → kn i ≤ kn (i + 1)) (hk0 : kn d = 0) : rs_MI (S := (Nat → Int32) × (Nat → Int32) × (Int32 × Int32 × (Nat → Nat) × (Nat → Int64))) l yX3_tessellate (Cond.code yX3_tessellate prog_1_method_19_code 4 (some .int) :: rsW) rm_X3_tessellate D vwCl (rs_tys aI aJ aL) rs_nw [.ref h, .int how, .int tol, .int (nI dep)] ((wS aI aJ aL h (qd 0) (qc 0) (q 0) (q2 0)) ++ (wDr aI aJ aL qd dd dc di xs ys wt inn) ++ (wCh aI aJ aL qc cs ho tl vt xa ya) ++ (wC aI aJ aL q d n kn rz ac up ar wk) ++ (wC aI aJ aL q2 d2 n2 kn2 rz2 ac2 up2 ar2 wk2)) sz (nI ((rs_all (rs_okc kn d n rz how tol) dep kn d (n - d)).length - 1)) (fun uu => (wS aI aJ aL h (qd 0) (qc 0) (q 0) (q2 0)) ++ (wDr aI aJ aL qd dd dc di xs ys wt inn) ++ (wCh aI aJ aL qc ((rs_all (rs_okc kn d n rz how tol) dep kn d (n - d)).length) how tol (rs_lay vt 0 (rs_all (rs_okc kn d n rz how tol) dep kn d (n - d))) uu.1 uu.2.1) ++ (wC aI aJ aL q d n kn rz uu.2.2.1 uu.2.2.2.1 uu.2.2.2.2.1 uu.2.2.2.2.2) ++ (wC aI aJ aL q2 d2 n2 kn2 rz2 ac2 up2 ar2 wk2)) := by
  refine rs_ent (cc := cX3_tessellate) (maxL := 4) (ret := some .int) (Qc := rs_QI D vwCl _ _ _) (by decide) rfl (Nat.le_of_ble_eq_true rfl) ?_
  intro p e s m args below meth c ls A Q hx hb hr hml hlk hts hown hin hK hN hP hD hS hA hQ hl
  have hl : lv_has ls 4 [(0, .ref h), (1, .int how), (2, .int tol), (3, .int (nI dep))] := hl
  refine lv_aload_n hx hb dX3_tessellate_0 rfl (lv_at hl 0 rfl) ?_
  refine va_get hx hb hts inX3 hown hK hP 0 (ci := 3) (C := RX3) (T := TX3) (N := 4) rfl rfl 2 (by decide) (hts _ rw_122) (fun _ h => h) (v := .ref (q 0)) rfl dX3_tessellate_1 ?_
  refine rs_cVI (rest := []) (wr := (wS aI aJ aL h (qd 0) (qc 0) (q 0) (q2 0)) ++ (wDr aI aJ aL qd dd dc di xs ys wt inn) ++ (wCh aI aJ aL qc cs ho tl vt xa ya) ++ (wC aI aJ aL q2 d2 n2 kn2 rz2 ac2 up2 ar2 wk2)) (ws' := fun u_4 => (wS aI aJ aL h (qd 0) (qc 0) (q 0) (q2 0)) ++ (wDr aI aJ aL qd dd dc di xs ys wt inn) ++ (wCh aI aJ aL qc cs ho tl vt xa ya) ++ (wC aI aJ aL q d n kn rz ac up ar wk) ++ (wC aI aJ aL q2 d2 n2 kn2 rz2 ac2 up2 ar2 wk2)) ⟨hx, hb, hml, hown, hts⟩ (c_X1_exists l D aI aJ aL _ q d n kn rz ac up ar wk hd hn) (cwV 0 hts (rs_gV rw_192 rw_193 rw_194 rw_4 rw_195) rfl rfl rfl (by decide +kernel) ⟨Nat.le_of_ble_eq_true rfl, Nat.le_of_ble_eq_true rfl⟩) hK hN hP hD hS hA [10, 11, 12, 13, 14, 15, 16, 17] [0, 1, 2, 3, 4, 5, 6, 7, 8, 9, 18, 19, 20, 21, 22, 23, 24, 25] [0, 1, 2, 3, 4, 5, 6, 7, 8, 9, 18, 19, 20, 21, 22, 23, 24, 25, 10, 11, 12, 13, 14, 15, 16, 17] (by decide) rfl rfl (fun _ => rfl) 10 rfl rfl hl.1 rfl rfl (Nat.le_of_ble_eq_true rfl) dX3_tessellate_4 ⟨Nat.le_refl _, Nat.le_refl _⟩ (fun u_4 H locs hP hD hS => ?_)
  have hP : va_P D vwCl ((wS aI aJ aL h (qd 0) (qc 0) (q 0) (q2 0)) ++ (wDr aI aJ aL qd dd dc di xs ys wt inn) ++ (wCh aI aJ aL qc cs ho tl vt xa ya) ++ (wC aI aJ aL q d n kn rz ac up ar wk) ++ (wC aI aJ aL q2 d2 n2 kn2 rz2 ac2 up2 ar2 wk2)) H := hP
  have hD : va_D A ((wS aI aJ aL h (qd 0) (qc 0) (q 0) (q2 0)) ++ (wDr aI aJ aL qd dd dc di xs ys wt inn) ++ (wCh aI aJ aL qc cs ho tl vt xa ya) ++ (wC aI aJ aL q d n kn rz ac up ar wk) ++ (wC aI aJ aL q2 d2 n2 kn2 rz2 ac2 up2 ar2 wk2)) := hD
  refine lv_if_eq hx hb dX3_tessellate_7 (tgt := 23) rfl (fun h_7 => ?_) (fun h_7 => ?_)
  · have h_7 : (decide (0 < d)) = false := rs_bz h_7
    exact absurd hd0 (of_decide_eq_false h_7)
  · have h_7 : (decide (0 < d)) = true := rs_bn h_7
    refine lv_iload_n hx hb dX3_tessellate_10 rfl (lv_at hl 1 rfl) ?_
    refine lv_if_eq hx hb dX3_tessellate_11 (tgt := 19) rfl (fun h_11 => ?_) (fun h_11 => ?_)
    · skip
      refine lv_iload_n hx hb dX3_tessellate_19 rfl (lv_at hl 2 rfl) ?_
      refine lv_if_ge hx hb dX3_tessellate_20 (tgt := 25) rfl (fun h_20 => ?_) (fun h_20 => ?_)
      · skip
        refine lv_iload_n hx hb dX3_tessellate_25 rfl (lv_at hl 3 rfl) ?_
        refine lv_if_lt hx hb dX3_tessellate_26 (tgt := 35) rfl (fun h_26 => absurd h_26 (nI_pos (by omega))) (fun _ => ?_)
        refine lv_iload_n hx hb dX3_tessellate_29 rfl (lv_at hl 3 rfl) ?_
        refine lv_bipush hx hb dX3_tessellate_30 (v := nI 6) (by decide) ?_
        refine lv_icmp_le hx hb dX3_tessellate_32 (tgt := 37) rfl (fun h_32 => ?_) (fun h_32 => ?_)
        · have h_32 : dep ≤ 6 := (nI_leI (by omega) (by omega)).1 h_32
          refine lv_aload_n hx hb dX3_tessellate_37 rfl (lv_at hl 0 rfl) ?_
          refine va_get hx hb hts inX3 hown hK hP 0 (ci := 3) (C := RX3) (T := TX3) (N := 4) rfl rfl 1 (by decide) (hts _ rw_121) (fun _ h => h) (v := .ref (qc 0)) rfl dX3_tessellate_38 ?_
          refine lv_aload_n hx hb dX3_tessellate_41 rfl (lv_at hl 0 rfl) ?_
          refine va_get hx hb hts inX3 hown hK hP 0 (ci := 3) (C := RX3) (T := TX3) (N := 4) rfl rfl 2 (by decide) (hts _ rw_122) (fun _ h => h) (v := .ref (q 0)) rfl dX3_tessellate_42 ?_
          refine lv_iload_n hx hb dX3_tessellate_45 rfl (lv_at hl 1 rfl) ?_
          refine lv_iload_n hx hb dX3_tessellate_46 rfl (lv_at hl 2 rfl) ?_
          refine lv_iload_n hx hb dX3_tessellate_47 rfl (lv_at hl 3 rfl) ?_
          refine rs_cVI (rest := []) (wr := (wS aI aJ aL h (qd 0) (qc 0) (q 0) (q2 0)) ++ (wDr aI aJ aL qd dd dc di xs ys wt inn) ++ (wC aI aJ aL q2 d2 n2 kn2 rz2 ac2 up2 ar2 wk2)) (ws' := fun u_48 => (wS aI aJ aL h (qd 0) (qc 0) (q 0) (q2 0)) ++ (wDr aI aJ aL qd dd dc di xs ys wt inn) ++ (wCh aI aJ aL qc ((rs_all (rs_okc kn d n rz how tol) dep kn d (n - d)).length) how tol (rs_lay vt 0 (rs_all (rs_okc kn d n rz how tol) dep kn d (n - d))) u_48.1 u_48.2.1) ++ (wC aI aJ aL q d n kn rz u_48.2.2.1 u_48.2.2.2.1 u_48.2.2.2.2.1 u_48.2.2.2.2.2) ++ (wC aI aJ aL q2 d2 n2 kn2 rz2 ac2 up2 ar2 wk2)) ⟨hx, hb, hml, hown, hts⟩ (c_X0_cutAll l D aI aJ aL _ qc cs ho tl vt xa ya q d n kn rz ac up ar wk how tol dep hd hn hk hdn hdep hasc hk0) (cwV 4 hts (rs_gV rw_357 rw_358 rw_359 rw_3 rw_360) rfl rfl rfl (by decide +kernel) ⟨Nat.le_of_ble_eq_true rfl, Nat.le_of_ble_eq_true rfl⟩) hK hN hP hD hS hA [6, 7, 8, 9, 10, 11, 12, 13, 14, 15, 16, 17] [0, 1, 2, 3, 4, 5, 18, 19, 20, 21, 22, 23, 24, 25] [0, 1, 2, 3, 4, 5, 14, 15, 16, 17, 18, 19, 20, 21, 22, 23, 24, 25, 6, 7, 8, 9, 10, 11, 12, 13] (by decide) rfl rfl (fun _ => rfl) 6 rfl rfl hl.1 rfl rfl (Nat.le_of_ble_eq_true rfl) dX3_tessellate_48 ⟨Nat.le_refl _, Nat.le_refl _⟩ (fun u_48 H locs hP hD hS => ?_)
          have hP : va_P D vwCl ((wS aI aJ aL h (qd 0) (qc 0) (q 0) (q2 0)) ++ (wDr aI aJ aL qd dd dc di xs ys wt inn) ++ (wCh aI aJ aL qc ((rs_all (rs_okc kn d n rz how tol) dep kn d (n - d)).length) how tol (rs_lay vt 0 (rs_all (rs_okc kn d n rz how tol) dep kn d (n - d))) u_48.1 u_48.2.1) ++ (wC aI aJ aL q d n kn rz u_48.2.2.1 u_48.2.2.2.1 u_48.2.2.2.2.1 u_48.2.2.2.2.2) ++ (wC aI aJ aL q2 d2 n2 kn2 rz2 ac2 up2 ar2 wk2)) H := hP
          have hD : va_D A ((wS aI aJ aL h (qd 0) (qc 0) (q 0) (q2 0)) ++ (wDr aI aJ aL qd dd dc di xs ys wt inn) ++ (wCh aI aJ aL qc ((rs_all (rs_okc kn d n rz how tol) dep kn d (n - d)).length) how tol (rs_lay vt 0 (rs_all (rs_okc kn d n rz how tol) dep kn d (n - d))) u_48.1 u_48.2.1) ++ (wC aI aJ aL q d n kn rz u_48.2.2.1 u_48.2.2.2.1 u_48.2.2.2.2.1 u_48.2.2.2.2.2) ++ (wC aI aJ aL q2 d2 n2 kn2 rz2 ac2 up2 ar2 wk2)) := hD
          exact rs_iret u_48 hx hb hr hlk hQ hK hP hD hS rfl rfl rfl dX3_tessellate_51
        · have h_32 : 6 < dep := Nat.lt_of_not_le (fun z => h_32 ((nI_leI (by omega) (by omega)).2 z))
          omega
      · skip
        exact absurd (Int32.not_le.mp h_20) htol
    · skip
      refine lv_iload_n hx hb dX3_tessellate_14 rfl (lv_at hl 1 rfl) ?_
      refine lv_iconst hx hb dX3_tessellate_15 (v := nI 1) (by decide) ?_
      refine lv_icmp_ne hx hb dX3_tessellate_16 (tgt := 23) rfl (fun h_16 => ?_) (fun h_16 => ?_)
      · skip
        exact absurd hhow (fun z => z.elim h_11 h_16)
      · skip
        refine lv_iload_n hx hb dX3_tessellate_19 rfl (lv_at hl 2 rfl) ?_
        refine lv_if_ge hx hb dX3_tessellate_20 (tgt := 25) rfl (fun h_20 => ?_) (fun h_20 => ?_)
        · skip
          refine lv_iload_n hx hb dX3_tessellate_25 rfl (lv_at hl 3 rfl) ?_
          refine lv_if_lt hx hb dX3_tessellate_26 (tgt := 35) rfl (fun h_26 => absurd h_26 (nI_pos (by omega))) (fun _ => ?_)
          refine lv_iload_n hx hb dX3_tessellate_29 rfl (lv_at hl 3 rfl) ?_
          refine lv_bipush hx hb dX3_tessellate_30 (v := nI 6) (by decide) ?_
          refine lv_icmp_le hx hb dX3_tessellate_32 (tgt := 37) rfl (fun h_32 => ?_) (fun h_32 => ?_)
          · have h_32 : dep ≤ 6 := (nI_leI (by omega) (by omega)).1 h_32
            refine lv_aload_n hx hb dX3_tessellate_37 rfl (lv_at hl 0 rfl) ?_
            refine va_get hx hb hts inX3 hown hK hP 0 (ci := 3) (C := RX3) (T := TX3) (N := 4) rfl rfl 1 (by decide) (hts _ rw_121) (fun _ h => h) (v := .ref (qc 0)) rfl dX3_tessellate_38 ?_
            refine lv_aload_n hx hb dX3_tessellate_41 rfl (lv_at hl 0 rfl) ?_
            refine va_get hx hb hts inX3 hown hK hP 0 (ci := 3) (C := RX3) (T := TX3) (N := 4) rfl rfl 2 (by decide) (hts _ rw_122) (fun _ h => h) (v := .ref (q 0)) rfl dX3_tessellate_42 ?_
            refine lv_iload_n hx hb dX3_tessellate_45 rfl (lv_at hl 1 rfl) ?_
            refine lv_iload_n hx hb dX3_tessellate_46 rfl (lv_at hl 2 rfl) ?_
            refine lv_iload_n hx hb dX3_tessellate_47 rfl (lv_at hl 3 rfl) ?_
            refine rs_cVI (rest := []) (wr := (wS aI aJ aL h (qd 0) (qc 0) (q 0) (q2 0)) ++ (wDr aI aJ aL qd dd dc di xs ys wt inn) ++ (wC aI aJ aL q2 d2 n2 kn2 rz2 ac2 up2 ar2 wk2)) (ws' := fun u_48 => (wS aI aJ aL h (qd 0) (qc 0) (q 0) (q2 0)) ++ (wDr aI aJ aL qd dd dc di xs ys wt inn) ++ (wCh aI aJ aL qc ((rs_all (rs_okc kn d n rz how tol) dep kn d (n - d)).length) how tol (rs_lay vt 0 (rs_all (rs_okc kn d n rz how tol) dep kn d (n - d))) u_48.1 u_48.2.1) ++ (wC aI aJ aL q d n kn rz u_48.2.2.1 u_48.2.2.2.1 u_48.2.2.2.2.1 u_48.2.2.2.2.2) ++ (wC aI aJ aL q2 d2 n2 kn2 rz2 ac2 up2 ar2 wk2)) ⟨hx, hb, hml, hown, hts⟩ (c_X0_cutAll l D aI aJ aL _ qc cs ho tl vt xa ya q d n kn rz ac up ar wk how tol dep hd hn hk hdn hdep hasc hk0) (cwV 4 hts (rs_gV rw_357 rw_358 rw_359 rw_3 rw_360) rfl rfl rfl (by decide +kernel) ⟨Nat.le_of_ble_eq_true rfl, Nat.le_of_ble_eq_true rfl⟩) hK hN hP hD hS hA [6, 7, 8, 9, 10, 11, 12, 13, 14, 15, 16, 17] [0, 1, 2, 3, 4, 5, 18, 19, 20, 21, 22, 23, 24, 25] [0, 1, 2, 3, 4, 5, 14, 15, 16, 17, 18, 19, 20, 21, 22, 23, 24, 25, 6, 7, 8, 9, 10, 11, 12, 13] (by decide) rfl rfl (fun _ => rfl) 6 rfl rfl hl.1 rfl rfl (Nat.le_of_ble_eq_true rfl) dX3_tessellate_48 ⟨Nat.le_refl _, Nat.le_refl _⟩ (fun u_48 H locs hP hD hS => ?_)
            have hP : va_P D vwCl ((wS aI aJ aL h (qd 0) (qc 0) (q 0) (q2 0)) ++ (wDr aI aJ aL qd dd dc di xs ys wt inn) ++ (wCh aI aJ aL qc ((rs_all (rs_okc kn d n rz how tol) dep kn d (n - d)).length) how tol (rs_lay vt 0 (rs_all (rs_okc kn d n rz how tol) dep kn d (n - d))) u_48.1 u_48.2.1) ++ (wC aI aJ aL q d n kn rz u_48.2.2.1 u_48.2.2.2.1 u_48.2.2.2.2.1 u_48.2.2.2.2.2) ++ (wC aI aJ aL q2 d2 n2 kn2 rz2 ac2 up2 ar2 wk2)) H := hP
            have hD : va_D A ((wS aI aJ aL h (qd 0) (qc 0) (q 0) (q2 0)) ++ (wDr aI aJ aL qd dd dc di xs ys wt inn) ++ (wCh aI aJ aL qc ((rs_all (rs_okc kn d n rz how tol) dep kn d (n - d)).length) how tol (rs_lay vt 0 (rs_all (rs_okc kn d n rz how tol) dep kn d (n - d))) u_48.1 u_48.2.1) ++ (wC aI aJ aL q d n kn rz u_48.2.2.1 u_48.2.2.2.1 u_48.2.2.2.2.1 u_48.2.2.2.2.2) ++ (wC aI aJ aL q2 d2 n2 kn2 rz2 ac2 up2 ar2 wk2)) := hD
            exact rs_iret u_48 hx hb hr hlk hQ hK hP hD hS rfl rfl rfl dX3_tessellate_51
          · have h_32 : 6 < dep := Nat.lt_of_not_le (fun z => h_32 ((nI_leI (by omega) (by omega)).2 z))
            omega
        · skip
          exact absurd (Int32.not_le.mp h_20) htol

def rm_X3_tessellateF : Room := { frames := 61, cells := 0, slots := 0, locals := 4091 }
set_option maxHeartbeats 4000000 in
set_option maxRecDepth 100000 in
theorem c_X3_tessellateF (l : Launch) (D : va_G) (aI aJ aL : ClassId) (sz : Nat) (h : Nat) (qd : Nat → Nat) (dd : Nat) (dc : Nat) (di : Nat) (xs : Nat → Int32) (ys : Nat → Int32) (wt : Nat → Int32) (inn : Nat → Nat) (qc : Nat → Nat) (cs : Nat) (ho : Int32) (tl : Int32) (vt : Nat → Nat) (xa : Nat → Int32) (ya : Nat → Int32) (q : Nat → Nat) (d : Nat) (n : Nat) (kn : Nat → Nat) (rz : Nat → Nat → Int64) (ac : Int32) (up : Int32) (ar : Nat → Nat) (wk : Nat → Int64) (q2 : Nat → Nat) (d2 : Nat) (n2 : Nat) (kn2 : Nat → Nat) (rz2 : Nat → Nat → Int64) (ac2 : Int32) (up2 : Int32) (ar2 : Nat → Nat) (wk2 : Nat → Int64) (how : Int32) (tol : Int32) (dep : Int32) (hd : d ≤ 3) (hn : n ≤ 19) (hF : ¬ (0 < d ∧ (how = 0 ∨ how = nI 1) ∧ ¬ tol < 0 ∧ ¬ dep < 0 ∧ dep ≤ nI 6)) : rs_MI (S := Unit) l yX3_tessellate (Cond.code yX3_tessellate prog_1_method_19_code 4 (some .int) :: rsW) rm_X3_tessellateF D vwCl (rs_tys aI aJ aL) rs_nw [.ref h, .int how, .int tol, .int dep] ((wS aI aJ aL h (qd 0) (qc 0) (q 0) (q2 0)) ++ (wDr aI aJ aL qd dd dc di xs ys wt inn) ++ (wCh aI aJ aL qc cs ho tl vt xa ya) ++ (wC aI aJ aL q d n kn rz ac up ar wk) ++ (wC aI aJ aL q2 d2 n2 kn2 rz2 ac2 up2 ar2 wk2)) sz ((-1)) (fun uu => (wS aI aJ aL h (qd 0) (qc 0) (q 0) (q2 0)) ++ (wDr aI aJ aL qd dd dc di xs ys wt inn) ++ (wCh aI aJ aL qc cs ho tl vt xa ya) ++ (wC aI aJ aL q d n kn rz ac up ar wk) ++ (wC aI aJ aL q2 d2 n2 kn2 rz2 ac2 up2 ar2 wk2)) := by
  refine rs_ent (cc := cX3_tessellate) (maxL := 4) (ret := some .int) (Qc := rs_QI D vwCl _ _ _) (by decide) rfl (Nat.le_of_ble_eq_true rfl) ?_
  intro p e s m args below meth c ls A Q hx hb hr hml hlk hts hown hin hK hN hP hD hS hA hQ hl
  have hl : lv_has ls 4 [(0, .ref h), (1, .int how), (2, .int tol), (3, .int dep)] := hl
  refine lv_aload_n hx hb dX3_tessellate_0 rfl (lv_at hl 0 rfl) ?_
  refine va_get hx hb hts inX3 hown hK hP 0 (ci := 3) (C := RX3) (T := TX3) (N := 4) rfl rfl 2 (by decide) (hts _ rw_122) (fun _ h => h) (v := .ref (q 0)) rfl dX3_tessellate_1 ?_
  refine rs_cVI (rest := []) (wr := (wS aI aJ aL h (qd 0) (qc 0) (q 0) (q2 0)) ++ (wDr aI aJ aL qd dd dc di xs ys wt inn) ++ (wCh aI aJ aL qc cs ho tl vt xa ya) ++ (wC aI aJ aL q2 d2 n2 kn2 rz2 ac2 up2 ar2 wk2)) (ws' := fun u_4 => (wS aI aJ aL h (qd 0) (qc 0) (q 0) (q2 0)) ++ (wDr aI aJ aL qd dd dc di xs ys wt inn) ++ (wCh aI aJ aL qc cs ho tl vt xa ya) ++ (wC aI aJ aL q d n kn rz ac up ar wk) ++ (wC aI aJ aL q2 d2 n2 kn2 rz2 ac2 up2 ar2 wk2)) ⟨hx, hb, hml, hown, hts⟩ (c_X1_exists l D aI aJ aL _ q d n kn rz ac up ar wk hd hn) (cwV 0 hts (rs_gV rw_192 rw_193 rw_194 rw_4 rw_195) rfl rfl rfl (by decide +kernel) ⟨Nat.le_of_ble_eq_true rfl, Nat.le_of_ble_eq_true rfl⟩) hK hN hP hD hS hA [10, 11, 12, 13, 14, 15, 16, 17] [0, 1, 2, 3, 4, 5, 6, 7, 8, 9, 18, 19, 20, 21, 22, 23, 24, 25] [0, 1, 2, 3, 4, 5, 6, 7, 8, 9, 18, 19, 20, 21, 22, 23, 24, 25, 10, 11, 12, 13, 14, 15, 16, 17] (by decide) rfl rfl (fun _ => rfl) 10 rfl rfl hl.1 rfl rfl (Nat.le_of_ble_eq_true rfl) dX3_tessellate_4 ⟨Nat.le_refl _, Nat.le_refl _⟩ (fun u_4 H locs hP hD hS => ?_)
  have hP : va_P D vwCl ((wS aI aJ aL h (qd 0) (qc 0) (q 0) (q2 0)) ++ (wDr aI aJ aL qd dd dc di xs ys wt inn) ++ (wCh aI aJ aL qc cs ho tl vt xa ya) ++ (wC aI aJ aL q d n kn rz ac up ar wk) ++ (wC aI aJ aL q2 d2 n2 kn2 rz2 ac2 up2 ar2 wk2)) H := hP
  have hD : va_D A ((wS aI aJ aL h (qd 0) (qc 0) (q 0) (q2 0)) ++ (wDr aI aJ aL qd dd dc di xs ys wt inn) ++ (wCh aI aJ aL qc cs ho tl vt xa ya) ++ (wC aI aJ aL q d n kn rz ac up ar wk) ++ (wC aI aJ aL q2 d2 n2 kn2 rz2 ac2 up2 ar2 wk2)) := hD
  refine lv_if_eq hx hb dX3_tessellate_7 (tgt := 23) rfl (fun h_7 => ?_) (fun h_7 => ?_)
  · have h_7 : (decide (0 < d)) = false := rs_bz h_7
    refine lv_iconst hx hb dX3_tessellate_23 (v := (-1)) (by decide) ?_
    exact rs_iret () hx hb hr hlk hQ hK hP hD hS rfl rfl rfl dX3_tessellate_24
  · have h_7 : (decide (0 < d)) = true := rs_bn h_7
    refine lv_iload_n hx hb dX3_tessellate_10 rfl (lv_at hl 1 rfl) ?_
    refine lv_if_eq hx hb dX3_tessellate_11 (tgt := 19) rfl (fun h_11 => ?_) (fun h_11 => ?_)
    · skip
      refine lv_iload_n hx hb dX3_tessellate_19 rfl (lv_at hl 2 rfl) ?_
      refine lv_if_ge hx hb dX3_tessellate_20 (tgt := 25) rfl (fun h_20 => ?_) (fun h_20 => ?_)
      · skip
        refine lv_iload_n hx hb dX3_tessellate_25 rfl (lv_at hl 3 rfl) ?_
        refine lv_if_lt hx hb dX3_tessellate_26 (tgt := 35) rfl (fun h_26 => ?_) (fun h_26 => ?_)
        · skip
          refine lv_iconst hx hb dX3_tessellate_35 (v := (-1)) (by decide) ?_
          exact rs_iret () hx hb hr hlk hQ hK hP hD hS rfl rfl rfl dX3_tessellate_36
        · skip
          refine lv_iload_n hx hb dX3_tessellate_29 rfl (lv_at hl 3 rfl) ?_
          refine lv_bipush hx hb dX3_tessellate_30 (v := nI 6) (by decide) ?_
          refine lv_icmp_le hx hb dX3_tessellate_32 (tgt := 37) rfl (fun h_32 => ?_) (fun h_32 => ?_)
          · skip
            exact absurd ⟨of_decide_eq_true h_7, (by first | exact Or.inl h_11 | exact Or.inr (Classical.byContradiction h_16) | exact Or.inr h_16), Int32.not_lt.mpr h_20, h_26, h_32⟩ hF
          · skip
            refine lv_iconst hx hb dX3_tessellate_35 (v := (-1)) (by decide) ?_
            exact rs_iret () hx hb hr hlk hQ hK hP hD hS rfl rfl rfl dX3_tessellate_36
      · skip
        refine lv_iconst hx hb dX3_tessellate_23 (v := (-1)) (by decide) ?_
        exact rs_iret () hx hb hr hlk hQ hK hP hD hS rfl rfl rfl dX3_tessellate_24
    · skip
      refine lv_iload_n hx hb dX3_tessellate_14 rfl (lv_at hl 1 rfl) ?_
      refine lv_iconst hx hb dX3_tessellate_15 (v := nI 1) (by decide) ?_
      refine lv_icmp_ne hx hb dX3_tessellate_16 (tgt := 23) rfl (fun h_16 => ?_) (fun h_16 => ?_)
      · skip
        refine lv_iconst hx hb dX3_tessellate_23 (v := (-1)) (by decide) ?_
        exact rs_iret () hx hb hr hlk hQ hK hP hD hS rfl rfl rfl dX3_tessellate_24
      · skip
        refine lv_iload_n hx hb dX3_tessellate_19 rfl (lv_at hl 2 rfl) ?_
        refine lv_if_ge hx hb dX3_tessellate_20 (tgt := 25) rfl (fun h_20 => ?_) (fun h_20 => ?_)
        · skip
          refine lv_iload_n hx hb dX3_tessellate_25 rfl (lv_at hl 3 rfl) ?_
          refine lv_if_lt hx hb dX3_tessellate_26 (tgt := 35) rfl (fun h_26 => ?_) (fun h_26 => ?_)
          · skip
            refine lv_iconst hx hb dX3_tessellate_35 (v := (-1)) (by decide) ?_
            exact rs_iret () hx hb hr hlk hQ hK hP hD hS rfl rfl rfl dX3_tessellate_36
          · skip
            refine lv_iload_n hx hb dX3_tessellate_29 rfl (lv_at hl 3 rfl) ?_
            refine lv_bipush hx hb dX3_tessellate_30 (v := nI 6) (by decide) ?_
            refine lv_icmp_le hx hb dX3_tessellate_32 (tgt := 37) rfl (fun h_32 => ?_) (fun h_32 => ?_)
            · skip
              exact absurd ⟨of_decide_eq_true h_7, (by first | exact Or.inl h_11 | exact Or.inr (Classical.byContradiction h_16) | exact Or.inr h_16), Int32.not_lt.mpr h_20, h_26, h_32⟩ hF
            · skip
              refine lv_iconst hx hb dX3_tessellate_35 (v := (-1)) (by decide) ?_
              exact rs_iret () hx hb hr hlk hQ hK hP hD hS rfl rfl rfl dX3_tessellate_36
        · skip
          refine lv_iconst hx hb dX3_tessellate_23 (v := (-1)) (by decide) ?_
          exact rs_iret () hx hb hr hlk hQ hK hP hD hS rfl rfl rfl dX3_tessellate_24
