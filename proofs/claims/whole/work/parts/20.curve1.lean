def rm_X1_exists : Room := { frames := 1, cells := 0, slots := 0, locals := 64 }
set_option maxHeartbeats 4000000 in
set_option maxRecDepth 100000 in
theorem c_X1_exists (l : Launch) (D : va_G) (aI aJ aL : ClassId) (sz : Nat) (q : Nat → Nat) (d : Nat) (n : Nat) (kn : Nat → Nat) (rz : Nat → Nat → Int64) (ac : Int32) (up : Int32) (ar : Nat → Nat) (wk : Nat → Int64) (hd : d ≤ 3) (hn : n ≤ 19) : rs_MI (S := Unit) l yX1_exists (Cond.code yX1_exists prog_3_method_2_code 1 (some .boolean) :: rsW) rm_X1_exists D vwCl (rs_tys aI aJ aL) rs_nw [.ref (q 0)] (wC aI aJ aL q d n kn rz ac up ar wk) sz (rs_b (decide (0 < d))) (fun uu => wC aI aJ aL q d n kn rz ac up ar wk) := by
  refine rs_ent (cc := cX1_exists) (maxL := 1) (ret := some .boolean) (Qc := rs_QI D vwCl _ _ _) (by decide) rfl (Nat.le_of_ble_eq_true rfl) ?_
  intro p e s m args below meth c ls A Q hx hb hr hml hlk hts hown hin hK hN hP hD hS hA hQ hl
  have hl : lv_has ls 1 [(0, .ref (q 0))] := hl
  refine lv_aload_n hx hb dX1_exists_0 rfl (lv_at hl 0 rfl) ?_
  refine va_get hx hb hts inX1 hown hK hP 0 (ci := 1) (C := RX1) (T := TX1) (N := 8) rfl rfl 0 (by decide) (hts _ rw_80) (fun _ h => h) (v := .int (nI d)) rfl dX1_exists_1 ?_
  refine lv_if_le hx hb dX1_exists_4 (tgt := 11) rfl (fun h_4 => ?_) (fun h_4 => ?_)
  · have h_4 : d = 0 := rs_z5 (by omega) h_4
    refine lv_iconst hx hb dX1_exists_11 (v := nI 0) (by decide) ?_
    exact rs_iret () hx hb hr hlk hQ hK hP hD hS (by decide) (by first | exact rs_bT (by omega) | exact rs_bF (by omega)) rfl dX1_exists_12
  · have h_4 : 0 < d := rs_z6 (by omega) h_4
    refine lv_iconst hx hb dX1_exists_7 (v := nI 1) (by decide) ?_
    refine lv_goto hx hb dX1_exists_8 (tgt := 12) rfl ?_
    exact rs_iret () hx hb hr hlk hQ hK hP hD hS (by decide) (by first | exact rs_bT (by omega) | exact rs_bF (by omega)) rfl dX1_exists_12

def rm_X1_knotCount : Room := { frames := 1, cells := 0, slots := 0, locals := 64 }
set_option maxHeartbeats 4000000 in
set_option maxRecDepth 100000 in
theorem c_X1_knotCount (l : Launch) (D : va_G) (aI aJ aL : ClassId) (sz : Nat) (q : Nat → Nat) (d : Nat) (n : Nat) (kn : Nat → Nat) (rz : Nat → Nat → Int64) (ac : Int32) (up : Int32) (ar : Nat → Nat) (wk : Nat → Int64) (hd : d ≤ 3) (hn : n ≤ 19) : rs_MI (S := Unit) l yX1_knotCount (Cond.code yX1_knotCount prog_3_method_3_code 1 (some .int) :: rsW) rm_X1_knotCount D vwCl (rs_tys aI aJ aL) rs_nw [.ref (q 0)] (wC aI aJ aL q d n kn rz ac up ar wk) sz (nI (n + d + 1)) (fun uu => wC aI aJ aL q d n kn rz ac up ar wk) := by
  refine rs_ent (cc := cX1_knotCount) (maxL := 1) (ret := some .int) (Qc := rs_QI D vwCl _ _ _) (by decide) rfl (Nat.le_of_ble_eq_true rfl) ?_
  intro p e s m args below meth c ls A Q hx hb hr hml hlk hts hown hin hK hN hP hD hS hA hQ hl
  have hl : lv_has ls 1 [(0, .ref (q 0))] := hl
  refine lv_aload_n hx hb dX1_knotCount_0 rfl (lv_at hl 0 rfl) ?_
  refine va_get hx hb hts inX1 hown hK hP 0 (ci := 1) (C := RX1) (T := TX1) (N := 8) rfl rfl 1 (by decide) (hts _ rw_84) (fun _ h => h) (v := .int (nI n)) rfl dX1_knotCount_1 ?_
  refine lv_aload_n hx hb dX1_knotCount_4 rfl (lv_at hl 0 rfl) ?_
  refine va_get hx hb hts inX1 hown hK hP 0 (ci := 1) (C := RX1) (T := TX1) (N := 8) rfl rfl 0 (by decide) (hts _ rw_80) (fun _ h => h) (v := .int (nI d)) rfl dX1_knotCount_5 ?_
  refine rs_iadd hx hb dX1_knotCount_8 (v := nI (n + d)) (nI_add _ _) ?_
  refine lv_iconst hx hb dX1_knotCount_9 (v := nI 1) (by decide) ?_
  refine rs_iadd hx hb dX1_knotCount_10 (v := nI ((n + d) + 1)) (nI_add _ _) ?_
  exact rs_iret () hx hb hr hlk hQ hK hP hD hS rfl rfl rfl dX1_knotCount_11

def rm_X1_timesOf : Room := { frames := 1, cells := 0, slots := 0, locals := 64 }
set_option maxHeartbeats 4000000 in
set_option maxRecDepth 100000 in
theorem c_X1_timesOf (l : Launch) (D : va_G) (aI aJ aL : ClassId) (sz : Nat) (q : Nat → Nat) (d : Nat) (n : Nat) (kn : Nat → Nat) (rz : Nat → Nat → Int64) (ac : Int32) (up : Int32) (ar : Nat → Nat) (wk : Nat → Int64) (k : Int32) (hd : d ≤ 3) (hn : n ≤ 19) : rs_MI (S := Unit) l yX1_timesOf (Cond.code yX1_timesOf prog_3_method_4_code 4 (some .int) :: rsW) rm_X1_timesOf D vwCl (rs_tys aI aJ aL) rs_nw [.ref (q 0), .int k] (wC aI aJ aL q d n kn rz ac up ar wk) sz (nI (rs_tm kn d k (n - (d + 1)))) (fun uu => wC aI aJ aL q d n kn rz ac up ar wk) := by
  refine rs_ent (cc := cX1_timesOf) (maxL := 4) (ret := some .int) (Qc := rs_QI D vwCl _ _ _) (by decide) rfl (Nat.le_of_ble_eq_true rfl) ?_
  intro p e s m args below meth c ls A Q hx hb hr hml hlk hts hown hin hK hN hP hD hS hA hQ hl
  have hl : lv_has ls 4 [(0, .ref (q 0)), (1, .int k)] := hl
  refine lv_iconst hx hb dX1_timesOf_0 (v := nI 0) (by decide) ?_
  refine lv_istore_n hx hb dX1_timesOf_1 rfl hl (lv' := [(2, .int (nI 0)), (0, .ref (q 0)), (1, .int k)]) (by decide) rfl (fun ls hl => ?_)
  refine lv_aload_n hx hb dX1_timesOf_2 rfl (lv_at hl 1 rfl) ?_
  refine va_get hx hb hts inX1 hown hK hP 0 (ci := 1) (C := RX1) (T := TX1) (N := 8) rfl rfl 0 (by decide) (hts _ rw_80) (fun _ h => h) (v := .int (nI d)) rfl dX1_timesOf_3 ?_
  refine lv_iconst hx hb dX1_timesOf_6 (v := nI 1) (by decide) ?_
  refine rs_iadd hx hb dX1_timesOf_7 (v := nI (d + 1)) (nI_add _ _) ?_
  refine lv_istore_n hx hb dX1_timesOf_8 rfl hl (lv' := [(3, .int (nI (d + 1))), (2, .int (nI 0)), (0, .ref (q 0)), (1, .int k)]) (by decide) rfl (fun ls hl => ?_)
  have L_9 : ∀ (k_9 : Nat) (j : Nat) (H : Heap) (locs : List Loc) (ls : Array Slot), n - (d + 1) - j < k_9 → (j ≤ n - (d + 1)) → lv_has ls 4 [(0, .ref (q 0)), (1, .int k), (2, .int (nI (rs_tm kn d k j))), (3, .int (nI (d + 1 + j)))] → va_P D vwCl (wC aI aJ aL q d n kn rz ac up ar wk) H → va_D A (wC aI aJ aL q d n kn rz ac up ar wk) → va_S A s.heap H locs → W p l e rm_X1_timesOf s m args below meth c H locs 0 0 Q (F0 m 9 ls []) := by
    intro k_9
    induction k_9 with
    | zero => intro j H locs ls hk_9; exact absurd hk_9 (Nat.not_lt_zero _)
    | succ k_9 ih_9 =>
      intro j H locs ls hk_9 hj hl hP hD hS
      refine lv_iload_n hx hb dX1_timesOf_9 rfl (lv_at hl 3 rfl) ?_
      refine lv_aload_n hx hb dX1_timesOf_10 rfl (lv_at hl 0 rfl) ?_
      refine va_get hx hb hts inX1 hown hK hP 0 (ci := 1) (C := RX1) (T := TX1) (N := 8) rfl rfl 1 (by decide) (hts _ rw_84) (fun _ h => h) (v := .int (nI n)) rfl dX1_timesOf_11 ?_
      refine lv_icmp_ge hx hb dX1_timesOf_14 (tgt := 36) rfl (fun h_14 => ?_) (fun h_14 => ?_)
      · have h_14 : n ≤ (d + 1 + j) := (nI_leI (by omega) (by omega)).1 h_14
        refine lv_iload_n hx hb dX1_timesOf_36 rfl (lv_at hl 2 rfl) ?_
        have hj9 : j = n - (d + 1) := by omega
        subst hj9
        exact rs_iret () hx hb hr hlk hQ hK hP hD hS rfl rfl rfl dX1_timesOf_37
      · have h_14 : (d + 1 + j) < n := Nat.lt_of_not_le (fun z => h_14 ((nI_leI (by omega) (by omega)).2 z))
        refine lv_aload_n hx hb dX1_timesOf_17 rfl (lv_at hl 0 rfl) ?_
        refine va_get hx hb hts inX1 hown hK hP 0 (ci := 1) (C := RX1) (T := TX1) (N := 8) rfl rfl 2 (by decide) (hts _ rw_88) (fun _ h => h) (v := .ref (q 1)) rfl dX1_timesOf_18 ?_
        refine lv_iload_n hx hb dX1_timesOf_21 rfl (lv_at hl 3 rfl) ?_
        refine rs_iald hx hb hK hP 1 0 rfl rfl (i := (d + 1 + j)) (by omega) (by decide) (v := nI (kn (d + 1 + j))) rfl dX1_timesOf_22 ?_
        refine lv_iload_n hx hb dX1_timesOf_23 rfl (lv_at hl 1 rfl) ?_
        have L_30 : ∀  (H : Heap) (locs : List Loc) (ls : Array Slot), lv_has ls 4 [(0, .ref (q 0)), (1, .int k), (2, .int (nI (rs_tm kn d k (j + 1)))), (3, .int (nI (d + 1 + j)))] → va_P D vwCl (wC aI aJ aL q d n kn rz ac up ar wk) H → va_D A (wC aI aJ aL q d n kn rz ac up ar wk) → va_S A s.heap H locs → W p l e rm_X1_timesOf s m args below meth c H locs 0 0 Q (F0 m 30 ls []) := by
          intro  H locs ls  hl hP hD hS
          refine lv_iinc hx hb dX1_timesOf_30 hl (k := 3) rfl (v := nI ((d + 1 + j) + 1)) (rs_inc _ _) (by decide) (lv' := [(3, .int (nI ((d + 1 + j) + 1))), (0, .ref (q 0)), (1, .int k), (2, .int (nI (rs_tm kn d k (j + 1))))]) rfl (fun ls hl => ?_)
          refine lv_goto hx hb dX1_timesOf_33 (tgt := 9) rfl ?_
          exact ih_9 (j + 1) _ _ _ (by omega) (by omega) (lv_sub hl [1, 2, 3, 0] rfl) hP hD hS
        refine lv_icmp_ne hx hb dX1_timesOf_24 (tgt := 30) rfl (fun h_24 => ?_) (fun h_24 => ?_)
        · skip
          have e_j : rs_tm kn d k (j + 1) = rs_tm kn d k j := if_neg h_24
          exact L_30  _ _ _  (by rw [e_j]; exact lv_sub hl [0, 1, 2, 3] rfl) hP hD hS
        · skip
          have e_j : rs_tm kn d k (j + 1) = rs_tm kn d k j + 1 := if_pos h_24
          refine lv_iinc hx hb dX1_timesOf_27 hl (k := 2) rfl (v := nI ((rs_tm kn d k j) + 1)) (rs_inc _ _) (by decide) (lv' := [(2, .int (nI ((rs_tm kn d k j) + 1))), (0, .ref (q 0)), (1, .int k), (3, .int (nI (d + 1 + j)))]) rfl (fun ls hl => ?_)
          exact L_30  _ _ _  (by rw [e_j]; exact lv_sub hl [1, 2, 0, 3] rfl) hP hD hS
  exact L_9 ((n - (d + 1) - 0) + 1) 0 _ _ _ (Nat.lt_succ_self _) (by omega) (lv_sub hl [2, 3, 1, 0] rfl) hP hD hS

def rm_X1_spanOf : Room := { frames := 1, cells := 0, slots := 0, locals := 64 }
set_option maxHeartbeats 4000000 in
set_option maxRecDepth 100000 in
theorem c_X1_spanOf (l : Launch) (D : va_G) (aI aJ aL : ClassId) (sz : Nat) (q : Nat → Nat) (d : Nat) (n : Nat) (kn : Nat → Nat) (rz : Nat → Nat → Int64) (ac : Int32) (up : Int32) (ar : Nat → Nat) (wk : Nat → Int64) (u : Nat) (hd : d ≤ 3) (hn : n ≤ 19) (hk : ∀ i, kn i ≤ 6) (hu : u < 1000) : rs_MI (S := Unit) l yX1_spanOf (Cond.code yX1_spanOf prog_3_method_5_code 4 (some .int) :: rsW) rm_X1_spanOf D vwCl (rs_tys aI aJ aL) rs_nw [.ref (q 0), .int (nI u)] (wC aI aJ aL q d n kn rz ac up ar wk) sz (nI (rs_sp kn d u (n - (d + 1)))) (fun uu => wC aI aJ aL q d n kn rz ac up ar wk) := by
  refine rs_ent (cc := cX1_spanOf) (maxL := 4) (ret := some .int) (Qc := rs_QI D vwCl _ _ _) (by decide) rfl (Nat.le_of_ble_eq_true rfl) ?_
  intro p e s m args below meth c ls A Q hx hb hr hml hlk hts hown hin hK hN hP hD hS hA hQ hl
  have hl : lv_has ls 4 [(0, .ref (q 0)), (1, .int (nI u))] := hl
  refine lv_aload_n hx hb dX1_spanOf_0 rfl (lv_at hl 0 rfl) ?_
  refine va_get hx hb hts inX1 hown hK hP 0 (ci := 1) (C := RX1) (T := TX1) (N := 8) rfl rfl 0 (by decide) (hts _ rw_80) (fun _ h => h) (v := .int (nI d)) rfl dX1_spanOf_1 ?_
  refine lv_istore_n hx hb dX1_spanOf_4 rfl hl (lv' := [(2, .int (nI d)), (0, .ref (q 0)), (1, .int (nI u))]) (by decide) rfl (fun ls hl => ?_)
  refine lv_aload_n hx hb dX1_spanOf_5 rfl (lv_at hl 1 rfl) ?_
  refine va_get hx hb hts inX1 hown hK hP 0 (ci := 1) (C := RX1) (T := TX1) (N := 8) rfl rfl 0 (by decide) (hts _ rw_80) (fun _ h => h) (v := .int (nI d)) rfl dX1_spanOf_6 ?_
  refine lv_iconst hx hb dX1_spanOf_9 (v := nI 1) (by decide) ?_
  refine rs_iadd hx hb dX1_spanOf_10 (v := nI (d + 1)) (nI_add _ _) ?_
  refine lv_istore_n hx hb dX1_spanOf_11 rfl hl (lv' := [(3, .int (nI (d + 1))), (2, .int (nI d)), (0, .ref (q 0)), (1, .int (nI u))]) (by decide) rfl (fun ls hl => ?_)
  have L_12 : ∀ (k_12 : Nat) (j : Nat) (H : Heap) (locs : List Loc) (ls : Array Slot), n - (d + 1) - j < k_12 → (j ≤ n - (d + 1)) → lv_has ls 4 [(0, .ref (q 0)), (1, .int (nI u)), (2, .int (nI (rs_sp kn d u j))), (3, .int (nI (d + 1 + j)))] → va_P D vwCl (wC aI aJ aL q d n kn rz ac up ar wk) H → va_D A (wC aI aJ aL q d n kn rz ac up ar wk) → va_S A s.heap H locs → W p l e rm_X1_spanOf s m args below meth c H locs 0 0 Q (F0 m 12 ls []) := by
    intro k_12
    induction k_12 with
    | zero => intro j H locs ls hk_12; exact absurd hk_12 (Nat.not_lt_zero _)
    | succ k_12 ih_12 =>
      intro j H locs ls hk_12 hj hl hP hD hS
      refine lv_iload_n hx hb dX1_spanOf_12 rfl (lv_at hl 3 rfl) ?_
      refine lv_aload_n hx hb dX1_spanOf_13 rfl (lv_at hl 0 rfl) ?_
      refine va_get hx hb hts inX1 hown hK hP 0 (ci := 1) (C := RX1) (T := TX1) (N := 8) rfl rfl 1 (by decide) (hts _ rw_84) (fun _ h => h) (v := .int (nI n)) rfl dX1_spanOf_14 ?_
      refine lv_icmp_ge hx hb dX1_spanOf_17 (tgt := 41) rfl (fun h_17 => ?_) (fun h_17 => ?_)
      · have h_17 : n ≤ (d + 1 + j) := (nI_leI (by omega) (by omega)).1 h_17
        refine lv_iload_n hx hb dX1_spanOf_41 rfl (lv_at hl 2 rfl) ?_
        have hj9 : j = n - (d + 1) := by omega
        subst hj9
        exact rs_iret () hx hb hr hlk hQ hK hP hD hS rfl rfl rfl dX1_spanOf_42
      · have h_17 : (d + 1 + j) < n := Nat.lt_of_not_le (fun z => h_17 ((nI_leI (by omega) (by omega)).2 z))
        refine lv_bipush hx hb dX1_spanOf_20 (v := nI 60) (by decide) ?_
        refine lv_aload_n hx hb dX1_spanOf_22 rfl (lv_at hl 0 rfl) ?_
        refine va_get hx hb hts inX1 hown hK hP 0 (ci := 1) (C := RX1) (T := TX1) (N := 8) rfl rfl 2 (by decide) (hts _ rw_88) (fun _ h => h) (v := .ref (q 1)) rfl dX1_spanOf_23 ?_
        refine lv_iload_n hx hb dX1_spanOf_26 rfl (lv_at hl 3 rfl) ?_
        refine rs_iald hx hb hK hP 1 0 rfl rfl (i := (d + 1 + j)) (by omega) (by decide) (v := nI (kn (d + 1 + j))) rfl dX1_spanOf_27 ?_
        have hk1 := hk (d + 1 + j)
        refine rs_imul hx hb dX1_spanOf_28 (v := nI (60 * (kn (d + 1 + j)))) (pk_mul _ _) ?_
        refine lv_iload_n hx hb dX1_spanOf_29 rfl (lv_at hl 1 rfl) ?_
        have L_35 : ∀  (H : Heap) (locs : List Loc) (ls : Array Slot), lv_has ls 4 [(0, .ref (q 0)), (1, .int (nI u)), (2, .int (nI (rs_sp kn d u (j + 1)))), (3, .int (nI (d + 1 + j)))] → va_P D vwCl (wC aI aJ aL q d n kn rz ac up ar wk) H → va_D A (wC aI aJ aL q d n kn rz ac up ar wk) → va_S A s.heap H locs → W p l e rm_X1_spanOf s m args below meth c H locs 0 0 Q (F0 m 35 ls []) := by
          intro  H locs ls  hl hP hD hS
          refine lv_iinc hx hb dX1_spanOf_35 hl (k := 3) rfl (v := nI ((d + 1 + j) + 1)) (rs_inc _ _) (by decide) (lv' := [(3, .int (nI ((d + 1 + j) + 1))), (0, .ref (q 0)), (1, .int (nI u)), (2, .int (nI (rs_sp kn d u (j + 1))))]) rfl (fun ls hl => ?_)
          refine lv_goto hx hb dX1_spanOf_38 (tgt := 12) rfl ?_
          exact ih_12 (j + 1) _ _ _ (by omega) (by omega) (lv_sub hl [1, 2, 3, 0] rfl) hP hD hS
        refine lv_icmp_gt hx hb dX1_spanOf_30 (tgt := 35) rfl (fun h_30 => ?_) (fun h_30 => ?_)
        · have h_30 : u < (60 * (kn (d + 1 + j))) := (nI_ltI (by omega) (by omega)).1 h_30
          have e_j : rs_sp kn d u (j + 1) = rs_sp kn d u j := if_neg (by omega)
          exact L_35  _ _ _  (by rw [e_j]; exact lv_sub hl [0, 1, 2, 3] rfl) hP hD hS
        · have h_30 : (60 * (kn (d + 1 + j))) ≤ u := Nat.le_of_not_lt (fun z => h_30 ((nI_ltI (by omega) (by omega)).2 z))
          have e_j : rs_sp kn d u (j + 1) = d + 1 + j := if_pos h_30
          refine lv_iload_n hx hb dX1_spanOf_33 rfl (lv_at hl 3 rfl) ?_
          refine lv_istore_n hx hb dX1_spanOf_34 rfl hl (lv' := [(2, .int (nI (d + 1 + j))), (0, .ref (q 0)), (1, .int (nI u)), (3, .int (nI (d + 1 + j)))]) (by decide) rfl (fun ls hl => ?_)
          exact L_35  _ _ _  (by rw [e_j]; exact lv_sub hl [1, 2, 0, 3] rfl) hP hD hS
  exact L_12 ((n - (d + 1) - 0) + 1) 0 _ _ _ (Nat.lt_succ_self _) (by omega) (lv_sub hl [2, 3, 1, 0] rfl) hP hD hS

def rm_X1_number : Room := { frames := 1, cells := 0, slots := 0, locals := 64 }
set_option maxHeartbeats 4000000 in
set_option maxRecDepth 100000 in
theorem c_X1_number (l : Launch) (D : va_G) (aI aJ aL : ClassId) (sz : Nat) (q : Nat → Nat) (d : Nat) (n : Nat) (kn : Nat → Nat) (rz : Nat → Nat → Int64) (ac : Int32) (up : Int32) (ar : Nat → Nat) (wk : Nat → Int64) (ax : Nat) (i : Int32) (hd : d ≤ 3) (hn : n ≤ 19) (hax : ax < 3) : rs_ML (S := Unit) l yX1_number (Cond.code yX1_number prog_3_method_6_code 3 (some .long) :: rsW) rm_X1_number D vwCl (rs_tys aI aJ aL) rs_nw [.ref (q 0), .int (nI ax), .int i] (wC aI aJ aL q d n kn rz ac up ar wk) sz (rs_num rz n ax i) (fun uu => wC aI aJ aL q d n kn rz ac up ar wk) := by
  refine rs_ent (cc := cX1_number) (maxL := 3) (ret := some .long) (Qc := rs_QL D vwCl _ _ _) (by decide) rfl (Nat.le_of_ble_eq_true rfl) ?_
  intro p e s m args below meth c ls A Q hx hb hr hml hlk hts hown hin hK hN hP hD hS hA hQ hl
  have hl : lv_has ls 3 [(0, .ref (q 0)), (1, .int (nI ax)), (2, .int i)] := hl
  refine lv_iload_n hx hb dX1_number_0 rfl (lv_at hl 2 rfl) ?_
  refine lv_if_lt hx hb dX1_number_1 (tgt := 12) rfl (fun h_1 => ?_) (fun h_1 => ?_)
  · skip
    refine lv_lconst hx hb dX1_number_12 (v := 0) (by decide) ?_
    refine lv_goto hx hb dX1_number_13 (tgt := 24) rfl ?_
    exact rs_lret () hx hb hr hlk hQ hK hP hD hS (by first | exact (if_pos h_1).symm | exact ((if_neg h_1).trans (if_pos (Int32.not_lt.mp h_9))).symm | exact ((if_neg h_1).trans ((if_neg (fun z => Int32.not_le.mpr h_9 z)).trans (by rw [nI_clamp ha]))).symm) rfl dX1_number_24
  · skip
    refine lv_iload_n hx hb dX1_number_4 rfl (lv_at hl 2 rfl) ?_
    refine lv_aload_n hx hb dX1_number_5 rfl (lv_at hl 0 rfl) ?_
    refine va_get hx hb hts inX1 hown hK hP 0 (ci := 1) (C := RX1) (T := TX1) (N := 8) rfl rfl 1 (by decide) (hts _ rw_84) (fun _ h => h) (v := .int (nI n)) rfl dX1_number_6 ?_
    refine lv_icmp_lt hx hb dX1_number_9 (tgt := 16) rfl (fun h_9 => ?_) (fun h_9 => ?_)
    · skip
      obtain ⟨a, ha, rfl⟩ := nI_of h_1
      have ha2 : a < n := (nI_ltI ha (by omega)).1 h_9
      refine lv_aload_n hx hb dX1_number_16 rfl (lv_at hl 0 rfl) ?_
      refine va_get hx hb hts inX1 hown hK hP 0 (ci := 1) (C := RX1) (T := TX1) (N := 8) rfl rfl 3 (by decide) (hts _ rw_92) (fun _ h => h) (v := .ref (q 2)) rfl dX1_number_17 ?_
      refine lv_iload_n hx hb dX1_number_20 rfl (lv_at hl 1 rfl) ?_
      refine rs_aald hx hb hK hP 2 2 rfl rfl (i := ax) (by omega) (by decide) (b := q (3 + ax)) rfl dX1_number_21 ?_
      refine lv_iload_n hx hb dX1_number_22 rfl (lv_at hl 2 rfl) ?_
      refine rs_lald hx hb hK hP (3 + ax) 1 (co_3 (P := fun z => (wC aI aJ aL q d n kn rz ac up ar wk)[3 + z]? = some (q (3 + z), .inl (aJ, 19, .inr (.inl (rz z))))) rfl rfl rfl (by omega)) rfl (i := a) (by omega) (by decide) (v := rz ax a) rfl dX1_number_23 ?_
      exact rs_lret () hx hb hr hlk hQ hK hP hD hS (by first | exact (if_pos h_1).symm | exact ((if_neg h_1).trans (if_pos (Int32.not_lt.mp h_9))).symm | exact ((if_neg h_1).trans ((if_neg (fun z => Int32.not_le.mpr h_9 z)).trans (by rw [nI_clamp ha]))).symm) rfl dX1_number_24
    · skip
      refine lv_lconst hx hb dX1_number_12 (v := 0) (by decide) ?_
      refine lv_goto hx hb dX1_number_13 (tgt := 24) rfl ?_
      exact rs_lret () hx hb hr hlk hQ hK hP hD hS (by first | exact (if_pos h_1).symm | exact ((if_neg h_1).trans (if_pos (Int32.not_lt.mp h_9))).symm | exact ((if_neg h_1).trans ((if_neg (fun z => Int32.not_le.mpr h_9 z)).trans (by rw [nI_clamp ha]))).symm) rfl dX1_number_24

def rm_X1_quotient : Room := { frames := 1, cells := 0, slots := 0, locals := 64 }
set_option maxHeartbeats 4000000 in
set_option maxRecDepth 100000 in
theorem c_X1_quotient (l : Launch) (D : va_G) (aI aJ aL : ClassId) (sz : Nat) (x : Int64) (y : Int64)  : rs_ML (S := Unit) l yX1_quotient (Cond.code yX1_quotient prog_3_method_23_code 4 (some .long) :: rsW) rm_X1_quotient D vwCl (rs_tys aI aJ aL) rs_nw [.long x, .long y] ([]) sz (rs_quo x y) (fun uu => []) := by
  refine rs_ent (cc := cX1_quotient) (maxL := 4) (ret := some .long) (Qc := rs_QL D vwCl _ _ _) (by decide) rfl (Nat.le_of_ble_eq_true rfl) ?_
  intro p e s m args below meth c ls A Q hx hb hr hml hlk hts hown hin hK hN hP hD hS hA hQ hl
  have hl : lv_has ls 4 [(0, .long x), (2, .long y)] := hl
  refine lv_lload_n hx hb dX1_quotient_0 rfl (lv_at hl 1 rfl) ?_
  refine lv_lconst hx hb dX1_quotient_1 (v := 0) (by decide) ?_
  refine W.lcmp hx hb dX1_quotient_2 ?_
  refine lv_if_ne hx hb dX1_quotient_3 (tgt := 10) rfl (fun h_3 => ?_) (fun h_3 => ?_)
  · have h_3 : ¬ (y = 0) := fun z => h_3 ((lg_cmp_eq _ _).2 z)
    refine lv_lload_n hx hb dX1_quotient_10 rfl (lv_at hl 0 rfl) ?_
    refine lv_lload_n hx hb dX1_quotient_11 rfl (lv_at hl 1 rfl) ?_
    refine lv_ldiv hx hb dX1_quotient_12 (by assumption) ?_
    exact rs_lret () hx hb hr hlk hQ hK hP hD hS (by first | exact (if_pos h_3).symm | exact (if_neg h_3).symm) rfl dX1_quotient_13
  · have h_3 : y = 0 := (lg_cmp_eq _ _).1 h_3
    refine lv_lconst hx hb dX1_quotient_6 (v := 0) (by decide) ?_
    refine lv_goto hx hb dX1_quotient_7 (tgt := 13) rfl ?_
    exact rs_lret () hx hb hr hlk hQ hK hP hD hS (by first | exact (if_pos h_3).symm | exact (if_neg h_3).symm) rfl dX1_quotient_13

def rm_X1_weightsArePositive : Room := { frames := 1, cells := 0, slots := 0, locals := 64 }
set_option maxHeartbeats 4000000 in
set_option maxRecDepth 100000 in
theorem c_X1_weightsArePositive (l : Launch) (D : va_G) (aI aJ aL : ClassId) (sz : Nat) (q : Nat → Nat) (d : Nat) (n : Nat) (kn : Nat → Nat) (rz : Nat → Nat → Int64) (ac : Int32) (up : Int32) (ar : Nat → Nat) (wk : Nat → Int64) (hd : d ≤ 3) (hn : n ≤ 19) : rs_MI (S := Unit) l yX1_weightsArePositive (Cond.code yX1_weightsArePositive prog_3_method_7_code 2 (some .boolean) :: rsW) rm_X1_weightsArePositive D vwCl (rs_tys aI aJ aL) rs_nw [.ref (q 0)] (wC aI aJ aL q d n kn rz ac up ar wk) sz (rs_b (decide (∀ k, k < n → 0 < rz 2 k))) (fun uu => wC aI aJ aL q d n kn rz ac up ar wk) := by
  refine rs_ent (cc := cX1_weightsArePositive) (maxL := 2) (ret := some .boolean) (Qc := rs_QI D vwCl _ _ _) (by decide) rfl (Nat.le_of_ble_eq_true rfl) ?_
  intro p e s m args below meth c ls A Q hx hb hr hml hlk hts hown hin hK hN hP hD hS hA hQ hl
  have hl : lv_has ls 2 [(0, .ref (q 0))] := hl
  refine lv_iconst hx hb dX1_weightsArePositive_0 (v := nI 0) (by decide) ?_
  refine lv_istore_n hx hb dX1_weightsArePositive_1 rfl hl (lv' := [(1, .int (nI 0)), (0, .ref (q 0))]) (by decide) rfl (fun ls hl => ?_)
  have L_2 : ∀ (k_2 : Nat) (i : Nat) (H : Heap) (locs : List Loc) (ls : Array Slot), n - i < k_2 → (i ≤ n) → (∀ k, k < i → 0 < rz 2 k) → lv_has ls 2 [(0, .ref (q 0)), (1, .int (nI i))] → va_P D vwCl (wC aI aJ aL q d n kn rz ac up ar wk) H → va_D A (wC aI aJ aL q d n kn rz ac up ar wk) → va_S A s.heap H locs → W p l e rm_X1_weightsArePositive s m args below meth c H locs 0 0 Q (F0 m 2 ls []) := by
    intro k_2
    induction k_2 with
    | zero => intro i H locs ls hk_2; exact absurd hk_2 (Nat.not_lt_zero _)
    | succ k_2 ih_2 =>
      intro i H locs ls hk_2 hi hall hl hP hD hS
      refine lv_iload_n hx hb dX1_weightsArePositive_2 rfl (lv_at hl 1 rfl) ?_
      refine lv_aload_n hx hb dX1_weightsArePositive_3 rfl (lv_at hl 0 rfl) ?_
      refine va_get hx hb hts inX1 hown hK hP 0 (ci := 1) (C := RX1) (T := TX1) (N := 8) rfl rfl 1 (by decide) (hts _ rw_84) (fun _ h => h) (v := .int (nI n)) rfl dX1_weightsArePositive_4 ?_
      refine lv_icmp_ge hx hb dX1_weightsArePositive_7 (tgt := 31) rfl (fun h_7 => ?_) (fun h_7 => ?_)
      · have h_7 : n ≤ i := (nI_leI (by omega) (by omega)).1 h_7
        refine lv_iconst hx hb dX1_weightsArePositive_31 (v := nI 1) (by decide) ?_
        exact rs_iret () hx hb hr hlk hQ hK hP hD hS (by decide) (rs_bT (fun k hk => hall k (by omega))) rfl dX1_weightsArePositive_32
      · have h_7 : i < n := Nat.lt_of_not_le (fun z => h_7 ((nI_leI (by omega) (by omega)).2 z))
        refine lv_aload_n hx hb dX1_weightsArePositive_10 rfl (lv_at hl 0 rfl) ?_
        refine va_get hx hb hts inX1 hown hK hP 0 (ci := 1) (C := RX1) (T := TX1) (N := 8) rfl rfl 3 (by decide) (hts _ rw_92) (fun _ h => h) (v := .ref (q 2)) rfl dX1_weightsArePositive_11 ?_
        refine lv_iconst hx hb dX1_weightsArePositive_14 (v := nI 2) (by decide) ?_
        refine rs_aald hx hb hK hP 2 2 rfl rfl (i := 2) (by decide) (by decide) (b := q (3 + 2)) rfl dX1_weightsArePositive_15 ?_
        refine lv_iload_n hx hb dX1_weightsArePositive_16 rfl (lv_at hl 1 rfl) ?_
        refine rs_lald hx hb hK hP (3 + 2) 1 (co_3 (P := fun z => (wC aI aJ aL q d n kn rz ac up ar wk)[3 + z]? = some (q (3 + z), .inl (aJ, 19, .inr (.inl (rz z))))) rfl rfl rfl (by decide)) rfl (i := i) (by omega) (by decide) (v := rz 2 i) rfl dX1_weightsArePositive_17 ?_
        refine lv_lconst hx hb dX1_weightsArePositive_18 (v := 0) (by decide) ?_
        refine W.lcmp hx hb dX1_weightsArePositive_19 ?_
        refine lv_if_gt hx hb dX1_weightsArePositive_20 (tgt := 25) rfl (fun h_20 => ?_) (fun h_20 => ?_)
        · have h_20 : 0 < (rz 2 i) := (lg_cmp_gt _ _).1 h_20
          refine lv_iinc hx hb dX1_weightsArePositive_25 hl (k := 1) rfl (v := nI (i + 1)) (rs_inc _ _) (by decide) (lv' := [(1, .int (nI (i + 1))), (0, .ref (q 0))]) rfl (fun ls hl => ?_)
          refine lv_goto hx hb dX1_weightsArePositive_28 (tgt := 2) rfl ?_
          exact ih_2 (i + 1) _ _ _ (by omega) (by omega) (lt_s hall h_20) (lv_sub hl [1, 0] rfl) hP hD hS
        · have h_20 : ¬ (0 < (rz 2 i)) := fun z => h_20 ((lg_cmp_gt _ _).2 z)
          refine lv_iconst hx hb dX1_weightsArePositive_23 (v := nI 0) (by decide) ?_
          exact rs_iret () hx hb hr hlk hQ hK hP hD hS (by decide) (rs_bF (fun z => h_20 (z i (by omega)))) rfl dX1_weightsArePositive_24
  exact L_2 ((n - 0) + 1) 0 _ _ _ (Nat.lt_succ_self _) (Nat.zero_le _) lt_0 (lv_sub hl [1, 0] rfl) hP hD hS

def rm_X1_shareOfSame : Room := { frames := 1, cells := 0, slots := 0, locals := 64 }
set_option maxHeartbeats 4000000 in
set_option maxRecDepth 100000 in
theorem c_X1_shareOfSame (l : Launch) (D : va_G) (aI aJ aL : ClassId) (sz : Nat) (q : Nat → Nat) (d : Nat) (n : Nat) (kn : Nat → Nat) (rz : Nat → Nat → Int64) (ac : Int32) (up : Int32) (ar : Nat → Nat) (wk : Nat → Int64) (i : Nat) (k : Nat) (hd : d ≤ 3) (hn : n ≤ 19) (hk : ∀ i, kn i ≤ 6) (hi : i < 23) (hk6 : k ≤ 6) : rs_MI (S := Unit) l yX1_shareOfSame (Cond.code yX1_shareOfSame prog_3_method_8_code 3 (some .int) :: rsW) rm_X1_shareOfSame D vwCl (rs_tys aI aJ aL) rs_nw [.ref (q 0), .int (nI i), .int (nI k)] (wC aI aJ aL q d n kn rz ac up ar wk) sz (nI (k - kn i)) (fun uu => wC aI aJ aL q d n kn rz ac up ar wk) := by
  refine rs_ent (cc := cX1_shareOfSame) (maxL := 3) (ret := some .int) (Qc := rs_QI D vwCl _ _ _) (by decide) rfl (Nat.le_of_ble_eq_true rfl) ?_
  intro p e s m args below meth c ls A Q hx hb hr hml hlk hts hown hin hK hN hP hD hS hA hQ hl
  have hl : lv_has ls 3 [(0, .ref (q 0)), (1, .int (nI i)), (2, .int (nI k))] := hl
  refine lv_iconst hx hb dX1_shareOfSame_0 (v := nI 0) (by decide) ?_
  refine lv_iload_n hx hb dX1_shareOfSame_1 rfl (lv_at hl 2 rfl) ?_
  refine lv_aload_n hx hb dX1_shareOfSame_2 rfl (lv_at hl 0 rfl) ?_
  refine va_get hx hb hts inX1 hown hK hP 0 (ci := 1) (C := RX1) (T := TX1) (N := 8) rfl rfl 2 (by decide) (hts _ rw_88) (fun _ h => h) (v := .ref (q 1)) rfl dX1_shareOfSame_3 ?_
  refine lv_iload_n hx hb dX1_shareOfSame_6 rfl (lv_at hl 1 rfl) ?_
  refine rs_iald hx hb hK hP 1 0 rfl rfl (i := i) (by omega) (by decide) (v := nI (kn i)) rfl dX1_shareOfSame_7 ?_
  refine rs_isub hx hb dX1_shareOfSame_8 (v := (nI k - nI (kn i))) rfl ?_
  have hk1 := hk i
  refine rs_mmax hx hb (by rw [hml]; exact hl.1.symm) hown (hts (Cond.methodLink RX1 34 Lib.Math.max.name) rw_220) (hts (Cond.static Lib.Math.max.name) rw_221) (hts _ rw_7) (hts (Cond.code Lib.Math.max.name Lib.Math.max.code 2 (some .int)) rw_222) (Nat.le_of_ble_eq_true rfl) (Nat.le_of_ble_eq_true rfl) (Nat.le_refl _) (Nat.le_refl _) dX1_shareOfSame_9 (v := nI (k - (kn i))) (rs_max0 (by omega) (by omega)) ?_
  exact rs_iret () hx hb hr hlk hQ hK hP hD hS rfl rfl rfl dX1_shareOfSame_12

def rm_X1_shareOfPrevious : Room := { frames := 1, cells := 0, slots := 0, locals := 64 }
set_option maxHeartbeats 4000000 in
set_option maxRecDepth 100000 in
theorem c_X1_shareOfPrevious (l : Launch) (D : va_G) (aI aJ aL : ClassId) (sz : Nat) (q : Nat → Nat) (d : Nat) (n : Nat) (kn : Nat → Nat) (rz : Nat → Nat → Int64) (ac : Int32) (up : Int32) (ar : Nat → Nat) (wk : Nat → Int64) (i : Nat) (k : Nat) (hd : d ≤ 3) (hn : n ≤ 19) (hk : ∀ i, kn i ≤ 6) (hi : i ≤ 19) (hk6 : k ≤ 6) : rs_MI (S := Unit) l yX1_shareOfPrevious (Cond.code yX1_shareOfPrevious prog_3_method_9_code 3 (some .int) :: rsW) rm_X1_shareOfPrevious D vwCl (rs_tys aI aJ aL) rs_nw [.ref (q 0), .int (nI i), .int (nI k)] (wC aI aJ aL q d n kn rz ac up ar wk) sz (nI (kn (i + d) - k)) (fun uu => wC aI aJ aL q d n kn rz ac up ar wk) := by
  refine rs_ent (cc := cX1_shareOfPrevious) (maxL := 3) (ret := some .int) (Qc := rs_QI D vwCl _ _ _) (by decide) rfl (Nat.le_of_ble_eq_true rfl) ?_
  intro p e s m args below meth c ls A Q hx hb hr hml hlk hts hown hin hK hN hP hD hS hA hQ hl
  have hl : lv_has ls 3 [(0, .ref (q 0)), (1, .int (nI i)), (2, .int (nI k))] := hl
  refine lv_iconst hx hb dX1_shareOfPrevious_0 (v := nI 0) (by decide) ?_
  refine lv_aload_n hx hb dX1_shareOfPrevious_1 rfl (lv_at hl 0 rfl) ?_
  refine va_get hx hb hts inX1 hown hK hP 0 (ci := 1) (C := RX1) (T := TX1) (N := 8) rfl rfl 2 (by decide) (hts _ rw_88) (fun _ h => h) (v := .ref (q 1)) rfl dX1_shareOfPrevious_2 ?_
  refine lv_iload_n hx hb dX1_shareOfPrevious_5 rfl (lv_at hl 1 rfl) ?_
  refine lv_aload_n hx hb dX1_shareOfPrevious_6 rfl (lv_at hl 0 rfl) ?_
  refine va_get hx hb hts inX1 hown hK hP 0 (ci := 1) (C := RX1) (T := TX1) (N := 8) rfl rfl 0 (by decide) (hts _ rw_80) (fun _ h => h) (v := .int (nI d)) rfl dX1_shareOfPrevious_7 ?_
  refine rs_iadd hx hb dX1_shareOfPrevious_10 (v := nI (i + d)) (nI_add _ _) ?_
  refine rs_iald hx hb hK hP 1 0 rfl rfl (i := (i + d)) (by omega) (by decide) (v := nI (kn (i + d))) rfl dX1_shareOfPrevious_11 ?_
  refine lv_iload_n hx hb dX1_shareOfPrevious_12 rfl (lv_at hl 2 rfl) ?_
  refine rs_isub hx hb dX1_shareOfPrevious_13 (v := (nI (kn (i + d)) - nI k)) rfl ?_
  have hk1 := hk (i + d)
  refine rs_mmax hx hb (by rw [hml]; exact hl.1.symm) hown (hts (Cond.methodLink RX1 34 Lib.Math.max.name) rw_220) (hts (Cond.static Lib.Math.max.name) rw_221) (hts _ rw_7) (hts (Cond.code Lib.Math.max.name Lib.Math.max.code 2 (some .int)) rw_222) (Nat.le_of_ble_eq_true rfl) (Nat.le_of_ble_eq_true rfl) (Nat.le_refl _) (Nat.le_refl _) dX1_shareOfPrevious_14 (v := nI ((kn (i + d)) - k)) (rs_max0 (by omega) (by omega)) ?_
  exact rs_iret () hx hb hr hlk hQ hK hP hD hS rfl rfl rfl dX1_shareOfPrevious_17

def rm_X1_blended : Room := { frames := 2, cells := 0, slots := 0, locals := 150 }
set_option maxHeartbeats 4000000 in
set_option maxRecDepth 100000 in
theorem c_X1_blended (l : Launch) (D : va_G) (aI aJ aL : ClassId) (sz : Nat) (q : Nat → Nat) (d : Nat) (n : Nat) (kn : Nat → Nat) (rz : Nat → Nat → Int64) (ac : Int32) (up : Int32) (ar : Nat → Nat) (wk : Nat → Int64) (ax : Nat) (i : Nat) (k : Nat) (hd : d ≤ 3) (hn : n ≤ 19) (hk : ∀ i, kn i ≤ 6) (hax : ax < 3) (hi : i ≤ 19) (hk6 : k ≤ 6) : rs_ML (S := Unit) l yX1_blended (Cond.code yX1_blended prog_3_method_10_code 4 (some .long) :: rsW) rm_X1_blended D vwCl (rs_tys aI aJ aL) rs_nw [.ref (q 0), .int (nI ax), .int (nI i), .int (nI k)] (wC aI aJ aL q d n kn rz ac up ar wk) sz (rs_ble kn d n rz ax i k) (fun uu => wC aI aJ aL q d n kn rz ac up ar wk) := by
  refine rs_ent (cc := cX1_blended) (maxL := 4) (ret := some .long) (Qc := rs_QL D vwCl _ _ _) (by decide) rfl (Nat.le_of_ble_eq_true rfl) ?_
  intro p e s m args below meth c ls A Q hx hb hr hml hlk hts hown hin hK hN hP hD hS hA hQ hl
  have hl : lv_has ls 4 [(0, .ref (q 0)), (1, .int (nI ax)), (2, .int (nI i)), (3, .int (nI k))] := hl
  refine lv_aload_n hx hb dX1_blended_0 rfl (lv_at hl 0 rfl) ?_
  refine lv_iload_n hx hb dX1_blended_1 rfl (lv_at hl 2 rfl) ?_
  refine lv_iload_n hx hb dX1_blended_2 rfl (lv_at hl 3 rfl) ?_
  refine rs_cVI (rest := []) (wr := []) (ws' := fun u_3 => wC aI aJ aL q d n kn rz ac up ar wk) ⟨hx, hb, hml, hown, hts⟩ (c_X1_shareOfSame l D aI aJ aL _ q d n kn rz ac up ar wk i k hd hn hk (by omega) hk6) (cwV 2 hts (rs_gV rw_216 rw_218 rv_1 rw_4 rw_219) rfl rfl rfl (by decide +kernel) ⟨Nat.le_of_ble_eq_true rfl, Nat.le_of_ble_eq_true rfl⟩) hK hN hP hD hS hA [0, 1, 2, 3, 4, 5, 6, 7] [] [0, 1, 2, 3, 4, 5, 6, 7] (by decide) rfl rfl (fun _ => rfl) 0 rfl rfl hl.1 rfl rfl (Nat.le_of_ble_eq_true rfl) dX1_blended_3 ⟨Nat.le_refl _, Nat.le_refl _⟩ (fun u_3 H locs hP hD hS => ?_)
  have hP : va_P D vwCl (wC aI aJ aL q d n kn rz ac up ar wk) H := hP
  have hD : va_D A (wC aI aJ aL q d n kn rz ac up ar wk) := hD
  have hk2 := hk i
  refine lv_i2l hx hb dX1_blended_6 (v := (lN (k - kn i))) (nI_l (by omega)) ?_
  refine lv_aload_n hx hb dX1_blended_7 rfl (lv_at hl 0 rfl) ?_
  refine lv_iload_n hx hb dX1_blended_8 rfl (lv_at hl 1 rfl) ?_
  refine lv_iload_n hx hb dX1_blended_9 rfl (lv_at hl 2 rfl) ?_
  refine rs_cVL (rest := [.long (lN (k - kn i))]) (wr := []) (ws' := fun u_10 => wC aI aJ aL q d n kn rz ac up ar wk) ⟨hx, hb, hml, hown, hts⟩ (c_X1_number l D aI aJ aL _ q d n kn rz ac up ar wk ax (nI i) (by omega) (by omega) (by omega)) (cwV 2 hts (rs_gV rw_231 rw_232 rw_233 rw_4 rw_234) rfl rfl rfl (by decide +kernel) ⟨Nat.le_of_ble_eq_true rfl, Nat.le_of_ble_eq_true rfl⟩) hK hN hP hD hS hA [0, 1, 2, 3, 4, 5, 6, 7] [] [0, 1, 2, 3, 4, 5, 6, 7] (by decide) rfl rfl (fun _ => rfl) 0 rfl rfl hl.1 rfl rfl (Nat.le_of_ble_eq_true rfl) dX1_blended_10 ⟨Nat.le_refl _, Nat.le_refl _⟩ (fun u_10 H locs hP hD hS => ?_)
  have hP : va_P D vwCl (wC aI aJ aL q d n kn rz ac up ar wk) H := hP
  have hD : va_D A (wC aI aJ aL q d n kn rz ac up ar wk) := hD
  refine lv_lmul hx hb dX1_blended_13 ?_
  refine lv_aload_n hx hb dX1_blended_14 rfl (lv_at hl 0 rfl) ?_
  refine lv_iload_n hx hb dX1_blended_15 rfl (lv_at hl 2 rfl) ?_
  refine lv_iload_n hx hb dX1_blended_16 rfl (lv_at hl 3 rfl) ?_
  refine rs_cVI (rest := [.long ((lN (k - kn i)) * (rs_num rz n ax (nI i)))]) (wr := []) (ws' := fun u_17 => wC aI aJ aL q d n kn rz ac up ar wk) ⟨hx, hb, hml, hown, hts⟩ (c_X1_shareOfPrevious l D aI aJ aL _ q d n kn rz ac up ar wk i k hd hn hk (by omega) hk6) (cwV 2 hts (rs_gV rw_223 rw_225 rv_2 rw_4 rw_226) rfl rfl rfl (by decide +kernel) ⟨Nat.le_of_ble_eq_true rfl, Nat.le_of_ble_eq_true rfl⟩) hK hN hP hD hS hA [0, 1, 2, 3, 4, 5, 6, 7] [] [0, 1, 2, 3, 4, 5, 6, 7] (by decide) rfl rfl (fun _ => rfl) 0 rfl rfl hl.1 rfl rfl (Nat.le_of_ble_eq_true rfl) dX1_blended_17 ⟨Nat.le_refl _, Nat.le_refl _⟩ (fun u_17 H locs hP hD hS => ?_)
  have hP : va_P D vwCl (wC aI aJ aL q d n kn rz ac up ar wk) H := hP
  have hD : va_D A (wC aI aJ aL q d n kn rz ac up ar wk) := hD
  have hk3 := hk (i + d)
  refine lv_i2l hx hb dX1_blended_20 (v := (lN (kn (i + d) - k))) (nI_l (by omega)) ?_
  refine lv_aload_n hx hb dX1_blended_21 rfl (lv_at hl 0 rfl) ?_
  refine lv_iload_n hx hb dX1_blended_22 rfl (lv_at hl 1 rfl) ?_
  refine lv_iload_n hx hb dX1_blended_23 rfl (lv_at hl 2 rfl) ?_
  refine lv_iconst hx hb dX1_blended_24 (v := nI 1) (by decide) ?_
  refine rs_isub hx hb dX1_blended_25 (v := (nI i - nI 1)) rfl ?_
  refine rs_cVL (rest := [.long (lN (kn (i + d) - k)), .long ((lN (k - kn i)) * (rs_num rz n ax (nI i)))]) (wr := []) (ws' := fun u_26 => wC aI aJ aL q d n kn rz ac up ar wk) ⟨hx, hb, hml, hown, hts⟩ (c_X1_number l D aI aJ aL _ q d n kn rz ac up ar wk ax (nI i - nI 1) (by omega) (by omega) (by omega)) (cwV 2 hts (rs_gV rw_231 rw_232 rw_233 rw_4 rw_234) rfl rfl rfl (by decide +kernel) ⟨Nat.le_of_ble_eq_true rfl, Nat.le_of_ble_eq_true rfl⟩) hK hN hP hD hS hA [0, 1, 2, 3, 4, 5, 6, 7] [] [0, 1, 2, 3, 4, 5, 6, 7] (by decide) rfl rfl (fun _ => rfl) 0 rfl rfl hl.1 rfl rfl (Nat.le_of_ble_eq_true rfl) dX1_blended_26 ⟨Nat.le_refl _, Nat.le_refl _⟩ (fun u_26 H locs hP hD hS => ?_)
  have hP : va_P D vwCl (wC aI aJ aL q d n kn rz ac up ar wk) H := hP
  have hD : va_D A (wC aI aJ aL q d n kn rz ac up ar wk) := hD
  refine lv_lmul hx hb dX1_blended_29 ?_
  refine lv_ladd hx hb dX1_blended_30 ?_
  exact rs_lret () hx hb hr hlk hQ hK hP hD hS rfl rfl dX1_blended_31

def rm_X1_factor : Room := { frames := 1, cells := 0, slots := 0, locals := 64 }
set_option maxHeartbeats 4000000 in
set_option maxRecDepth 100000 in
theorem c_X1_factor (l : Launch) (D : va_G) (aI aJ aL : ClassId) (sz : Nat) (x : Int32) (y : Int32)  : rs_ML (S := Unit) l yX1_factor (Cond.code yX1_factor prog_3_method_19_code 2 (some .long) :: rsW) rm_X1_factor D vwCl (rs_tys aI aJ aL) rs_nw [.int x, .int y] ([]) sz (rs_fac x y) (fun uu => []) := by
  refine rs_ent (cc := cX1_factor) (maxL := 2) (ret := some .long) (Qc := rs_QL D vwCl _ _ _) (by decide) rfl (Nat.le_of_ble_eq_true rfl) ?_
  intro p e s m args below meth c ls A Q hx hb hr hml hlk hts hown hin hK hN hP hD hS hA hQ hl
  have hl : lv_has ls 2 [(0, .int x), (1, .int y)] := hl
  refine lv_iload_n hx hb dX1_factor_0 rfl (lv_at hl 1 rfl) ?_
  refine lv_if_ne hx hb dX1_factor_1 (tgt := 8) rfl (fun h_1 => ?_) (fun h_1 => ?_)
  · skip
    refine lv_iload_n hx hb dX1_factor_8 rfl (lv_at hl 0 rfl) ?_
    refine lv_i2l hx hb dX1_factor_9 (v := (x).toInt64) rfl ?_
    refine lv_bipush hx hb dX1_factor_10 (v := nI 60) (by decide) ?_
    refine lv_iload_n hx hb dX1_factor_12 rfl (lv_at hl 1 rfl) ?_
    refine rs_idiv hx hb dX1_factor_13 h_1 (v := (nI 60 / y)) rfl ?_
    refine lv_i2l hx hb dX1_factor_14 (v := ((nI 60 / y)).toInt64) rfl ?_
    refine lv_lmul hx hb dX1_factor_15 ?_
    exact rs_lret () hx hb hr hlk hQ hK hP hD hS (by first | exact (if_pos h_1).symm | exact (if_neg h_1).symm) rfl dX1_factor_16
  · skip
    refine lv_lconst hx hb dX1_factor_4 (v := 0) (by decide) ?_
    refine lv_goto hx hb dX1_factor_5 (tgt := 16) rfl ?_
    exact rs_lret () hx hb hr hlk hQ hK hP hD hS (by first | exact (if_pos h_1).symm | exact (if_neg h_1).symm) rfl dX1_factor_16
