def rm_X4_makePiece : Room := { frames := 2, cells := 0, slots := 0, locals := 170 }
set_option maxHeartbeats 4000000 in
set_option maxRecDepth 100000 in
theorem c_X4_makePiece (l : Launch) (D : va_G) (aI aJ aL : ClassId) (sz : Nat) (q : Nat → Nat) (dd : Nat) (dp : Nat) (dk : Nat) (dx : Nat → Int32) (dy : Nat → Int32) (dw : Nat → Int32) (dn : Nat → Nat) (g : Nat) (tm : Nat → Nat) (pz : Nat → Int64) (tk : Nat → Nat) (nn : Nat) (vn : Nat) (vt : Nat → Nat) (po : Nat → Int64) (vl : Nat → Int64) (ea : Nat → Nat) (la : Nat → Nat) (j : Nat) (hg1 : 1 ≤ g) (hg : g ≤ 3) (hnn : nn ≤ 19) (hgn : g + 1 ≤ nn) (htk : ∀ i, tk i ≤ 6) (hj : j ≤ 5) : rs_MV (S := {x : (Nat → Int64) × (Nat → Int64) // rs_Z (rs_pv tk g nn dx dy dw j) j pz x.2 3 0}) l yX4_makePiece (Cond.code yX4_makePiece prog_6_method_9_code 10 none :: rsW) rm_X4_makePiece D vwCl (rs_tys aI aJ aL) rs_nw [.ref (q 0), .int (nI j)] (wM aI aJ aL q dd dp dk dx dy dw dn g tm pz tk nn vn vt po vl ea la) sz (fun uu => wM aI aJ aL q dd dp dk dx dy dw dn g tm uu.1.2 tk nn vn vt uu.1.1 vl ea la) := by
  refine rs_ent (cc := cX4_makePiece) (maxL := 10) (ret := none) (Qc := rs_QV D vwCl _ _) (by decide) rfl (Nat.le_of_ble_eq_true rfl) ?_
  intro p e s m args below meth c ls A Q hx hb hr hml hlk hts hown hin hK hN hP hD hS hA hQ hl
  have hl : lv_has ls 10 [(0, .ref (q 0)), (1, .int (nI j))] := hl
  refine lv_aload_n hx hb dX4_makePiece_0 rfl (lv_at hl 0 rfl) ?_
  refine lv_bipush hx hb dX4_makePiece_1 (v := nI 60) (by decide) ?_
  refine lv_iload_n hx hb dX4_makePiece_3 rfl (lv_at hl 1 rfl) ?_
  refine rs_imul hx hb dX4_makePiece_4 (v := nI (60 * j)) (pk_mul _ _) ?_
  refine rs_cVI (rest := []) (wr := []) (ws' := fun u_5 => wM aI aJ aL q dd dp dk dx dy dw dn g tm pz tk nn vn vt po vl ea la) ⟨hx, hb, hml, hown, hts⟩ (c_X4_spanOf l D aI aJ aL _ q dd dp dk dx dy dw dn g tm pz tk nn vn vt po vl ea la (60 * j) hg hnn htk (by omega)) (cwV 1 hts (rs_gV rw_470 rw_472 rv_15 rw_5 rw_473) rfl rfl rfl (by decide +kernel) ⟨Nat.le_of_ble_eq_true rfl, Nat.le_of_ble_eq_true rfl⟩) hK hN hP hD hS hA [0, 1, 2, 3, 4, 5, 6, 7, 8, 9, 10, 11, 12] [] [0, 1, 2, 3, 4, 5, 6, 7, 8, 9, 10, 11, 12] (by decide) rfl rfl (fun _ => rfl) 0 rfl rfl hl.1 rfl rfl (Nat.le_of_ble_eq_true rfl) dX4_makePiece_5 ⟨Nat.le_refl _, Nat.le_refl _⟩ (fun u_5 H locs hP hD hS => ?_)
  have hP : va_P D vwCl (wM aI aJ aL q dd dp dk dx dy dw dn g tm pz tk nn vn vt po vl ea la) H := hP
  have hD : va_D A (wM aI aJ aL q dd dp dk dx dy dw dn g tm pz tk nn vn vt po vl ea la) := hD
  have hr1 := rs_ms_le tk g (60 * j) (nn - g)
  have hr2 := rs_ms_lt tk g (60 * j) (j := nn - g) (by omega)
  refine lv_istore_n hx hb dX4_makePiece_8 rfl hl (lv' := [(2, .int (nI (rs_ms tk g (60 * j) (nn - g)))), (0, .ref (q 0)), (1, .int (nI j))]) (by decide) rfl (fun ls hl => ?_)
  refine lv_iconst hx hb dX4_makePiece_9 (v := nI 0) (by decide) ?_
  refine lv_istore_n hx hb dX4_makePiece_10 rfl hl (lv' := [(3, .int (nI 0)), (2, .int (nI (rs_ms tk g (60 * j) (nn - g)))), (0, .ref (q 0)), (1, .int (nI j))]) (by decide) rfl (fun ls hl => ?_)
  have L_11 : ∀ (k_11 : Nat) (k : Nat) (px : Nat → Int64) (H : Heap) (locs : List Loc) (ls : Array Slot), 80 - k < k_11 → (k ≤ 80) → (∀ x, x < k → px x = 0) → lv_has ls 10 [(0, .ref (q 0)), (1, .int (nI j)), (2, .int (nI (rs_ms tk g (60 * j) (nn - g)))), (3, .int (nI k))] → va_P D vwCl (wM aI aJ aL q dd dp dk dx dy dw dn g tm pz tk nn vn vt px vl ea la) H → va_D A (wM aI aJ aL q dd dp dk dx dy dw dn g tm pz tk nn vn vt px vl ea la) → va_S A s.heap H locs → W p l e rm_X4_makePiece s m args below meth c H locs 0 0 Q (F0 m 11 ls []) := by
    intro k_11
    induction k_11 with
    | zero => intro k px H locs ls hk_11; exact absurd hk_11 (Nat.not_lt_zero _)
    | succ k_11 ih_11 =>
      intro k px H locs ls hk_11 hk h0 hl hP hD hS
      refine lv_iload_n hx hb dX4_makePiece_11 rfl (lv_at hl 3 rfl) ?_
      refine lv_bipush hx hb dX4_makePiece_12 (v := nI 80) (by decide) ?_
      refine lv_icmp_ge hx hb dX4_makePiece_14 (tgt := 30) rfl (fun h_14 => ?_) (fun h_14 => ?_)
      · have h_14 : 80 ≤ k := (nI_leI (by omega) (by omega)).1 h_14
        refine lv_aload_n hx hb dX4_makePiece_30 rfl (lv_at hl 0 rfl) ?_
        refine va_get hx hb hts inX4 hown hK hP 0 (ci := 4) (C := RX4) (T := TX4) (N := 18) rfl rfl 14 (by decide) (hts _ rw_405) (fun _ h => h) (v := .ref (q 9)) rfl dX4_makePiece_31 ?_
        refine lv_iconst hx hb dX4_makePiece_34 (v := nI 4) (by decide) ?_
        refine lv_iload_n hx hb dX4_makePiece_35 rfl (lv_at hl 2 rfl) ?_
        refine rs_imul hx hb dX4_makePiece_36 (v := nI (4 * (rs_ms tk g (60 * j) (nn - g)))) (pk_mul _ _) ?_
        refine lv_lconst hx hb dX4_makePiece_37 (v := 1) (by decide) ?_
        refine rs_last hx hb hK hP hD hS 9 1 rfl rfl (i := (4 * (rs_ms tk g (60 * j) (nn - g)))) (by omega) (by decide) dX4_makePiece_38 (ws' := wM aI aJ aL q dd dp dk dx dy dw dn g tm pz tk nn vn vt (vp_updL px (4 * (rs_ms tk g (60 * j) (nn - g))) 1) vl ea la) rfl (fun H locs hP hD hS => ?_)
        refine lv_iconst hx hb dX4_makePiece_39 (v := nI 1) (by decide) ?_
        refine lv_istore_n hx hb dX4_makePiece_40 rfl hl (lv' := [(3, .int (nI 1)), (0, .ref (q 0)), (1, .int (nI j)), (2, .int (nI (rs_ms tk g (60 * j) (nn - g))))]) (by decide) rfl (fun ls hl => ?_)
        have L_41 : ∀ (k_41 : Nat) (v : Nat) (px : Nat → Int64) (H : Heap) (locs : List Loc) (ls : Array Slot), g - v < k_41 → (v ≤ g) → (∀ x, x < 80 → px x = rs_pl tk j (rs_ms tk g (60 * j) (nn - g)) v x) → lv_has ls 10 [(0, .ref (q 0)), (1, .int (nI j)), (2, .int (nI (rs_ms tk g (60 * j) (nn - g)))), (3, .int (nI (v + 1)))] → va_P D vwCl (wM aI aJ aL q dd dp dk dx dy dw dn g tm pz tk nn vn vt px vl ea la) H → va_D A (wM aI aJ aL q dd dp dk dx dy dw dn g tm pz tk nn vn vt px vl ea la) → va_S A s.heap H locs → W p l e rm_X4_makePiece s m args below meth c H locs 0 0 Q (F0 m 41 ls []) := by
          intro k_41
          induction k_41 with
          | zero => intro v px H locs ls hk_41; exact absurd hk_41 (Nat.not_lt_zero _)
          | succ k_41 ih_41 =>
            intro v px H locs ls hk_41 hv hp hl hP hD hS
            refine lv_iload_n hx hb dX4_makePiece_41 rfl (lv_at hl 3 rfl) ?_
            refine lv_aload_n hx hb dX4_makePiece_42 rfl (lv_at hl 0 rfl) ?_
            refine va_get hx hb hts inX4 hown hK hP 0 (ci := 4) (C := RX4) (T := TX4) (N := 18) rfl rfl 7 (by decide) (hts _ rw_398) (fun _ h => h) (v := .int (nI g)) rfl dX4_makePiece_43 ?_
            refine lv_icmp_gt hx hb dX4_makePiece_46 (tgt := 80) rfl (fun h_46 => ?_) (fun h_46 => ?_)
            · have h_46 : g < (v + 1) := (nI_ltI (by omega) (by omega)).1 h_46
              have hpl : ∀ x, x < 80 → px x = rs_pl tk j (rs_ms tk g (60 * j) (nn - g)) g x := by rw [show v = g by omega] at hp; exact hp
              refine lv_aload_n hx hb dX4_makePiece_80 rfl (lv_at hl 0 rfl) ?_
              refine va_get hx hb hts inX4 hown hK hP 0 (ci := 4) (C := RX4) (T := TX4) (N := 18) rfl rfl 7 (by decide) (hts _ rw_398) (fun _ h => h) (v := .int (nI g)) rfl dX4_makePiece_81 ?_
              refine lv_iconst hx hb dX4_makePiece_84 (v := nI 1) (by decide) ?_
              have L_109 : ∀ (sc : Int64) (H : Heap) (locs : List Loc) (ls : Array Slot), (sc = rs_sc g) → lv_has ls 10 [(0, .ref (q 0)), (1, .int (nI j)), (2, .int (nI (rs_ms tk g (60 * j) (nn - g))))] → va_P D vwCl (wM aI aJ aL q dd dp dk dx dy dw dn g tm pz tk nn vn vt px vl ea la) H → va_D A (wM aI aJ aL q dd dp dk dx dy dw dn g tm pz tk nn vn vt px vl ea la) → va_S A s.heap H locs → W p l e rm_X4_makePiece s m args below meth c H locs 0 0 Q (F0 m 109 ls [.long sc]) := by
                intro sc H locs ls hsc hl hP hD hS
                refine lv_lstore_n hx hb dX4_makePiece_109 rfl hl (lv' := [(3, .long sc), (0, .ref (q 0)), (1, .int (nI j)), (2, .int (nI (rs_ms tk g (60 * j) (nn - g))))]) (by decide) rfl (fun ls hl => ?_)
                refine lv_iconst hx hb dX4_makePiece_110 (v := nI 0) (by decide) ?_
                refine lv_istore hx hb dX4_makePiece_111 hl (lv' := [(5, .int (nI 0)), (3, .long sc), (0, .ref (q 0)), (1, .int (nI j)), (2, .int (nI (rs_ms tk g (60 * j) (nn - g))))]) (by decide) rfl (fun ls hl => ?_)
                have L_113 : ∀ (k_113 : Nat) (a : Nat) (py : Nat → Int64) (H : Heap) (locs : List Loc) (ls : Array Slot), 3 - a < k_113 → (a ≤ 3) → (rs_Z (rs_pv tk g nn dx dy dw j) j pz py a 0) → lv_has ls 10 [(0, .ref (q 0)), (1, .int (nI j)), (2, .int (nI (rs_ms tk g (60 * j) (nn - g)))), (3, .long sc), (5, .int (nI a))] → va_P D vwCl (wM aI aJ aL q dd dp dk dx dy dw dn g tm py tk nn vn vt px vl ea la) H → va_D A (wM aI aJ aL q dd dp dk dx dy dw dn g tm py tk nn vn vt px vl ea la) → va_S A s.heap H locs → W p l e rm_X4_makePiece s m args below meth c H locs 0 0 Q (F0 m 113 ls []) := by
                  intro k_113
                  induction k_113 with
                  | zero => intro a py H locs ls hk_113; exact absurd hk_113 (Nat.not_lt_zero _)
                  | succ k_113 ih_113 =>
                    intro a py H locs ls hk_113 ha hZ hl hP hD hS
                    refine lv_iload hx hb dX4_makePiece_113 (lv_at hl 4 rfl) ?_
                    refine lv_iconst hx hb dX4_makePiece_115 (v := nI 3) (by decide) ?_
                    refine lv_icmp_ge hx hb dX4_makePiece_116 (tgt := 210) rfl (fun h_116 => ?_) (fun h_116 => ?_)
                    · have h_116 : 3 ≤ a := (nI_leI (by omega) (by omega)).1 h_116
                      exact rs_vret ⟨(px, py), by have h9 : a = 3 := (by omega); subst h9; exact hZ⟩ hx hb hr hlk hQ hK hP hD hS rfl dX4_makePiece_210
                    · have h_116 : a < 3 := Nat.lt_of_not_le (fun z => h_116 ((nI_leI (by omega) (by omega)).2 z))
                      refine lv_iconst hx hb dX4_makePiece_119 (v := nI 0) (by decide) ?_
                      refine lv_istore hx hb dX4_makePiece_120 hl (lv' := [(6, .int (nI 0)), (0, .ref (q 0)), (1, .int (nI j)), (2, .int (nI (rs_ms tk g (60 * j) (nn - g)))), (3, .long sc), (5, .int (nI a))]) (by decide) rfl (fun ls hl => ?_)
                      have L_122 : ∀ (k_122 : Nat) (e9 : Nat) (py : Nat → Int64) (H : Heap) (locs : List Loc) (ls : Array Slot), 4 - e9 < k_122 → (e9 ≤ 4) → (rs_Z (rs_pv tk g nn dx dy dw j) j pz py a e9) → lv_has ls 10 [(0, .ref (q 0)), (1, .int (nI j)), (2, .int (nI (rs_ms tk g (60 * j) (nn - g)))), (3, .long sc), (5, .int (nI a)), (6, .int (nI e9))] → va_P D vwCl (wM aI aJ aL q dd dp dk dx dy dw dn g tm py tk nn vn vt px vl ea la) H → va_D A (wM aI aJ aL q dd dp dk dx dy dw dn g tm py tk nn vn vt px vl ea la) → va_S A s.heap H locs → W p l e rm_X4_makePiece s m args below meth c H locs 0 0 Q (F0 m 122 ls []) := by
                        intro k_122
                        induction k_122 with
                        | zero => intro e9 py H locs ls hk_122; exact absurd hk_122 (Nat.not_lt_zero _)
                        | succ k_122 ih_122 =>
                          intro e9 py H locs ls hk_122 he hZ hl hP hD hS
                          refine lv_iload hx hb dX4_makePiece_122 (lv_at hl 5 rfl) ?_
                          refine lv_iconst hx hb dX4_makePiece_124 (v := nI 4) (by decide) ?_
                          refine lv_icmp_ge hx hb dX4_makePiece_125 (tgt := 204) rfl (fun h_125 => ?_) (fun h_125 => ?_)
                          · have h_125 : 4 ≤ e9 := (nI_leI (by omega) (by omega)).1 h_125
                            refine lv_iinc hx hb dX4_makePiece_204 hl (k := 4) rfl (v := nI (a + 1)) (rs_inc _ _) (by decide) (lv' := [(5, .int (nI (a + 1))), (0, .ref (q 0)), (1, .int (nI j)), (2, .int (nI (rs_ms tk g (60 * j) (nn - g)))), (3, .long sc), (6, .int (nI e9))]) rfl (fun ls hl => ?_)
                            refine lv_goto hx hb dX4_makePiece_207 (tgt := 113) rfl ?_
                            exact ih_113 (a + 1) _ _ _ _ (by omega) (by omega) (by have h9 : e9 = 4 := (by omega); subst h9; exact hZ.next) (lv_sub hl [1, 2, 3, 4, 0] rfl) hP hD hS
                          · have h_125 : e9 < 4 := Nat.lt_of_not_le (fun z => h_125 ((nI_leI (by omega) (by omega)).2 z))
                            refine lv_lconst hx hb dX4_makePiece_128 (v := 0) (by decide) ?_
                            refine lv_lstore hx hb dX4_makePiece_129 hl (lv' := [(7, .long 0), (0, .ref (q 0)), (1, .int (nI j)), (2, .int (nI (rs_ms tk g (60 * j) (nn - g)))), (3, .long sc), (5, .int (nI a)), (6, .int (nI e9))]) (by decide) rfl (fun ls hl => ?_)
                            refine lv_iload_n hx hb dX4_makePiece_131 rfl (lv_at hl 3 rfl) ?_
                            refine lv_aload_n hx hb dX4_makePiece_132 rfl (lv_at hl 1 rfl) ?_
                            refine va_get hx hb hts inX4 hown hK hP 0 (ci := 4) (C := RX4) (T := TX4) (N := 18) rfl rfl 7 (by decide) (hts _ rw_398) (fun _ h => h) (v := .int (nI g)) rfl dX4_makePiece_133 ?_
                            refine rs_isub hx hb dX4_makePiece_136 (v := nI ((rs_ms tk g (60 * j) (nn - g)) - g)) (pk_sub (by omega)) ?_
                            refine lv_istore hx hb dX4_makePiece_137 hl (lv' := [(9, .int (nI ((rs_ms tk g (60 * j) (nn - g)) - g))), (7, .long 0), (0, .ref (q 0)), (1, .int (nI j)), (2, .int (nI (rs_ms tk g (60 * j) (nn - g)))), (3, .long sc), (5, .int (nI a)), (6, .int (nI e9))]) (by decide) rfl (fun ls hl => ?_)
                            have L_139 : ∀ (k_139 : Nat) (w : Nat) (H : Heap) (locs : List Loc) (ls : Array Slot), g + 1 - w < k_139 → (w ≤ g + 1) → lv_has ls 10 [(0, .ref (q 0)), (1, .int (nI j)), (2, .int (nI (rs_ms tk g (60 * j) (nn - g)))), (3, .long sc), (5, .int (nI a)), (6, .int (nI e9)), (7, .long (rs_sumL (fun w => rs_dra dx dy dw ((rs_ms tk g (60 * j) (nn - g)) - g + w) a * rs_pl tk j (rs_ms tk g (60 * j) (nn - g)) g (4 * ((rs_ms tk g (60 * j) (nn - g)) - g + w) + e9)) w)), (9, .int (nI ((rs_ms tk g (60 * j) (nn - g)) - g + w)))] → va_P D vwCl (wM aI aJ aL q dd dp dk dx dy dw dn g tm py tk nn vn vt px vl ea la) H → va_D A (wM aI aJ aL q dd dp dk dx dy dw dn g tm py tk nn vn vt px vl ea la) → va_S A s.heap H locs → W p l e rm_X4_makePiece s m args below meth c H locs 0 0 Q (F0 m 139 ls []) := by
                              intro k_139
                              induction k_139 with
                              | zero => intro w H locs ls hk_139; exact absurd hk_139 (Nat.not_lt_zero _)
                              | succ k_139 ih_139 =>
                                intro w H locs ls hk_139 hw5 hl hP hD hS
                                refine lv_iload hx hb dX4_makePiece_139 (lv_at hl 7 rfl) ?_
                                refine lv_iload_n hx hb dX4_makePiece_141 rfl (lv_at hl 2 rfl) ?_
                                refine lv_icmp_gt hx hb dX4_makePiece_142 (tgt := 177) rfl (fun h_142 => ?_) (fun h_142 => ?_)
                                · have h_142 : (rs_ms tk g (60 * j) (nn - g)) < ((rs_ms tk g (60 * j) (nn - g)) - g + w) := (nI_ltI (by omega) (by omega)).1 h_142
                                  refine lv_aload_n hx hb dX4_makePiece_177 rfl (lv_at hl 0 rfl) ?_
                                  refine va_get hx hb hts inX4 hown hK hP 0 (ci := 4) (C := RX4) (T := TX4) (N := 18) rfl rfl 9 (by decide) (hts _ rw_400) (fun _ h => h) (v := .ref (q 6)) rfl dX4_makePiece_178 ?_
                                  refine lv_bipush hx hb dX4_makePiece_181 (v := nI 24) (by decide) ?_
                                  refine lv_iload hx hb dX4_makePiece_183 (lv_at hl 4 rfl) ?_
                                  refine rs_imul hx hb dX4_makePiece_185 (v := nI (24 * a)) (pk_mul _ _) ?_
                                  refine lv_iconst hx hb dX4_makePiece_186 (v := nI 4) (by decide) ?_
                                  refine lv_iload_n hx hb dX4_makePiece_187 rfl (lv_at hl 1 rfl) ?_
                                  refine rs_imul hx hb dX4_makePiece_188 (v := nI (4 * j)) (pk_mul _ _) ?_
                                  refine rs_iadd hx hb dX4_makePiece_189 (v := nI ((24 * a) + (4 * j))) (nI_add _ _) ?_
                                  refine lv_iload hx hb dX4_makePiece_190 (lv_at hl 5 rfl) ?_
                                  refine rs_iadd hx hb dX4_makePiece_192 (v := nI (((24 * a) + (4 * j)) + e9)) (nI_add _ _) ?_
                                  refine lv_lload hx hb dX4_makePiece_193 (lv_at hl 6 rfl) ?_
                                  refine lv_lload_n hx hb dX4_makePiece_195 rfl (lv_at hl 3 rfl) ?_
                                  refine lv_lmul hx hb dX4_makePiece_196 ?_
                                  refine rs_last hx hb hK hP hD hS 6 1 rfl rfl (i := (((24 * a) + (4 * j)) + e9)) (by omega) (by decide) dX4_makePiece_197 (ws' := wM aI aJ aL q dd dp dk dx dy dw dn g tm (vp_updL py (((24 * a) + (4 * j)) + e9) ((rs_sumL (fun w => rs_dra dx dy dw ((rs_ms tk g (60 * j) (nn - g)) - g + w) a * rs_pl tk j (rs_ms tk g (60 * j) (nn - g)) g (4 * ((rs_ms tk g (60 * j) (nn - g)) - g + w) + e9)) w) * sc)) tk nn vn vt px vl ea la) rfl (fun H locs hP hD hS => ?_)
                                  refine lv_iinc hx hb dX4_makePiece_198 hl (k := 5) rfl (v := nI (e9 + 1)) (rs_inc _ _) (by decide) (lv' := [(6, .int (nI (e9 + 1))), (0, .ref (q 0)), (1, .int (nI j)), (2, .int (nI (rs_ms tk g (60 * j) (nn - g)))), (3, .long sc), (5, .int (nI a)), (7, .long (rs_sumL (fun w => rs_dra dx dy dw ((rs_ms tk g (60 * j) (nn - g)) - g + w) a * rs_pl tk j (rs_ms tk g (60 * j) (nn - g)) g (4 * ((rs_ms tk g (60 * j) (nn - g)) - g + w) + e9)) w)), (9, .int (nI ((rs_ms tk g (60 * j) (nn - g)) - g + w)))]) rfl (fun ls hl => ?_)
                                  refine lv_goto hx hb dX4_makePiece_201 (tgt := 122) rfl ?_
                                  exact ih_122 (e9 + 1) _ _ _ _ (by omega) (by omega) (hZ.up (by omega) (by omega) (by rw [hsc, show w = g + 1 by omega]; rfl)) (lv_sub hl [1, 2, 3, 4, 5, 0] rfl) hP hD hS
                                · have h_142 : ((rs_ms tk g (60 * j) (nn - g)) - g + w) ≤ (rs_ms tk g (60 * j) (nn - g)) := Nat.le_of_not_lt (fun z => h_142 ((nI_ltI (by omega) (by omega)).2 z))
                                  refine lv_lload hx hb dX4_makePiece_145 (lv_at hl 6 rfl) ?_
                                  refine lv_aload_n hx hb dX4_makePiece_147 rfl (lv_at hl 0 rfl) ?_
                                  refine lv_iload hx hb dX4_makePiece_148 (lv_at hl 7 rfl) ?_
                                  refine lv_iload hx hb dX4_makePiece_150 (lv_at hl 4 rfl) ?_
                                  refine rs_cVL (rest := [.long (rs_sumL (fun w => rs_dra dx dy dw ((rs_ms tk g (60 * j) (nn - g)) - g + w) a * rs_pl tk j (rs_ms tk g (60 * j) (nn - g)) g (4 * ((rs_ms tk g (60 * j) (nn - g)) - g + w) + e9)) w)]) (wr := []) (ws' := fun u_152 => wM aI aJ aL q dd dp dk dx dy dw dn g tm py tk nn vn vt px vl ea la) ⟨hx, hb, hml, hown, hts⟩ (c_X4_drafted l D aI aJ aL _ q dd dp dk dx dy dw dn g tm py tk nn vn vt px vl ea la ((rs_ms tk g (60 * j) (nn - g)) - g + w) a (by omega) (by omega)) (cwV 2 hts (rs_gV rw_480 rw_482 rv_17 rw_5 rw_483) rfl rfl rfl (by decide +kernel) ⟨Nat.le_of_ble_eq_true rfl, Nat.le_of_ble_eq_true rfl⟩) hK hN hP hD hS hA [0, 1, 2, 3, 4, 5, 6, 7, 8, 9, 10, 11, 12] [] [0, 1, 2, 3, 4, 5, 6, 7, 8, 9, 10, 11, 12] (by decide) rfl rfl (fun _ => rfl) 0 rfl rfl hl.1 rfl rfl (Nat.le_of_ble_eq_true rfl) dX4_makePiece_152 ⟨Nat.le_refl _, Nat.le_refl _⟩ (fun u_152 H locs hP hD hS => ?_)
                                  have hP : va_P D vwCl (wM aI aJ aL q dd dp dk dx dy dw dn g tm py tk nn vn vt px vl ea la) H := hP
                                  have hD : va_D A (wM aI aJ aL q dd dp dk dx dy dw dn g tm py tk nn vn vt px vl ea la) := hD
                                  refine lv_aload_n hx hb dX4_makePiece_155 rfl (lv_at hl 0 rfl) ?_
                                  refine va_get hx hb hts inX4 hown hK hP 0 (ci := 4) (C := RX4) (T := TX4) (N := 18) rfl rfl 14 (by decide) (hts _ rw_405) (fun _ h => h) (v := .ref (q 9)) rfl dX4_makePiece_156 ?_
                                  refine lv_iconst hx hb dX4_makePiece_159 (v := nI 4) (by decide) ?_
                                  refine lv_iload hx hb dX4_makePiece_160 (lv_at hl 7 rfl) ?_
                                  refine rs_imul hx hb dX4_makePiece_162 (v := nI (4 * ((rs_ms tk g (60 * j) (nn - g)) - g + w))) (pk_mul _ _) ?_
                                  refine lv_iload hx hb dX4_makePiece_163 (lv_at hl 5 rfl) ?_
                                  refine rs_iadd hx hb dX4_makePiece_165 (v := nI ((4 * ((rs_ms tk g (60 * j) (nn - g)) - g + w)) + e9)) (nI_add _ _) ?_
                                  refine rs_lald hx hb hK hP 9 1 rfl rfl (i := ((4 * ((rs_ms tk g (60 * j) (nn - g)) - g + w)) + e9)) (by omega) (by decide) (v := rs_pl tk j (rs_ms tk g (60 * j) (nn - g)) g (4 * ((rs_ms tk g (60 * j) (nn - g)) - g + w) + e9)) (hpl _ (by omega)) dX4_makePiece_166 ?_
                                  refine lv_lmul hx hb dX4_makePiece_167 ?_
                                  refine lv_ladd hx hb dX4_makePiece_168 ?_
                                  refine lv_lstore hx hb dX4_makePiece_169 hl (lv' := [(7, .long ((rs_sumL (fun w => rs_dra dx dy dw ((rs_ms tk g (60 * j) (nn - g)) - g + w) a * rs_pl tk j (rs_ms tk g (60 * j) (nn - g)) g (4 * ((rs_ms tk g (60 * j) (nn - g)) - g + w) + e9)) w) + ((rs_dra dx dy dw ((rs_ms tk g (60 * j) (nn - g)) - g + w) a) * (rs_pl tk j (rs_ms tk g (60 * j) (nn - g)) g (4 * ((rs_ms tk g (60 * j) (nn - g)) - g + w) + e9))))), (0, .ref (q 0)), (1, .int (nI j)), (2, .int (nI (rs_ms tk g (60 * j) (nn - g)))), (3, .long sc), (5, .int (nI a)), (6, .int (nI e9)), (9, .int (nI ((rs_ms tk g (60 * j) (nn - g)) - g + w)))]) (by decide) rfl (fun ls hl => ?_)
                                  refine lv_iinc hx hb dX4_makePiece_171 hl (k := 7) rfl (v := nI (((rs_ms tk g (60 * j) (nn - g)) - g + w) + 1)) (rs_inc _ _) (by decide) (lv' := [(9, .int (nI (((rs_ms tk g (60 * j) (nn - g)) - g + w) + 1))), (7, .long ((rs_sumL (fun w => rs_dra dx dy dw ((rs_ms tk g (60 * j) (nn - g)) - g + w) a * rs_pl tk j (rs_ms tk g (60 * j) (nn - g)) g (4 * ((rs_ms tk g (60 * j) (nn - g)) - g + w) + e9)) w) + ((rs_dra dx dy dw ((rs_ms tk g (60 * j) (nn - g)) - g + w) a) * (rs_pl tk j (rs_ms tk g (60 * j) (nn - g)) g (4 * ((rs_ms tk g (60 * j) (nn - g)) - g + w) + e9))))), (0, .ref (q 0)), (1, .int (nI j)), (2, .int (nI (rs_ms tk g (60 * j) (nn - g)))), (3, .long sc), (5, .int (nI a)), (6, .int (nI e9))]) rfl (fun ls hl => ?_)
                                  refine lv_goto hx hb dX4_makePiece_174 (tgt := 139) rfl ?_
                                  exact ih_139 (w + 1) _ _ _ (by omega) (by omega) (lv_sub hl [2, 3, 4, 5, 6, 7, 1, 0] rfl) hP hD hS
                            exact L_139 ((g + 1 - 0) + 1) 0 _ _ _ (Nat.lt_succ_self _) (by omega) (lv_sub hl [2, 3, 4, 5, 6, 7, 1, 0] rfl) hP hD hS
                      exact L_122 ((4 - 0) + 1) 0 _ _ _ _ (Nat.lt_succ_self _) (Nat.zero_le _) hZ (lv_sub hl [1, 2, 3, 4, 5, 0] rfl) hP hD hS
                exact L_113 ((3 - 0) + 1) 0 pz _ _ _ (Nat.lt_succ_self _) (Nat.zero_le _) rs_Z.zero (lv_sub hl [2, 3, 4, 1, 0] rfl) hP hD hS
              refine lv_icmp_ne hx hb dX4_makePiece_85 (tgt := 94) rfl (fun h_85 => ?_) (fun h_85 => ?_)
              · have h_85 : ¬ g = 1 := fun z => h_85 ((nI_eq (by omega) (by omega)).2 z)
                refine lv_aload_n hx hb dX4_makePiece_94 rfl (lv_at hl 0 rfl) ?_
                refine va_get hx hb hts inX4 hown hK hP 0 (ci := 4) (C := RX4) (T := TX4) (N := 18) rfl rfl 7 (by decide) (hts _ rw_398) (fun _ h => h) (v := .int (nI g)) rfl dX4_makePiece_95 ?_
                refine lv_iconst hx hb dX4_makePiece_98 (v := nI 2) (by decide) ?_
                refine lv_icmp_ne hx hb dX4_makePiece_99 (tgt := 108) rfl (fun h_99 => ?_) (fun h_99 => ?_)
                · have h_99 : ¬ g = 2 := fun z => h_99 ((nI_eq (by omega) (by omega)).2 z)
                  refine lv_lconst hx hb dX4_makePiece_108 (v := 1) (by decide) ?_
                  exact L_109 _ _ _ _ (by first | exact (if_pos h_85).symm | exact ((if_neg h_85).trans (if_pos h_99)).symm | exact ((if_neg h_85).trans (if_neg h_99)).symm) (lv_sub hl [0, 1, 2] rfl) hP hD hS
                · have h_99 : g = 2 := (nI_eq (by omega) (by omega)).1 h_99
                  refine lv_ldc2 hx hb hown (hts _ rw_479) dX4_makePiece_102 ?_
                  refine lv_goto hx hb dX4_makePiece_105 (tgt := 109) rfl ?_
                  exact L_109 _ _ _ _ (by first | exact (if_pos h_85).symm | exact ((if_neg h_85).trans (if_pos h_99)).symm | exact ((if_neg h_85).trans (if_neg h_99)).symm) (lv_sub hl [0, 1, 2] rfl) hP hD hS
              · have h_85 : g = 1 := (nI_eq (by omega) (by omega)).1 h_85
                refine lv_ldc2 hx hb hown (hts _ rw_478) dX4_makePiece_88 ?_
                refine lv_goto hx hb dX4_makePiece_91 (tgt := 109) rfl ?_
                exact L_109 _ _ _ _ (by first | exact (if_pos h_85).symm | exact ((if_neg h_85).trans (if_pos h_99)).symm | exact ((if_neg h_85).trans (if_neg h_99)).symm) (lv_sub hl [0, 1, 2] rfl) hP hD hS
            · have h_46 : (v + 1) ≤ g := Nat.le_of_not_lt (fun z => h_46 ((nI_ltI (by omega) (by omega)).2 z))
              refine lv_iload_n hx hb dX4_makePiece_49 rfl (lv_at hl 2 rfl) ?_
              refine lv_iload_n hx hb dX4_makePiece_50 rfl (lv_at hl 3 rfl) ?_
              refine rs_isub hx hb dX4_makePiece_51 (v := nI ((rs_ms tk g (60 * j) (nn - g)) - (v + 1))) (pk_sub (by omega)) ?_
              refine lv_istore hx hb dX4_makePiece_52 hl (lv' := [(4, .int (nI ((rs_ms tk g (60 * j) (nn - g)) - (v + 1)))), (0, .ref (q 0)), (1, .int (nI j)), (2, .int (nI (rs_ms tk g (60 * j) (nn - g)))), (3, .int (nI (v + 1)))]) (by decide) rfl (fun ls hl => ?_)
              have L_54 : ∀ (k_54 : Nat) (w : Nat) (px : Nat → Int64) (H : Heap) (locs : List Loc) (ls : Array Slot), v + 2 - w < k_54 → (w ≤ v + 2) → (∀ x, x < 80 → px x = if (rs_ms tk g (60 * j) (nn - g)) - (v + 1) ≤ x / 4 ∧ x / 4 < (rs_ms tk g (60 * j) (nn - g)) - (v + 1) + w then rs_pl tk j (rs_ms tk g (60 * j) (nn - g)) (v + 1) x else rs_pl tk j (rs_ms tk g (60 * j) (nn - g)) v x) → lv_has ls 10 [(0, .ref (q 0)), (1, .int (nI j)), (2, .int (nI (rs_ms tk g (60 * j) (nn - g)))), (3, .int (nI (v + 1))), (4, .int (nI ((rs_ms tk g (60 * j) (nn - g)) - (v + 1) + w)))] → va_P D vwCl (wM aI aJ aL q dd dp dk dx dy dw dn g tm pz tk nn vn vt px vl ea la) H → va_D A (wM aI aJ aL q dd dp dk dx dy dw dn g tm pz tk nn vn vt px vl ea la) → va_S A s.heap H locs → W p l e rm_X4_makePiece s m args below meth c H locs 0 0 Q (F0 m 54 ls []) := by
                intro k_54
                induction k_54 with
                | zero => intro w px H locs ls hk_54; exact absurd hk_54 (Nat.not_lt_zero _)
                | succ k_54 ih_54 =>
                  intro w px H locs ls hk_54 hw2 hp hl hP hD hS
                  refine lv_iload hx hb dX4_makePiece_54 (lv_at hl 4 rfl) ?_
                  refine lv_iload_n hx hb dX4_makePiece_56 rfl (lv_at hl 2 rfl) ?_
                  refine lv_icmp_gt hx hb dX4_makePiece_57 (tgt := 74) rfl (fun h_57 => ?_) (fun h_57 => ?_)
                  · have h_57 : (rs_ms tk g (60 * j) (nn - g)) < ((rs_ms tk g (60 * j) (nn - g)) - (v + 1) + w) := (nI_ltI (by omega) (by omega)).1 h_57
                    refine lv_iinc hx hb dX4_makePiece_74 hl (k := 3) rfl (v := nI ((v + 1) + 1)) (rs_inc _ _) (by decide) (lv' := [(3, .int (nI ((v + 1) + 1))), (0, .ref (q 0)), (1, .int (nI j)), (2, .int (nI (rs_ms tk g (60 * j) (nn - g)))), (4, .int (nI ((rs_ms tk g (60 * j) (nn - g)) - (v + 1) + w)))]) rfl (fun ls hl => ?_)
                    refine lv_goto hx hb dX4_makePiece_77 (tgt := 41) rfl ?_
                    exact ih_41 (v + 1) _ _ _ _ (by omega) (by omega) (rs_pl_n (by omega) (by omega) hp) (lv_sub hl [1, 2, 3, 0] rfl) hP hD hS
                  · have h_57 : ((rs_ms tk g (60 * j) (nn - g)) - (v + 1) + w) ≤ (rs_ms tk g (60 * j) (nn - g)) := Nat.le_of_not_lt (fun z => h_57 ((nI_ltI (by omega) (by omega)).2 z))
                    refine lv_aload_n hx hb dX4_makePiece_60 rfl (lv_at hl 0 rfl) ?_
                    refine lv_iload hx hb dX4_makePiece_61 (lv_at hl 4 rfl) ?_
                    refine lv_iload_n hx hb dX4_makePiece_63 rfl (lv_at hl 3 rfl) ?_
                    refine lv_iload_n hx hb dX4_makePiece_64 rfl (lv_at hl 1 rfl) ?_
                    refine rs_cVV (rest := []) (wr := []) (ws' := fun u_65 => wM aI aJ aL q dd dp dk dx dy dw dn g tm pz tk nn vn vt u_65.1 vl ea la) ⟨hx, hb, hml, hown, hts⟩ (c_X4_mix l D aI aJ aL _ q dd dp dk dx dy dw dn g tm pz tk nn vn vt px vl ea la ((rs_ms tk g (60 * j) (nn - g)) - (v + 1) + w) (v + 1) j (by omega) (by omega) (by omega)) (cwV 3 hts (rs_gV rw_474 rw_476 rv_16 rw_5 rw_477) rfl rfl rfl (by decide +kernel) ⟨Nat.le_of_ble_eq_true rfl, Nat.le_of_ble_eq_true rfl⟩) hK hN hP hD hS hA [0, 1, 2, 3, 4, 5, 6, 7, 8, 9, 10, 11, 12] [] [0, 1, 2, 3, 4, 5, 6, 7, 8, 9, 10, 11, 12] (by decide) rfl rfl (fun _ => rfl) 0 rfl rfl hl.1 rfl rfl (Nat.le_of_ble_eq_true rfl) dX4_makePiece_65 ⟨Nat.le_refl _, Nat.le_refl _⟩ (fun u_65 H locs hP hD hS => ?_)
                    have hP : va_P D vwCl (wM aI aJ aL q dd dp dk dx dy dw dn g tm pz tk nn vn vt u_65.1 vl ea la) H := hP
                    have hD : va_D A (wM aI aJ aL q dd dp dk dx dy dw dn g tm pz tk nn vn vt u_65.1 vl ea la) := hD
                    refine lv_iinc hx hb dX4_makePiece_68 hl (k := 4) rfl (v := nI (((rs_ms tk g (60 * j) (nn - g)) - (v + 1) + w) + 1)) (rs_inc _ _) (by decide) (lv' := [(4, .int (nI (((rs_ms tk g (60 * j) (nn - g)) - (v + 1) + w) + 1))), (0, .ref (q 0)), (1, .int (nI j)), (2, .int (nI (rs_ms tk g (60 * j) (nn - g)))), (3, .int (nI (v + 1)))]) rfl (fun ls hl => ?_)
                    refine lv_goto hx hb dX4_makePiece_71 (tgt := 54) rfl ?_
                    exact ih_54 (w + 1) _ _ _ _ (by omega) (by omega) (rs_pl_s (by omega) (by omega) (by omega) u_65.2 hp) (lv_sub hl [1, 2, 3, 4, 0] rfl) hP hD hS
              exact L_54 ((v + 2 - 0) + 1) 0 _ _ _ _ (Nat.lt_succ_self _) (by omega) (rs_pl_i hp) (lv_sub hl [1, 2, 3, 4, 0] rfl) hP hD hS
        exact L_41 ((g - 0) + 1) 0 _ _ _ _ (Nat.lt_succ_self _) (Nat.zero_le _) (rs_pl_0 (by omega) h0) (lv_sub hl [1, 2, 3, 0] rfl) hP hD hS
      · have h_14 : k < 80 := Nat.lt_of_not_le (fun z => h_14 ((nI_leI (by omega) (by omega)).2 z))
        refine lv_aload_n hx hb dX4_makePiece_17 rfl (lv_at hl 0 rfl) ?_
        refine va_get hx hb hts inX4 hown hK hP 0 (ci := 4) (C := RX4) (T := TX4) (N := 18) rfl rfl 14 (by decide) (hts _ rw_405) (fun _ h => h) (v := .ref (q 9)) rfl dX4_makePiece_18 ?_
        refine lv_iload_n hx hb dX4_makePiece_21 rfl (lv_at hl 3 rfl) ?_
        refine lv_lconst hx hb dX4_makePiece_22 (v := 0) (by decide) ?_
        refine rs_last hx hb hK hP hD hS 9 1 rfl rfl (i := k) (by omega) (by decide) dX4_makePiece_23 (ws' := wM aI aJ aL q dd dp dk dx dy dw dn g tm pz tk nn vn vt (vp_updL px k 0) vl ea la) rfl (fun H locs hP hD hS => ?_)
        refine lv_iinc hx hb dX4_makePiece_24 hl (k := 3) rfl (v := nI (k + 1)) (rs_inc _ _) (by decide) (lv' := [(3, .int (nI (k + 1))), (0, .ref (q 0)), (1, .int (nI j)), (2, .int (nI (rs_ms tk g (60 * j) (nn - g))))]) rfl (fun ls hl => ?_)
        refine lv_goto hx hb dX4_makePiece_27 (tgt := 11) rfl ?_
        exact ih_11 (k + 1) _ _ _ _ (by omega) (by omega) (rs_w_up (F := fun _ => 0) h0 rfl) (lv_sub hl [1, 2, 3, 0] rfl) hP hD hS
  exact L_11 ((80 - 0) + 1) 0 po _ _ _ (Nat.lt_succ_self _) (Nat.zero_le _) lt_0 (lv_sub hl [2, 3, 1, 0] rfl) hP hD hS
