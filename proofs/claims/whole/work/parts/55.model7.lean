def rm_X4_reverse : Room := { frames := 2, cells := 0, slots := 0, locals := 152 }
set_option maxHeartbeats 4000000 in
set_option maxRecDepth 100000 in
theorem c_X4_reverse (l : Launch) (D : va_G) (aI aJ aL : ClassId) (sz : Nat) (q : Nat → Nat) (dd : Nat) (dp : Nat) (dk : Nat) (dx : Nat → Int32) (dy : Nat → Int32) (dw : Nat → Int32) (dn : Nat → Nat) (g : Nat) (tm : Nat → Nat) (pz : Nat → Int64) (tk : Nat → Nat) (nn : Nat) (vn : Nat) (vt : Nat → Nat) (po : Nat → Int64) (vl : Nat → Int64) (ea : Nat → Nat) (la : Nat → Nat) (hg1 : 1 ≤ g) (hg : g ≤ 3) (htk : ∀ i, tk i ≤ 6) (hc7 : ∀ j, j ≤ 7 → rs_c7 g (rs_trk tm 2) j ≤ 23) : rs_MI (S := {x : (Nat → Nat) × (Nat → Int64) // (∀ i, i < rs_cu g (rs_trk tm 2) 6 + (g + 1) → x.1 i = rs_val (rs_cu g (rs_trk tm 2)) i) ∧ ∀ i, x.1 i ≤ 6}) l yX4_reverse (Cond.code yX4_reverse prog_6_method_20_code 7 (some .boolean) :: rsW) rm_X4_reverse D vwCl (rs_tys aI aJ aL) rs_nw [.ref (q 0)] (wM aI aJ aL q dd dp dk dx dy dw dn g tm pz tk nn vn vt po vl ea la) sz (nI 1) (fun uu => wM aI aJ aL q dd dp dk dx dy dw dn g (rs_trk tm 2) (rs_rvk pz (72)) uu.1.1 (rs_cu g (rs_trk tm 2) 6) vn vt po uu.1.2 ea la) := by
  refine rs_ent (cc := cX4_reverse) (maxL := 7) (ret := some .boolean) (Qc := rs_QI D vwCl _ _ _) (by decide) rfl (Nat.le_of_ble_eq_true rfl) ?_
  intro p e s m args below meth c ls A Q hx hb hr hml hlk hts hown hin hK hN hP hD hS hA hQ hl
  have hl : lv_has ls 7 [(0, .ref (q 0))] := hl
  refine lv_aload_n hx hb dX4_reverse_0 rfl (lv_at hl 0 rfl) ?_
  refine va_get hx hb hts inX4 hown hK hP 0 (ci := 4) (C := RX4) (T := TX4) (N := 18) rfl rfl 7 (by decide) (hts _ rw_398) (fun _ h => h) (v := .int (nI g)) rfl dX4_reverse_1 ?_
  refine lv_if_ne hx hb dX4_reverse_4 (tgt := 9) rfl (fun h_4 => ?_) (fun h_4 => ?_)
  · have h_4 : 0 < g := rs_z2 (by omega) h_4
    refine lv_iconst hx hb dX4_reverse_9 (v := nI 0) (by decide) ?_
    refine lv_istore_n hx hb dX4_reverse_10 rfl hl (lv' := [(1, .int (nI 0)), (0, .ref (q 0))]) (by decide) rfl (fun ls hl => ?_)
    have L_11 : ∀ (k_11 : Nat) (ax : Nat) (vl : Nat → Int64) (H : Heap) (locs : List Loc) (ls : Array Slot), 3 - ax < k_11 → (ax ≤ 3) → lv_has ls 7 [(0, .ref (q 0)), (1, .int (nI ax))] → va_P D vwCl (wM aI aJ aL q dd dp dk dx dy dw dn g tm (rs_rvk pz (24 * ax)) tk nn vn vt po vl ea la) H → va_D A (wM aI aJ aL q dd dp dk dx dy dw dn g tm (rs_rvk pz (24 * ax)) tk nn vn vt po vl ea la) → va_S A s.heap H locs → W p l e rm_X4_reverse s m args below meth c H locs 0 0 Q (F0 m 11 ls []) := by
      intro k_11
      induction k_11 with
      | zero => intro ax vl H locs ls hk_11; exact absurd hk_11 (Nat.not_lt_zero _)
      | succ k_11 ih_11 =>
        intro ax vl H locs ls hk_11 hax hl hP hD hS
        refine lv_iload_n hx hb dX4_reverse_11 rfl (lv_at hl 1 rfl) ?_
        refine lv_iconst hx hb dX4_reverse_12 (v := nI 3) (by decide) ?_
        refine lv_icmp_ge hx hb dX4_reverse_13 (tgt := 152) rfl (fun h_13 => ?_) (fun h_13 => ?_)
        · have h_13 : 3 ≤ ax := (nI_leI (by omega) (by omega)).1 h_13
          have hx9 : ax = 3 := by omega
          subst hx9
          refine lv_iconst hx hb dX4_reverse_152 (v := nI 1) (by decide) ?_
          refine lv_istore_n hx hb dX4_reverse_153 rfl hl (lv' := [(1, .int (nI 1)), (0, .ref (q 0))]) (by decide) rfl (fun ls hl => ?_)
          have L_154 : ∀ (k_154 : Nat) (v : Nat) (H : Heap) (locs : List Loc) (ls : Array Slot), 2 - v < k_154 → (v ≤ 2) → lv_has ls 7 [(0, .ref (q 0)), (1, .int (nI (v + 1)))] → va_P D vwCl (wM aI aJ aL q dd dp dk dx dy dw dn g (rs_trk tm v) (rs_rvk pz (24 * 3)) tk nn vn vt po vl ea la) H → va_D A (wM aI aJ aL q dd dp dk dx dy dw dn g (rs_trk tm v) (rs_rvk pz (24 * 3)) tk nn vn vt po vl ea la) → va_S A s.heap H locs → W p l e rm_X4_reverse s m args below meth c H locs 0 0 Q (F0 m 154 ls []) := by
            intro k_154
            induction k_154 with
            | zero => intro v H locs ls hk_154; exact absurd hk_154 (Nat.not_lt_zero _)
            | succ k_154 ih_154 =>
              intro v H locs ls hk_154 hv hl hP hD hS
              refine lv_iload_n hx hb dX4_reverse_154 rfl (lv_at hl 1 rfl) ?_
              refine lv_iconst hx hb dX4_reverse_155 (v := nI 2) (by decide) ?_
              refine lv_icmp_gt hx hb dX4_reverse_156 (tgt := 197) rfl (fun h_156 => ?_) (fun h_156 => ?_)
              · have h_156 : 2 < (v + 1) := (nI_ltI (by omega) (by omega)).1 h_156
                have hv9 : v = 2 := by omega
                subst hv9
                refine lv_aload_n hx hb dX4_reverse_197 rfl (lv_at hl 0 rfl) ?_
                refine rs_cVV (rest := []) (wr := []) (ws' := fun u_198 => wM aI aJ aL q dd dp dk dx dy dw dn g (rs_trk tm 2) (rs_rvk pz (24 * 3)) u_198.1 (rs_cu g (rs_trk tm 2) 6) vn vt po vl ea la) ⟨hx, hb, hml, hown, hts⟩ (c_X4_layKnots l D aI aJ aL _ q dd dp dk dx dy dw dn g (rs_trk tm 2) (rs_rvk pz (24 * 3)) tk nn vn vt po vl ea la hg htk hc7) (cwV 0 hts (rs_gV rw_462 rw_464 rv_13 rw_5 rw_465) rfl rfl rfl (by decide +kernel) ⟨Nat.le_of_ble_eq_true rfl, Nat.le_of_ble_eq_true rfl⟩) hK hN hP hD hS hA [0, 1, 2, 3, 4, 5, 6, 7, 8, 9, 10, 11, 12] [] [0, 1, 2, 3, 4, 5, 6, 7, 8, 9, 10, 11, 12] (by decide) rfl rfl (fun _ => rfl) 0 rfl rfl hl.1 rfl rfl (Nat.le_of_ble_eq_true rfl) dX4_reverse_198 ⟨Nat.le_refl _, Nat.le_refl _⟩ (fun u_198 H locs hP hD hS => ?_)
                have hP : va_P D vwCl (wM aI aJ aL q dd dp dk dx dy dw dn g (rs_trk tm 2) (rs_rvk pz (24 * 3)) u_198.1 (rs_cu g (rs_trk tm 2) 6) vn vt po vl ea la) H := hP
                have hD : va_D A (wM aI aJ aL q dd dp dk dx dy dw dn g (rs_trk tm 2) (rs_rvk pz (24 * 3)) u_198.1 (rs_cu g (rs_trk tm 2) 6) vn vt po vl ea la) := hD
                refine lv_iconst hx hb dX4_reverse_201 (v := nI 1) (by decide) ?_
                exact rs_iret ⟨(u_198.1, vl), u_198.2⟩ hx hb hr hlk hQ hK hP hD hS (by decide) rfl rfl dX4_reverse_202
              · have h_156 : (v + 1) ≤ 2 := Nat.le_of_not_lt (fun z => h_156 ((nI_ltI (by omega) (by omega)).2 z))
                refine lv_aload_n hx hb dX4_reverse_159 rfl (lv_at hl 0 rfl) ?_
                refine va_get hx hb hts inX4 hown hK hP 0 (ci := 4) (C := RX4) (T := TX4) (N := 18) rfl rfl 8 (by decide) (hts _ rw_399) (fun _ h => h) (v := .ref (q 5)) rfl dX4_reverse_160 ?_
                refine lv_iload_n hx hb dX4_reverse_163 rfl (lv_at hl 1 rfl) ?_
                refine rs_iald hx hb hK hP 5 0 rfl rfl (i := (v + 1)) (by omega) (by decide) (v := nI ((rs_trk tm v) (v + 1))) rfl dX4_reverse_164 ?_
                refine lv_istore_n hx hb dX4_reverse_165 rfl hl (lv' := [(2, .int (nI ((rs_trk tm v) (v + 1)))), (0, .ref (q 0)), (1, .int (nI (v + 1)))]) (by decide) rfl (fun ls hl => ?_)
                refine lv_aload_n hx hb dX4_reverse_166 rfl (lv_at hl 1 rfl) ?_
                refine va_get hx hb hts inX4 hown hK hP 0 (ci := 4) (C := RX4) (T := TX4) (N := 18) rfl rfl 8 (by decide) (hts _ rw_399) (fun _ h => h) (v := .ref (q 5)) rfl dX4_reverse_167 ?_
                refine lv_iload_n hx hb dX4_reverse_170 rfl (lv_at hl 2 rfl) ?_
                refine lv_aload_n hx hb dX4_reverse_171 rfl (lv_at hl 1 rfl) ?_
                refine va_get hx hb hts inX4 hown hK hP 0 (ci := 4) (C := RX4) (T := TX4) (N := 18) rfl rfl 8 (by decide) (hts _ rw_399) (fun _ h => h) (v := .ref (q 5)) rfl dX4_reverse_172 ?_
                refine lv_bipush hx hb dX4_reverse_175 (v := nI 6) (by decide) ?_
                refine lv_iload_n hx hb dX4_reverse_177 rfl (lv_at hl 2 rfl) ?_
                refine rs_isub hx hb dX4_reverse_178 (v := nI (6 - (v + 1))) (pk_sub (by omega)) ?_
                refine rs_iald hx hb hK hP 5 0 rfl rfl (i := (6 - (v + 1))) (by omega) (by decide) (v := nI ((rs_trk tm v) (6 - (v + 1)))) rfl dX4_reverse_179 ?_
                refine rs_iast hx hb hK hP hD hS 5 0 rfl rfl (i := (v + 1)) (by omega) (by decide) (rs_upI _ _ _) dX4_reverse_180 (ws' := wM aI aJ aL q dd dp dk dx dy dw dn g (rs_up (rs_trk tm v) (v + 1) ((rs_trk tm v) (6 - (v + 1)))) (rs_rvk pz (24 * 3)) tk nn vn vt po vl ea la) rfl (fun H locs hP hD hS => ?_)
                refine lv_aload_n hx hb dX4_reverse_181 rfl (lv_at hl 1 rfl) ?_
                refine va_get hx hb hts inX4 hown hK hP 0 (ci := 4) (C := RX4) (T := TX4) (N := 18) rfl rfl 8 (by decide) (hts _ rw_399) (fun _ h => h) (v := .ref (q 5)) rfl dX4_reverse_182 ?_
                refine lv_bipush hx hb dX4_reverse_185 (v := nI 6) (by decide) ?_
                refine lv_iload_n hx hb dX4_reverse_187 rfl (lv_at hl 2 rfl) ?_
                refine rs_isub hx hb dX4_reverse_188 (v := nI (6 - (v + 1))) (pk_sub (by omega)) ?_
                refine lv_iload_n hx hb dX4_reverse_189 rfl (lv_at hl 0 rfl) ?_
                refine rs_iast hx hb hK hP hD hS 5 0 rfl rfl (i := (6 - (v + 1))) (by omega) (by decide) (rs_upI _ _ _) dX4_reverse_190 (ws' := wM aI aJ aL q dd dp dk dx dy dw dn g (rs_up (rs_up (rs_trk tm v) (v + 1) ((rs_trk tm v) (6 - (v + 1)))) (6 - (v + 1)) ((rs_trk tm v) (v + 1))) (rs_rvk pz (24 * 3)) tk nn vn vt po vl ea la) rfl (fun H locs hP hD hS => ?_)
                refine lv_iinc hx hb dX4_reverse_191 hl (k := 2) rfl (v := nI ((v + 1) + 1)) (rs_inc _ _) (by decide) (lv' := [(1, .int (nI ((v + 1) + 1))), (2, .int (nI ((rs_trk tm v) (v + 1)))), (0, .ref (q 0))]) rfl (fun ls hl => ?_)
                refine lv_goto hx hb dX4_reverse_194 (tgt := 154) rfl ?_
                exact ih_154 (v + 1) _ _ _ (by omega) (by omega) (lv_sub hl [2, 0] rfl) hP hD hS
          exact L_154 ((2 - 0) + 1) 0 _ _ _ (Nat.lt_succ_self _) (by omega) (lv_sub hl [1, 0] rfl) hP hD hS
        · have h_13 : ax < 3 := Nat.lt_of_not_le (fun z => h_13 ((nI_leI (by omega) (by omega)).2 z))
          refine lv_iconst hx hb dX4_reverse_16 (v := nI 0) (by decide) ?_
          refine lv_istore_n hx hb dX4_reverse_17 rfl hl (lv' := [(2, .int (nI 0)), (0, .ref (q 0)), (1, .int (nI ax))]) (by decide) rfl (fun ls hl => ?_)
          have L_18 : ∀ (k_18 : Nat) (j : Nat) (vl : Nat → Int64) (H : Heap) (locs : List Loc) (ls : Array Slot), 6 - j < k_18 → (j ≤ 6) → (∀ y, y < 4 * j → vl y = rs_rv pz ax y) → lv_has ls 7 [(0, .ref (q 0)), (1, .int (nI ax)), (2, .int (nI j))] → va_P D vwCl (wM aI aJ aL q dd dp dk dx dy dw dn g tm (rs_rvk pz (24 * ax)) tk nn vn vt po vl ea la) H → va_D A (wM aI aJ aL q dd dp dk dx dy dw dn g tm (rs_rvk pz (24 * ax)) tk nn vn vt po vl ea la) → va_S A s.heap H locs → W p l e rm_X4_reverse s m args below meth c H locs 0 0 Q (F0 m 18 ls []) := by
            intro k_18
            induction k_18 with
            | zero => intro j vl H locs ls hk_18; exact absurd hk_18 (Nat.not_lt_zero _)
            | succ k_18 ih_18 =>
              intro j vl H locs ls hk_18 hj hva hl hP hD hS
              refine lv_iload_n hx hb dX4_reverse_18 rfl (lv_at hl 2 rfl) ?_
              refine lv_bipush hx hb dX4_reverse_19 (v := nI 6) (by decide) ?_
              refine lv_icmp_ge hx hb dX4_reverse_21 (tgt := 115) rfl (fun h_21 => ?_) (fun h_21 => ?_)
              · have h_21 : 6 ≤ j := (nI_leI (by omega) (by omega)).1 h_21
                refine lv_iconst hx hb dX4_reverse_115 (v := nI 0) (by decide) ?_
                refine lv_istore_n hx hb dX4_reverse_116 rfl hl (lv' := [(2, .int (nI 0)), (0, .ref (q 0)), (1, .int (nI ax))]) (by decide) rfl (fun ls hl => ?_)
                have L_117 : ∀ (k_117 : Nat) (y9 : Nat) (H : Heap) (locs : List Loc) (ls : Array Slot), 24 - y9 < k_117 → (y9 ≤ 24) → lv_has ls 7 [(0, .ref (q 0)), (1, .int (nI ax)), (2, .int (nI y9))] → va_P D vwCl (wM aI aJ aL q dd dp dk dx dy dw dn g tm (rs_rvk pz (24 * ax + y9)) tk nn vn vt po vl ea la) H → va_D A (wM aI aJ aL q dd dp dk dx dy dw dn g tm (rs_rvk pz (24 * ax + y9)) tk nn vn vt po vl ea la) → va_S A s.heap H locs → W p l e rm_X4_reverse s m args below meth c H locs 0 0 Q (F0 m 117 ls []) := by
                  intro k_117
                  induction k_117 with
                  | zero => intro y9 H locs ls hk_117; exact absurd hk_117 (Nat.not_lt_zero _)
                  | succ k_117 ih_117 =>
                    intro y9 H locs ls hk_117 hy hl hP hD hS
                    refine lv_iload_n hx hb dX4_reverse_117 rfl (lv_at hl 2 rfl) ?_
                    refine lv_bipush hx hb dX4_reverse_118 (v := nI 24) (by decide) ?_
                    refine lv_icmp_ge hx hb dX4_reverse_120 (tgt := 146) rfl (fun h_120 => ?_) (fun h_120 => ?_)
                    · have h_120 : 24 ≤ y9 := (nI_leI (by omega) (by omega)).1 h_120
                      refine lv_iinc hx hb dX4_reverse_146 hl (k := 1) rfl (v := nI (ax + 1)) (rs_inc _ _) (by decide) (lv' := [(1, .int (nI (ax + 1))), (0, .ref (q 0)), (2, .int (nI y9))]) rfl (fun ls hl => ?_)
                      refine lv_goto hx hb dX4_reverse_149 (tgt := 11) rfl ?_
                      exact ih_11 (ax + 1) vl _ _ _ (by omega) (by omega) (lv_sub hl [1, 0] rfl) (by rw [show 24 * (ax + 1) = 24 * ax + y9 by omega]; exact hP) (by rw [show 24 * (ax + 1) = 24 * ax + y9 by omega]; exact hD) hS
                    · have h_120 : y9 < 24 := Nat.lt_of_not_le (fun z => h_120 ((nI_leI (by omega) (by omega)).2 z))
                      refine lv_aload_n hx hb dX4_reverse_123 rfl (lv_at hl 0 rfl) ?_
                      refine va_get hx hb hts inX4 hown hK hP 0 (ci := 4) (C := RX4) (T := TX4) (N := 18) rfl rfl 9 (by decide) (hts _ rw_400) (fun _ h => h) (v := .ref (q 6)) rfl dX4_reverse_124 ?_
                      refine lv_bipush hx hb dX4_reverse_127 (v := nI 24) (by decide) ?_
                      refine lv_iload_n hx hb dX4_reverse_129 rfl (lv_at hl 1 rfl) ?_
                      refine rs_imul hx hb dX4_reverse_130 (v := nI (24 * ax)) (pk_mul _ _) ?_
                      refine lv_iload_n hx hb dX4_reverse_131 rfl (lv_at hl 2 rfl) ?_
                      refine rs_iadd hx hb dX4_reverse_132 (v := nI ((24 * ax) + y9)) (nI_add _ _) ?_
                      refine lv_aload_n hx hb dX4_reverse_133 rfl (lv_at hl 0 rfl) ?_
                      refine va_get hx hb hts inX4 hown hK hP 0 (ci := 4) (C := RX4) (T := TX4) (N := 18) rfl rfl 15 (by decide) (hts _ rw_406) (fun _ h => h) (v := .ref (q 10)) rfl dX4_reverse_134 ?_
                      refine lv_iload_n hx hb dX4_reverse_137 rfl (lv_at hl 2 rfl) ?_
                      refine rs_lald hx hb hK hP 10 1 rfl rfl (i := y9) (by omega) (by decide) (v := vl y9) rfl dX4_reverse_138 ?_
                      refine rs_last hx hb hK hP hD hS 6 1 rfl rfl (i := ((24 * ax) + y9)) (by omega) (by decide) dX4_reverse_139 (ws' := wM aI aJ aL q dd dp dk dx dy dw dn g tm (vp_updL (rs_rvk pz (24 * ax + y9)) ((24 * ax) + y9) (vl y9)) tk nn vn vt po vl ea la) rfl (fun H locs hP hD hS => ?_)
                      refine lv_iinc hx hb dX4_reverse_140 hl (k := 2) rfl (v := nI (y9 + 1)) (rs_inc _ _) (by decide) (lv' := [(2, .int (nI (y9 + 1))), (0, .ref (q 0)), (1, .int (nI ax))]) rfl (fun ls hl => ?_)
                      refine lv_goto hx hb dX4_reverse_143 (tgt := 117) rfl ?_
                      exact ih_117 (y9 + 1) _ _ _ (by omega) (by omega) (lv_sub hl [1, 2, 0] rfl) (by rw [show rs_rvk pz (24 * ax + (y9 + 1)) = vp_updL (rs_rvk pz (24 * ax + y9)) (24 * ax + y9) (vl y9) from rs_rvk_s (c := 24 * ax + y9) rfl (by omega) (hva _ (by omega))]; exact hP) (by rw [show rs_rvk pz (24 * ax + (y9 + 1)) = vp_updL (rs_rvk pz (24 * ax + y9)) (24 * ax + y9) (vl y9) from rs_rvk_s (c := 24 * ax + y9) rfl (by omega) (hva _ (by omega))]; exact hD) hS
                exact L_117 ((24 - 0) + 1) 0 _ _ _ (Nat.lt_succ_self _) (by omega) (lv_sub hl [1, 2, 0] rfl) hP hD hS
              · have h_21 : j < 6 := Nat.lt_of_not_le (fun z => h_21 ((nI_leI (by omega) (by omega)).2 z))
                refine lv_iconst hx hb dX4_reverse_24 (v := nI 0) (by decide) ?_
                refine lv_istore_n hx hb dX4_reverse_25 rfl hl (lv' := [(3, .int (nI 0)), (0, .ref (q 0)), (1, .int (nI ax)), (2, .int (nI j))]) (by decide) rfl (fun ls hl => ?_)
                have L_26 : ∀ (k_26 : Nat) (d : Nat) (vl : Nat → Int64) (H : Heap) (locs : List Loc) (ls : Array Slot), 4 - d < k_26 → (d ≤ 4) → (∀ y, y < 4 * j + d → vl y = rs_rv pz ax y) → lv_has ls 7 [(0, .ref (q 0)), (1, .int (nI ax)), (2, .int (nI j)), (3, .int (nI d))] → va_P D vwCl (wM aI aJ aL q dd dp dk dx dy dw dn g tm (rs_rvk pz (24 * ax)) tk nn vn vt po vl ea la) H → va_D A (wM aI aJ aL q dd dp dk dx dy dw dn g tm (rs_rvk pz (24 * ax)) tk nn vn vt po vl ea la) → va_S A s.heap H locs → W p l e rm_X4_reverse s m args below meth c H locs 0 0 Q (F0 m 26 ls []) := by
                  intro k_26
                  induction k_26 with
                  | zero => intro d vl H locs ls hk_26; exact absurd hk_26 (Nat.not_lt_zero _)
                  | succ k_26 ih_26 =>
                    intro d vl H locs ls hk_26 hd hva hl hP hD hS
                    refine lv_iload_n hx hb dX4_reverse_26 rfl (lv_at hl 3 rfl) ?_
                    refine lv_iconst hx hb dX4_reverse_27 (v := nI 4) (by decide) ?_
                    refine lv_icmp_ge hx hb dX4_reverse_28 (tgt := 109) rfl (fun h_28 => ?_) (fun h_28 => ?_)
                    · have h_28 : 4 ≤ d := (nI_leI (by omega) (by omega)).1 h_28
                      refine lv_iinc hx hb dX4_reverse_109 hl (k := 2) rfl (v := nI (j + 1)) (rs_inc _ _) (by decide) (lv' := [(2, .int (nI (j + 1))), (0, .ref (q 0)), (1, .int (nI ax)), (3, .int (nI d))]) rfl (fun ls hl => ?_)
                      refine lv_goto hx hb dX4_reverse_112 (tgt := 18) rfl ?_
                      exact ih_18 (j + 1) vl _ _ _ (by omega) (by omega) (fun y hy => hva y (by omega)) (lv_sub hl [1, 2, 0] rfl) hP hD hS
                    · have h_28 : d < 4 := Nat.lt_of_not_le (fun z => h_28 ((nI_leI (by omega) (by omega)).2 z))
                      refine lv_lconst hx hb dX4_reverse_31 (v := 0) (by decide) ?_
                      refine lv_lstore hx hb dX4_reverse_32 hl (lv' := [(4, .long 0), (0, .ref (q 0)), (1, .int (nI ax)), (2, .int (nI j)), (3, .int (nI d))]) (by decide) rfl (fun ls hl => ?_)
                      refine lv_iload_n hx hb dX4_reverse_34 rfl (lv_at hl 4 rfl) ?_
                      refine lv_istore hx hb dX4_reverse_35 hl (lv' := [(6, .int (nI d)), (4, .long 0), (0, .ref (q 0)), (1, .int (nI ax)), (2, .int (nI j)), (3, .int (nI d))]) (by decide) rfl (fun ls hl => ?_)
                      have L_37 : ∀ (k_37 : Nat) (w : Nat) (H : Heap) (locs : List Loc) (ls : Array Slot), 4 - d - w < k_37 → (w ≤ 4 - d) → lv_has ls 7 [(0, .ref (q 0)), (1, .int (nI ax)), (2, .int (nI j)), (3, .int (nI d)), (4, .long (rs_su pz (24 * ax + 4 * (5 - j)) d w)), (6, .int (nI (d + w)))] → va_P D vwCl (wM aI aJ aL q dd dp dk dx dy dw dn g tm (rs_rvk pz (24 * ax)) tk nn vn vt po vl ea la) H → va_D A (wM aI aJ aL q dd dp dk dx dy dw dn g tm (rs_rvk pz (24 * ax)) tk nn vn vt po vl ea la) → va_S A s.heap H locs → W p l e rm_X4_reverse s m args below meth c H locs 0 0 Q (F0 m 37 ls []) := by
                        intro k_37
                        induction k_37 with
                        | zero => intro w H locs ls hk_37; exact absurd hk_37 (Nat.not_lt_zero _)
                        | succ k_37 ih_37 =>
                          intro w H locs ls hk_37 hw hl hP hD hS
                          refine lv_iload hx hb dX4_reverse_37 (lv_at hl 5 rfl) ?_
                          refine lv_iconst hx hb dX4_reverse_39 (v := nI 4) (by decide) ?_
                          refine lv_icmp_ge hx hb dX4_reverse_40 (tgt := 79) rfl (fun h_40 => ?_) (fun h_40 => ?_)
                          · have h_40 : 4 ≤ (d + w) := (nI_leI (by omega) (by omega)).1 h_40
                            refine lv_aload_n hx hb dX4_reverse_79 rfl (lv_at hl 0 rfl) ?_
                            refine va_get hx hb hts inX4 hown hK hP 0 (ci := 4) (C := RX4) (T := TX4) (N := 18) rfl rfl 15 (by decide) (hts _ rw_406) (fun _ h => h) (v := .ref (q 10)) rfl dX4_reverse_80 ?_
                            refine lv_iconst hx hb dX4_reverse_83 (v := nI 4) (by decide) ?_
                            refine lv_iload_n hx hb dX4_reverse_84 rfl (lv_at hl 2 rfl) ?_
                            refine rs_imul hx hb dX4_reverse_85 (v := nI (4 * j)) (pk_mul _ _) ?_
                            refine lv_iload_n hx hb dX4_reverse_86 rfl (lv_at hl 3 rfl) ?_
                            refine rs_iadd hx hb dX4_reverse_87 (v := nI ((4 * j) + d)) (nI_add _ _) ?_
                            refine lv_iload_n hx hb dX4_reverse_88 rfl (lv_at hl 3 rfl) ?_
                            refine lv_iconst hx hb dX4_reverse_89 (v := nI 2) (by decide) ?_
                            refine rs_irem hx hb dX4_reverse_90 (nI_ne0 (by omega) (by omega)) (v := nI (d % 2)) (pk_rem (by omega) (by omega) (by omega)) ?_
                            refine lv_if_ne hx hb dX4_reverse_91 (tgt := 99) rfl (fun h_91 => ?_) (fun h_91 => ?_)
                            · have h_91 : 0 < (d % 2) := rs_z2 (by omega) h_91
                              refine lv_lload hx hb dX4_reverse_99 (lv_at hl 4 rfl) ?_
                              refine lv_lneg hx hb dX4_reverse_101 ?_
                              refine rs_last hx hb hK hP hD hS 10 1 rfl rfl (i := ((4 * j) + d)) (by omega) (by decide) dX4_reverse_102 (ws' := wM aI aJ aL q dd dp dk dx dy dw dn g tm (rs_rvk pz (24 * ax)) tk nn vn vt po (vp_updL vl ((4 * j) + d) (-(rs_su pz (24 * ax + 4 * (5 - j)) d w))) ea la) rfl (fun H locs hP hD hS => ?_)
                              refine lv_iinc hx hb dX4_reverse_103 hl (k := 3) rfl (v := nI (d + 1)) (rs_inc _ _) (by decide) (lv' := [(3, .int (nI (d + 1))), (0, .ref (q 0)), (1, .int (nI ax)), (2, .int (nI j)), (4, .long (rs_su pz (24 * ax + 4 * (5 - j)) d w)), (6, .int (nI (d + w)))]) rfl (fun ls hl => ?_)
                              refine lv_goto hx hb dX4_reverse_106 (tgt := 26) rfl ?_
                              exact ih_26 (d + 1) (vp_updL vl ((4 * j) + d) (-(rs_su pz (24 * ax + 4 * (5 - j)) d w))) _ _ _ (by omega) (by omega) (rs_rv_s (by omega) hva (by rw [show w = 4 - d by omega]; first | exact (if_pos h_91).symm | exact (if_neg (by omega)).symm) rfl) (lv_sub hl [1, 2, 3, 0] rfl) hP hD hS
                            · have h_91 : (d % 2) = 0 := rs_z1 (by omega) h_91
                              refine lv_lload hx hb dX4_reverse_94 (lv_at hl 4 rfl) ?_
                              refine lv_goto hx hb dX4_reverse_96 (tgt := 102) rfl ?_
                              refine rs_last hx hb hK hP hD hS 10 1 rfl rfl (i := ((4 * j) + d)) (by omega) (by decide) dX4_reverse_102 (ws' := wM aI aJ aL q dd dp dk dx dy dw dn g tm (rs_rvk pz (24 * ax)) tk nn vn vt po (vp_updL vl ((4 * j) + d) (rs_su pz (24 * ax + 4 * (5 - j)) d w)) ea la) rfl (fun H locs hP hD hS => ?_)
                              refine lv_iinc hx hb dX4_reverse_103 hl (k := 3) rfl (v := nI (d + 1)) (rs_inc _ _) (by decide) (lv' := [(3, .int (nI (d + 1))), (0, .ref (q 0)), (1, .int (nI ax)), (2, .int (nI j)), (4, .long (rs_su pz (24 * ax + 4 * (5 - j)) d w)), (6, .int (nI (d + w)))]) rfl (fun ls hl => ?_)
                              refine lv_goto hx hb dX4_reverse_106 (tgt := 26) rfl ?_
                              exact ih_26 (d + 1) (vp_updL vl ((4 * j) + d) (rs_su pz (24 * ax + 4 * (5 - j)) d w)) _ _ _ (by omega) (by omega) (rs_rv_s (by omega) hva (by rw [show w = 4 - d by omega]; first | exact (if_pos h_91).symm | exact (if_neg (by omega)).symm) rfl) (lv_sub hl [1, 2, 3, 0] rfl) hP hD hS
                          · have h_40 : (d + w) < 4 := Nat.lt_of_not_le (fun z => h_40 ((nI_leI (by omega) (by omega)).2 z))
                            refine lv_lload hx hb dX4_reverse_43 (lv_at hl 4 rfl) ?_
                            refine lv_iload hx hb dX4_reverse_45 (lv_at hl 5 rfl) ?_
                            refine lv_iload_n hx hb dX4_reverse_47 rfl (lv_at hl 3 rfl) ?_
                            refine rs_cSL (rest := [.long (rs_su pz (24 * ax + 4 * (5 - j)) d w)]) (wr := (wM aI aJ aL q dd dp dk dx dy dw dn g tm (rs_rvk pz (24 * ax)) tk nn vn vt po vl ea la)) (ws' := fun u_48 => wM aI aJ aL q dd dp dk dx dy dw dn g tm (rs_rvk pz (24 * ax)) tk nn vn vt po vl ea la) ⟨hx, hb, hml, hown, hts⟩ (c_X4_choose l D aI aJ aL _ (d + w) d (by omega) (by omega)) (cwS 2 hts (rs_gS rw_496 rw_497 rw_5 rw_498) rfl rfl rfl (by decide +kernel) ⟨Nat.le_of_ble_eq_true rfl, Nat.le_of_ble_eq_true rfl⟩) hK hN hP hD hS hA [] [0, 1, 2, 3, 4, 5, 6, 7, 8, 9, 10, 11, 12] [0, 1, 2, 3, 4, 5, 6, 7, 8, 9, 10, 11, 12] (by decide) rfl rfl (fun _ => rfl) hl.1 rfl rfl (Nat.le_of_ble_eq_true rfl) dX4_reverse_48 ⟨Nat.le_refl _, Nat.le_refl _⟩ (fun u_48 H locs hP hD hS => ?_)
                            have hP : va_P D vwCl (wM aI aJ aL q dd dp dk dx dy dw dn g tm (rs_rvk pz (24 * ax)) tk nn vn vt po vl ea la) H := hP
                            have hD : va_D A (wM aI aJ aL q dd dp dk dx dy dw dn g tm (rs_rvk pz (24 * ax)) tk nn vn vt po vl ea la) := hD
                            refine lv_aload_n hx hb dX4_reverse_51 rfl (lv_at hl 0 rfl) ?_
                            refine va_get hx hb hts inX4 hown hK hP 0 (ci := 4) (C := RX4) (T := TX4) (N := 18) rfl rfl 9 (by decide) (hts _ rw_400) (fun _ h => h) (v := .ref (q 6)) rfl dX4_reverse_52 ?_
                            refine lv_bipush hx hb dX4_reverse_55 (v := nI 24) (by decide) ?_
                            refine lv_iload_n hx hb dX4_reverse_57 rfl (lv_at hl 1 rfl) ?_
                            refine rs_imul hx hb dX4_reverse_58 (v := nI (24 * ax)) (pk_mul _ _) ?_
                            refine lv_iconst hx hb dX4_reverse_59 (v := nI 4) (by decide) ?_
                            refine lv_iconst hx hb dX4_reverse_60 (v := nI 5) (by decide) ?_
                            refine lv_iload_n hx hb dX4_reverse_61 rfl (lv_at hl 2 rfl) ?_
                            refine rs_isub hx hb dX4_reverse_62 (v := nI (5 - j)) (pk_sub (by omega)) ?_
                            refine rs_imul hx hb dX4_reverse_63 (v := nI (4 * (5 - j))) (pk_mul _ _) ?_
                            refine rs_iadd hx hb dX4_reverse_64 (v := nI ((24 * ax) + (4 * (5 - j)))) (nI_add _ _) ?_
                            refine lv_iload hx hb dX4_reverse_65 (lv_at hl 5 rfl) ?_
                            refine rs_iadd hx hb dX4_reverse_67 (v := nI (((24 * ax) + (4 * (5 - j))) + (d + w))) (nI_add _ _) ?_
                            refine rs_lald hx hb hK hP 6 1 rfl rfl (i := (((24 * ax) + (4 * (5 - j))) + (d + w))) (by omega) (by decide) (v := pz (24 * ax + 4 * (5 - j) + (d + w))) (rs_rvk_g (by omega)) dX4_reverse_68 ?_
                            refine lv_lmul hx hb dX4_reverse_69 ?_
                            refine lv_ladd hx hb dX4_reverse_70 ?_
                            refine lv_lstore hx hb dX4_reverse_71 hl (lv' := [(4, .long ((rs_su pz (24 * ax + 4 * (5 - j)) d w) + ((rs_ch (d + w) d) * (pz (24 * ax + 4 * (5 - j) + (d + w)))))), (0, .ref (q 0)), (1, .int (nI ax)), (2, .int (nI j)), (3, .int (nI d)), (6, .int (nI (d + w)))]) (by decide) rfl (fun ls hl => ?_)
                            refine lv_iinc hx hb dX4_reverse_73 hl (k := 5) rfl (v := nI ((d + w) + 1)) (rs_inc _ _) (by decide) (lv' := [(6, .int (nI ((d + w) + 1))), (4, .long ((rs_su pz (24 * ax + 4 * (5 - j)) d w) + ((rs_ch (d + w) d) * (pz (24 * ax + 4 * (5 - j) + (d + w)))))), (0, .ref (q 0)), (1, .int (nI ax)), (2, .int (nI j)), (3, .int (nI d))]) rfl (fun ls hl => ?_)
                            refine lv_goto hx hb dX4_reverse_76 (tgt := 37) rfl ?_
                            exact ih_37 (w + 1) _ _ _ (by omega) (by omega) (lv_sub hl [2, 3, 4, 5, 1, 0] rfl) hP hD hS
                      exact L_37 ((4 - d - 0) + 1) 0 _ _ _ (Nat.lt_succ_self _) (by omega) (lv_sub hl [2, 3, 4, 5, 1, 0] rfl) hP hD hS
                exact L_26 ((4 - 0) + 1) 0 vl _ _ _ (Nat.lt_succ_self _) (Nat.zero_le _) (fun y hy => hva y (by omega)) (lv_sub hl [1, 2, 3, 0] rfl) hP hD hS
          exact L_18 ((6 - 0) + 1) 0 vl _ _ _ (Nat.lt_succ_self _) (Nat.zero_le _) (fun y hy => absurd hy (by omega)) (lv_sub hl [1, 2, 0] rfl) hP hD hS
    exact L_11 ((3 - 0) + 1) 0 vl _ _ _ (Nat.lt_succ_self _) (Nat.zero_le _) (lv_sub hl [1, 0] rfl) (by rw [show rs_rvk pz (24 * 0) = pz from rs_rvk_0 pz]; exact hP) (by rw [show rs_rvk pz (24 * 0) = pz from rs_rvk_0 pz]; exact hD) hS
  · have h_4 : g = 0 := rs_z1 (by omega) h_4
    omega

def rm_X4_reverseF : Room := { frames := 2, cells := 0, slots := 0, locals := 152 }
set_option maxHeartbeats 4000000 in
set_option maxRecDepth 100000 in
theorem c_X4_reverseF (l : Launch) (D : va_G) (aI aJ aL : ClassId) (sz : Nat) (q : Nat → Nat) (dd : Nat) (dp : Nat) (dk : Nat) (dx : Nat → Int32) (dy : Nat → Int32) (dw : Nat → Int32) (dn : Nat → Nat) (g : Nat) (tm : Nat → Nat) (pz : Nat → Int64) (tk : Nat → Nat) (nn : Nat) (vn : Nat) (vt : Nat → Nat) (po : Nat → Int64) (vl : Nat → Int64) (ea : Nat → Nat) (la : Nat → Nat) (hF : g = 0) : rs_MI (S := Unit) l yX4_reverse (Cond.code yX4_reverse prog_6_method_20_code 7 (some .boolean) :: rsW) rm_X4_reverseF D vwCl (rs_tys aI aJ aL) rs_nw [.ref (q 0)] (wM aI aJ aL q dd dp dk dx dy dw dn g tm pz tk nn vn vt po vl ea la) sz (nI 0) (fun uu => wM aI aJ aL q dd dp dk dx dy dw dn g tm pz tk nn vn vt po vl ea la) := by
  refine rs_ent (cc := cX4_reverse) (maxL := 7) (ret := some .boolean) (Qc := rs_QI D vwCl _ _ _) (by decide) rfl (Nat.le_of_ble_eq_true rfl) ?_
  intro p e s m args below meth c ls A Q hx hb hr hml hlk hts hown hin hK hN hP hD hS hA hQ hl
  have hl : lv_has ls 7 [(0, .ref (q 0))] := hl
  refine lv_aload_n hx hb dX4_reverse_0 rfl (lv_at hl 0 rfl) ?_
  refine va_get hx hb hts inX4 hown hK hP 0 (ci := 4) (C := RX4) (T := TX4) (N := 18) rfl rfl 7 (by decide) (hts _ rw_398) (fun _ h => h) (v := .int (nI g)) rfl dX4_reverse_1 ?_
  refine lv_if_ne hx hb dX4_reverse_4 (tgt := 9) rfl (fun h_4 => ?_) (fun h_4 => ?_)
  · have h_4 : 0 < g := rs_z2 (by omega) h_4
    omega
  · have h_4 : g = 0 := rs_z1 (by omega) h_4
    refine lv_iconst hx hb dX4_reverse_7 (v := nI 0) (by decide) ?_
    exact rs_iret () hx hb hr hlk hQ hK hP hD hS (by decide) rfl rfl dX4_reverse_8

def rm_X4_removeA : Room := { frames := 3, cells := 0, slots := 0, locals := 251 }
set_option maxHeartbeats 4000000 in
set_option maxRecDepth 100000 in
theorem c_X4_removeA (l : Launch) (D : va_G) (aI aJ aL : ClassId) (sz : Nat) (q : Nat → Nat) (dd : Nat) (dp : Nat) (dk : Nat) (dx : Nat → Int32) (dy : Nat → Int32) (dw : Nat → Int32) (dn : Nat → Nat) (g : Nat) (tm : Nat → Nat) (pz : Nat → Int64) (tk : Nat → Nat) (vn : Nat) (vt : Nat → Nat) (po : Nat → Int64) (vl : Nat → Int64) (ea : Nat → Nat) (la : Nat → Nat) (k : Nat) (hg : g ≤ 3) (hg1 : 1 ≤ g) (htk : ∀ i, tk i ≤ 6) (htm : ∀ j, tm j ≤ g) (hk1 : 1 ≤ k) (hk5 : k ≤ 5) (htv : ∀ i, i < rs_cu g tm 6 + (g + 1) → tk i = rs_val (rs_cu g tm) i) : rs_MI (S := {x : Nat → Nat // (∀ i, x i ≤ 6) ∧ ∀ i, i < rs_cu g (rs_t1 pz g k tm) 6 + (g + 1) → x i = rs_val (rs_cu g (rs_t1 pz g k tm)) i}) l yX4_remove (Cond.code yX4_remove prog_6_method_16_code 2 (some .boolean) :: rsW) rm_X4_removeA D vwCl (rs_tys aI aJ aL) rs_nw [.ref (q 0), .int (nI k)] (wM aI aJ aL q dd dp dk dx dy dw dn g tm pz tk (rs_cu g tm 6) vn vt po vl ea la) sz (rs_b (decide (rs_okt pz g tm k))) (fun uu => wM aI aJ aL q dd dp dk dx dy dw dn g (rs_t1 pz g k tm) pz uu.1 (rs_cu g (rs_t1 pz g k tm) 6) vn vt po vl ea la) := by
  refine rs_ent (cc := cX4_remove) (maxL := 2) (ret := some .boolean) (Qc := rs_QI D vwCl _ _ _) (by decide) rfl (Nat.le_of_ble_eq_true rfl) ?_
  intro p e s m args below meth c ls A Q hx hb hr hml hlk hts hown hin hK hN hP hD hS hA hQ hl
  have hl : lv_has ls 2 [(0, .ref (q 0)), (1, .int (nI k))] := hl
  refine lv_aload_n hx hb dX4_remove_0 rfl (lv_at hl 0 rfl) ?_
  refine va_get hx hb hts inX4 hown hK hP 0 (ci := 4) (C := RX4) (T := TX4) (N := 18) rfl rfl 7 (by decide) (hts _ rw_398) (fun _ h => h) (v := .int (nI g)) rfl dX4_remove_1 ?_
  refine lv_if_eq hx hb dX4_remove_4 (tgt := 26) rfl (fun h_4 => ?_) (fun h_4 => ?_)
  · have h_4 : g = 0 := rs_z1 (by omega) h_4
    omega
  · have h_4 : 0 < g := rs_z2 (by omega) h_4
    refine lv_iload_n hx hb dX4_remove_7 rfl (lv_at hl 1 rfl) ?_
    refine lv_iconst hx hb dX4_remove_8 (v := nI 1) (by decide) ?_
    refine lv_icmp_lt hx hb dX4_remove_9 (tgt := 26) rfl (fun h_9 => ?_) (fun h_9 => ?_)
    · have h_9 : k < 1 := (nI_ltI (by omega) (by omega)).1 h_9
      omega
    · have h_9 : 1 ≤ k := Nat.le_of_not_lt (fun z => h_9 ((nI_ltI (by omega) (by omega)).2 z))
      refine lv_iload_n hx hb dX4_remove_12 rfl (lv_at hl 1 rfl) ?_
      refine lv_iconst hx hb dX4_remove_13 (v := nI 5) (by decide) ?_
      refine lv_icmp_gt hx hb dX4_remove_14 (tgt := 26) rfl (fun h_14 => ?_) (fun h_14 => ?_)
      · have h_14 : 5 < k := (nI_ltI (by omega) (by omega)).1 h_14
        omega
      · have h_14 : k ≤ 5 := Nat.le_of_not_lt (fun z => h_14 ((nI_ltI (by omega) (by omega)).2 z))
        refine lv_aload_n hx hb dX4_remove_17 rfl (lv_at hl 0 rfl) ?_
        refine va_get hx hb hts inX4 hown hK hP 0 (ci := 4) (C := RX4) (T := TX4) (N := 18) rfl rfl 8 (by decide) (hts _ rw_399) (fun _ h => h) (v := .ref (q 5)) rfl dX4_remove_18 ?_
        refine lv_iload_n hx hb dX4_remove_21 rfl (lv_at hl 1 rfl) ?_
        have hb7 := htm k
        refine rs_iald hx hb hK hP 5 0 rfl rfl (i := k) (by omega) (by decide) (v := nI (tm k)) rfl dX4_remove_22 ?_
        refine lv_if_ne hx hb dX4_remove_23 (tgt := 28) rfl (fun h_23 => ?_) (fun h_23 => ?_)
        · have h_23 : 0 < (tm k) := rs_z2 (by omega) h_23
          refine lv_aload_n hx hb dX4_remove_28 rfl (lv_at hl 0 rfl) ?_
          refine lv_iload_n hx hb dX4_remove_29 rfl (lv_at hl 1 rfl) ?_
          refine lv_aload_n hx hb dX4_remove_30 rfl (lv_at hl 0 rfl) ?_
          refine va_get hx hb hts inX4 hown hK hP 0 (ci := 4) (C := RX4) (T := TX4) (N := 18) rfl rfl 7 (by decide) (hts _ rw_398) (fun _ h => h) (v := .int (nI g)) rfl dX4_remove_31 ?_
          refine lv_aload_n hx hb dX4_remove_34 rfl (lv_at hl 0 rfl) ?_
          refine va_get hx hb hts inX4 hown hK hP 0 (ci := 4) (C := RX4) (T := TX4) (N := 18) rfl rfl 8 (by decide) (hts _ rw_399) (fun _ h => h) (v := .ref (q 5)) rfl dX4_remove_35 ?_
          refine lv_iload_n hx hb dX4_remove_38 rfl (lv_at hl 1 rfl) ?_
          refine rs_iald hx hb hK hP 5 0 rfl rfl (i := k) (by omega) (by decide) (v := nI (tm k)) rfl dX4_remove_39 ?_
          refine rs_isub hx hb dX4_remove_40 (v := nI (g - (tm k))) (pk_sub (by omega)) ?_
          refine lv_iconst hx hb dX4_remove_41 (v := nI 2) (by decide) ?_
          refine rs_iadd hx hb dX4_remove_42 (v := nI ((g - (tm k)) + 2)) (nI_add _ _) ?_
          refine rs_cVI (rest := []) (wr := []) (ws' := fun u_43 => wM aI aJ aL q dd dp dk dx dy dw dn g tm pz tk (rs_cu g tm 6) vn vt po vl ea la) ⟨hx, hb, hml, hown, hts⟩ (c_X4_smooth l D aI aJ aL _ q dd dp dk dx dy dw dn g tm pz tk (rs_cu g tm 6) vn vt po vl ea la k ((g - (tm k)) + 2) hk1 hk5 (by omega)) (cwV 2 hts (rs_gV rw_492 rw_494 rv_18 rw_5 rw_495) rfl rfl rfl (by decide +kernel) ⟨Nat.le_of_ble_eq_true rfl, Nat.le_of_ble_eq_true rfl⟩) hK hN hP hD hS hA [0, 1, 2, 3, 4, 5, 6, 7, 8, 9, 10, 11, 12] [] [0, 1, 2, 3, 4, 5, 6, 7, 8, 9, 10, 11, 12] (by decide) rfl rfl (fun _ => rfl) 0 rfl rfl hl.1 rfl rfl (Nat.le_of_ble_eq_true rfl) dX4_remove_43 ⟨Nat.le_refl _, Nat.le_refl _⟩ (fun u_43 H locs hP hD hS => ?_)
          have hP : va_P D vwCl (wM aI aJ aL q dd dp dk dx dy dw dn g tm pz tk (rs_cu g tm 6) vn vt po vl ea la) H := hP
          have hD : va_D A (wM aI aJ aL q dd dp dk dx dy dw dn g tm pz tk (rs_cu g tm 6) vn vt po vl ea la) := hD
          refine lv_if_ne hx hb dX4_remove_46 (tgt := 51) rfl (fun h_46 => ?_) (fun h_46 => ?_)
          · have h_46 : (decide (rs_smo pz k ((g - (tm k)) + 2))) = true := rs_bn h_46
            refine lv_aload_n hx hb dX4_remove_51 rfl (lv_at hl 0 rfl) ?_
            refine va_get hx hb hts inX4 hown hK hP 0 (ci := 4) (C := RX4) (T := TX4) (N := 18) rfl rfl 8 (by decide) (hts _ rw_399) (fun _ h => h) (v := .ref (q 5)) rfl dX4_remove_52 ?_
            refine lv_iload_n hx hb dX4_remove_55 rfl (lv_at hl 1 rfl) ?_
            refine lv_dup2_11 hx hb dX4_remove_56 rfl rfl ?_
            refine rs_iald hx hb hK hP 5 0 rfl rfl (i := k) (by omega) (by decide) (v := nI (tm k)) rfl dX4_remove_57 ?_
            refine lv_iconst hx hb dX4_remove_58 (v := nI 1) (by decide) ?_
            refine rs_isub hx hb dX4_remove_59 (v := nI ((tm k) - 1)) (pk_sub (by omega)) ?_
            refine rs_iast hx hb hK hP hD hS 5 0 rfl rfl (i := k) (by omega) (by decide) (rs_upI _ _ _) dX4_remove_60 (ws' := wM aI aJ aL q dd dp dk dx dy dw dn g (rs_up tm k ((tm k) - 1)) pz tk (rs_cu g tm 6) vn vt po vl ea la) rfl (fun H locs hP hD hS => ?_)
            refine lv_aload_n hx hb dX4_remove_61 rfl (lv_at hl 0 rfl) ?_
            refine rs_cVV (rest := []) (wr := []) (ws' := fun u_62 => wM aI aJ aL q dd dp dk dx dy dw dn g (rs_up tm k ((tm k) - 1)) pz u_62.1 (rs_cu g (rs_up tm k ((tm k) - 1)) 6) vn vt po vl ea la) ⟨hx, hb, hml, hown, hts⟩ (c_X4_layKnots l D aI aJ aL _ q dd dp dk dx dy dw dn g (rs_up tm k ((tm k) - 1)) pz tk (rs_cu g tm 6) vn vt po vl ea la hg htk (rs_c7_b hg (rs_up_dec htm))) (cwV 0 hts (rs_gV rw_462 rw_464 rv_13 rw_5 rw_465) rfl rfl rfl (by decide +kernel) ⟨Nat.le_of_ble_eq_true rfl, Nat.le_of_ble_eq_true rfl⟩) hK hN hP hD hS hA [0, 1, 2, 3, 4, 5, 6, 7, 8, 9, 10, 11, 12] [] [0, 1, 2, 3, 4, 5, 6, 7, 8, 9, 10, 11, 12] (by decide) rfl rfl (fun _ => rfl) 0 rfl rfl hl.1 rfl rfl (Nat.le_of_ble_eq_true rfl) dX4_remove_62 ⟨Nat.le_refl _, Nat.le_refl _⟩ (fun u_62 H locs hP hD hS => ?_)
            have hP : va_P D vwCl (wM aI aJ aL q dd dp dk dx dy dw dn g (rs_up tm k ((tm k) - 1)) pz u_62.1 (rs_cu g (rs_up tm k ((tm k) - 1)) 6) vn vt po vl ea la) H := hP
            have hD : va_D A (wM aI aJ aL q dd dp dk dx dy dw dn g (rs_up tm k ((tm k) - 1)) pz u_62.1 (rs_cu g (rs_up tm k ((tm k) - 1)) 6) vn vt po vl ea la) := hD
            refine lv_aload_n hx hb dX4_remove_65 rfl (lv_at hl 0 rfl) ?_
            refine rs_cVI (rest := []) (wr := []) (ws' := fun u_66 => wM aI aJ aL q dd dp dk dx dy dw dn g (rs_up tm k ((tm k) - 1)) pz u_62.1 (rs_cu g (rs_up tm k ((tm k) - 1)) 6) vn vt po vl ea la) ⟨hx, hb, hml, hown, hts⟩ (c_X4_weighty l D aI aJ aL _ q dd dp dk dx dy dw dn g (rs_up tm k ((tm k) - 1)) pz u_62.1 (rs_cu g (rs_up tm k ((tm k) - 1)) 6) vn vt po vl ea la hg1 hg (rs_cu6_b hg (rs_up_dec htm)) (fun i hi => by rw [u_62.2.1 i (by omega)]; exact rs_val_5 hi)) (cwV 0 hts (rs_gV rw_499 rw_501 rv_19 rw_5 rw_502) rfl rfl rfl (by decide +kernel) ⟨Nat.le_of_ble_eq_true rfl, Nat.le_of_ble_eq_true rfl⟩) hK hN hP hD hS hA [0, 1, 2, 3, 4, 5, 6, 7, 8, 9, 10, 11, 12] [] [0, 1, 2, 3, 4, 5, 6, 7, 8, 9, 10, 11, 12] (by decide) rfl rfl (fun _ => rfl) 0 rfl rfl hl.1 rfl rfl (Nat.le_of_ble_eq_true rfl) dX4_remove_66 ⟨Nat.le_refl _, Nat.le_refl _⟩ (fun u_66 H locs hP hD hS => ?_)
            have hP : va_P D vwCl (wM aI aJ aL q dd dp dk dx dy dw dn g (rs_up tm k ((tm k) - 1)) pz u_62.1 (rs_cu g (rs_up tm k ((tm k) - 1)) 6) vn vt po vl ea la) H := hP
            have hD : va_D A (wM aI aJ aL q dd dp dk dx dy dw dn g (rs_up tm k ((tm k) - 1)) pz u_62.1 (rs_cu g (rs_up tm k ((tm k) - 1)) 6) vn vt po vl ea la) := hD
            refine lv_if_eq hx hb dX4_remove_69 (tgt := 74) rfl (fun h_69 => ?_) (fun h_69 => ?_)
            · have h_69 : (decide (∀ i, i < (rs_cu g (rs_up tm k ((tm k) - 1)) 6) → 0 < rs_co pz u_62.1 g i 2)) = false := rs_bz h_69
              refine lv_aload_n hx hb dX4_remove_74 rfl (lv_at hl 0 rfl) ?_
              refine va_get hx hb hts inX4 hown hK hP 0 (ci := 4) (C := RX4) (T := TX4) (N := 18) rfl rfl 8 (by decide) (hts _ rw_399) (fun _ h => h) (v := .ref (q 5)) rfl dX4_remove_75 ?_
              refine lv_iload_n hx hb dX4_remove_78 rfl (lv_at hl 1 rfl) ?_
              refine lv_dup2_11 hx hb dX4_remove_79 rfl rfl ?_
              have hb8 := rs_up_dec (k := k) htm k
              refine rs_iald hx hb hK hP 5 0 rfl rfl (i := k) (by omega) (by decide) (v := nI ((rs_up tm k ((tm k) - 1)) k)) rfl dX4_remove_80 ?_
              refine lv_iconst hx hb dX4_remove_81 (v := nI 1) (by decide) ?_
              refine rs_iadd hx hb dX4_remove_82 (v := nI (((rs_up tm k ((tm k) - 1)) k) + 1)) (nI_add _ _) ?_
              refine rs_iast hx hb hK hP hD hS 5 0 rfl rfl (i := k) (by omega) (by decide) (rs_upI _ _ _) dX4_remove_83 (ws' := wM aI aJ aL q dd dp dk dx dy dw dn g (rs_up (rs_up tm k ((tm k) - 1)) k (((rs_up tm k ((tm k) - 1)) k) + 1)) pz u_62.1 (rs_cu g (rs_up tm k ((tm k) - 1)) 6) vn vt po vl ea la) rfl (fun H locs hP hD hS => ?_)
              have hP : va_P D vwCl (wM aI aJ aL q dd dp dk dx dy dw dn g tm pz u_62.1 (rs_cu g (rs_up tm k ((tm k) - 1)) 6) vn vt po vl ea la) H := (by rw [rs_up_bk h_23] at hP; exact hP)
              have hD : va_D A (wM aI aJ aL q dd dp dk dx dy dw dn g tm pz u_62.1 (rs_cu g (rs_up tm k ((tm k) - 1)) 6) vn vt po vl ea la) := (by rw [rs_up_bk h_23] at hD; exact hD)
              refine lv_aload_n hx hb dX4_remove_84 rfl (lv_at hl 0 rfl) ?_
              refine rs_cVV (rest := []) (wr := []) (ws' := fun u_85 => wM aI aJ aL q dd dp dk dx dy dw dn g tm pz u_85.1 (rs_cu g tm 6) vn vt po vl ea la) ⟨hx, hb, hml, hown, hts⟩ (c_X4_layKnots l D aI aJ aL _ q dd dp dk dx dy dw dn g tm pz u_62.1 (rs_cu g (rs_up tm k ((tm k) - 1)) 6) vn vt po vl ea la hg u_62.2.2 (rs_c7_b hg htm)) (cwV 0 hts (rs_gV rw_462 rw_464 rv_13 rw_5 rw_465) rfl rfl rfl (by decide +kernel) ⟨Nat.le_of_ble_eq_true rfl, Nat.le_of_ble_eq_true rfl⟩) hK hN hP hD hS hA [0, 1, 2, 3, 4, 5, 6, 7, 8, 9, 10, 11, 12] [] [0, 1, 2, 3, 4, 5, 6, 7, 8, 9, 10, 11, 12] (by decide) rfl rfl (fun _ => rfl) 0 rfl rfl hl.1 rfl rfl (Nat.le_of_ble_eq_true rfl) dX4_remove_85 ⟨Nat.le_refl _, Nat.le_refl _⟩ (fun u_85 H locs hP hD hS => ?_)
              have hP : va_P D vwCl (wM aI aJ aL q dd dp dk dx dy dw dn g tm pz u_85.1 (rs_cu g tm 6) vn vt po vl ea la) H := hP
              have hD : va_D A (wM aI aJ aL q dd dp dk dx dy dw dn g tm pz u_85.1 (rs_cu g tm 6) vn vt po vl ea la) := hD
              refine lv_iconst hx hb dX4_remove_88 (v := nI 0) (by decide) ?_
              have hno : ¬ (rs_okt pz g tm k) := fun z => of_decide_eq_false h_69 ((rs_okd_w u_62.2.1).2 z.2.2)
              exact rs_iret ⟨u_85.1, u_85.2.2, by rw [rs_t1_n hno]; exact u_85.2.1⟩ hx hb hr hlk hQ hK hP hD hS (by decide) (rs_bF hno) (by simp only [rs_t1_n hno]) dX4_remove_89
            · have h_69 : (decide (∀ i, i < (rs_cu g (rs_up tm k ((tm k) - 1)) 6) → 0 < rs_co pz u_62.1 g i 2)) = true := rs_bn h_69
              refine lv_iconst hx hb dX4_remove_72 (v := nI 1) (by decide) ?_
              have hok : rs_okt pz g tm k := ⟨h_23, of_decide_eq_true h_46, (rs_okd_w u_62.2.1).1 (of_decide_eq_true h_69)⟩
              exact rs_iret ⟨u_62.1, u_62.2.2, by rw [rs_t1_y hok]; exact u_62.2.1⟩ hx hb hr hlk hQ hK hP hD hS (by decide) (rs_bT hok) (by simp only [rs_t1_y hok]) dX4_remove_73
          · have h_46 : (decide (rs_smo pz k ((g - (tm k)) + 2))) = false := rs_bz h_46
            refine lv_iconst hx hb dX4_remove_49 (v := nI 0) (by decide) ?_
            have hno : ¬ (rs_okt pz g tm k) := fun z => of_decide_eq_false h_46 z.2.1
            exact rs_iret ⟨tk, htk, by rw [rs_t1_n hno]; exact htv⟩ hx hb hr hlk hQ hK hP hD hS (by decide) (rs_bF hno) (by simp only [rs_t1_n hno]) dX4_remove_50
        · have h_23 : (tm k) = 0 := rs_z1 (by omega) h_23
          refine lv_iconst hx hb dX4_remove_26 (v := nI 0) (by decide) ?_
          have hno : ¬ (rs_okt pz g tm k) := fun z => absurd z.1 (by omega)
          exact rs_iret ⟨tk, htk, by rw [rs_t1_n hno]; exact htv⟩ hx hb hr hlk hQ hK hP hD hS (by decide) (rs_bF hno) (by simp only [rs_t1_n hno]) dX4_remove_27

def rm_X4_thin : Room := { frames := 4, cells := 0, slots := 0, locals := 336 }
set_option maxHeartbeats 4000000 in
set_option maxRecDepth 100000 in
theorem c_X4_thin (l : Launch) (D : va_G) (aI aJ aL : ClassId) (sz : Nat) (q : Nat → Nat) (dd : Nat) (dp : Nat) (dk : Nat) (dx : Nat → Int32) (dy : Nat → Int32) (dw : Nat → Int32) (dn : Nat → Nat) (g : Nat) (tm : Nat → Nat) (pz : Nat → Int64) (tk : Nat → Nat) (vn : Nat) (vt : Nat → Nat) (po : Nat → Int64) (vl : Nat → Int64) (ea : Nat → Nat) (la : Nat → Nat) (hg : g ≤ 3) (hg1 : 1 ≤ g) (htk : ∀ i, tk i ≤ 6) (htm : ∀ j, tm j ≤ g) (htv : ∀ i, i < rs_cu g (tm) 6 + (g + 1) → tk i = rs_val (rs_cu g (tm)) i) : rs_MI (S := {x : Nat → Nat // (∀ i, x i ≤ 6) ∧ ∀ i, i < rs_cu g ((rs_t5 pz g tm 5).1) 6 + (g + 1) → x i = rs_val (rs_cu g ((rs_t5 pz g tm 5).1)) i}) l yX4_thin (Cond.code yX4_thin prog_6_method_18_code 5 (some .int) :: rsW) rm_X4_thin D vwCl (rs_tys aI aJ aL) rs_nw [.ref (q 0)] (wM aI aJ aL q dd dp dk dx dy dw dn g tm pz tk (rs_cu g tm 6) vn vt po vl ea la) sz (nI ((rs_t5 pz g tm 5).2)) (fun uu => wM aI aJ aL q dd dp dk dx dy dw dn g ((rs_t5 pz g tm 5).1) pz uu.1 (rs_cu g (rs_t5 pz g tm 5).1 6) vn vt po vl ea la) := by
  refine rs_ent (cc := cX4_thin) (maxL := 5) (ret := some .int) (Qc := rs_QI D vwCl _ _ _) (by decide) rfl (Nat.le_of_ble_eq_true rfl) ?_
  intro p e s m args below meth c ls A Q hx hb hr hml hlk hts hown hin hK hN hP hD hS hA hQ hl
  have hl : lv_has ls 5 [(0, .ref (q 0))] := hl
  refine lv_aload_n hx hb dX4_thin_0 rfl (lv_at hl 0 rfl) ?_
  refine va_get hx hb hts inX4 hown hK hP 0 (ci := 4) (C := RX4) (T := TX4) (N := 18) rfl rfl 7 (by decide) (hts _ rw_398) (fun _ h => h) (v := .int (nI g)) rfl dX4_thin_1 ?_
  refine lv_if_ne hx hb dX4_thin_4 (tgt := 9) rfl (fun h_4 => ?_) (fun h_4 => ?_)
  · have h_4 : 0 < g := rs_z2 (by omega) h_4
    refine lv_iconst hx hb dX4_thin_9 (v := nI 0) (by decide) ?_
    refine lv_istore_n hx hb dX4_thin_10 rfl hl (lv' := [(1, .int (nI 0)), (0, .ref (q 0))]) (by decide) rfl (fun ls hl => ?_)
    refine lv_iconst hx hb dX4_thin_11 (v := nI 5) (by decide) ?_
    refine lv_istore_n hx hb dX4_thin_12 rfl hl (lv' := [(2, .int (nI 5)), (1, .int (nI 0)), (0, .ref (q 0))]) (by decide) rfl (fun ls hl => ?_)
    have L_13 : ∀ (k_13 : Nat) (v : Nat) (tk : Nat → Nat) (H : Heap) (locs : List Loc) (ls : Array Slot), 5 - v < k_13 → (v ≤ 5) → (∀ i, tk i ≤ 6) → (∀ i, i < rs_cu g ((rs_t5 pz g tm v).1) 6 + (g + 1) → tk i = rs_val (rs_cu g ((rs_t5 pz g tm v).1)) i) → lv_has ls 5 [(0, .ref (q 0)), (1, .int (nI ((rs_t5 pz g tm v).2))), (2, .int (nI (5 - v)))] → va_P D vwCl (wM aI aJ aL q dd dp dk dx dy dw dn g ((rs_t5 pz g tm v).1) pz tk (rs_cu g (rs_t5 pz g tm v).1 6) vn vt po vl ea la) H → va_D A (wM aI aJ aL q dd dp dk dx dy dw dn g ((rs_t5 pz g tm v).1) pz tk (rs_cu g (rs_t5 pz g tm v).1 6) vn vt po vl ea la) → va_S A s.heap H locs → W p l e rm_X4_thin s m args below meth c H locs 0 0 Q (F0 m 13 ls []) := by
      intro k_13
      induction k_13 with
      | zero => intro v tk H locs ls hk_13; exact absurd hk_13 (Nat.not_lt_zero _)
      | succ k_13 ih_13 =>
        intro v tk H locs ls hk_13 hv htk htv hl hP hD hS
        have h5 := rs_t5_le (pz := pz) (g := g) htm v
        refine lv_iload_n hx hb dX4_thin_13 rfl (lv_at hl 2 rfl) ?_
        refine lv_iconst hx hb dX4_thin_14 (v := nI 1) (by decide) ?_
        refine lv_icmp_lt hx hb dX4_thin_15 (tgt := 57) rfl (fun h_15 => ?_) (fun h_15 => ?_)
        · have h_15 : (5 - v) < 1 := (nI_ltI (by omega) (by omega)).1 h_15
          have hv9 : v = 5 := by omega
          subst hv9
          refine lv_iload_n hx hb dX4_thin_57 rfl (lv_at hl 1 rfl) ?_
          exact rs_iret ⟨tk, htk, htv⟩ hx hb hr hlk hQ hK hP hD hS rfl rfl rfl dX4_thin_58
        · have h_15 : 1 ≤ (5 - v) := Nat.le_of_not_lt (fun z => h_15 ((nI_ltI (by omega) (by omega)).2 z))
          refine lv_iconst hx hb dX4_thin_18 (v := nI 0) (by decide) ?_
          refine lv_istore_n hx hb dX4_thin_19 rfl hl (lv' := [(3, .int (nI 0)), (0, .ref (q 0)), (1, .int (nI ((rs_t5 pz g tm v).2))), (2, .int (nI (5 - v)))]) (by decide) rfl (fun ls hl => ?_)
          have L_20 : ∀ (k_20 : Nat) (w : Nat) (tk : Nat → Nat) (H : Heap) (locs : List Loc) (ls : Array Slot), 3 - w < k_20 → (w ≤ 3) → (∀ i, tk i ≤ 6) → (∀ i, i < rs_cu g ((rs_t3 pz g (5 - v) (rs_t5 pz g tm v).1 w).1) 6 + (g + 1) → tk i = rs_val (rs_cu g ((rs_t3 pz g (5 - v) (rs_t5 pz g tm v).1 w).1)) i) → lv_has ls 5 [(0, .ref (q 0)), (1, .int (nI ((rs_t5 pz g tm v).2 + (rs_t3 pz g (5 - v) (rs_t5 pz g tm v).1 w).2))), (2, .int (nI (5 - v))), (3, .int (nI w))] → va_P D vwCl (wM aI aJ aL q dd dp dk dx dy dw dn g ((rs_t3 pz g (5 - v) (rs_t5 pz g tm v).1 w).1) pz tk (rs_cu g (rs_t3 pz g (5 - v) (rs_t5 pz g tm v).1 w).1 6) vn vt po vl ea la) H → va_D A (wM aI aJ aL q dd dp dk dx dy dw dn g ((rs_t3 pz g (5 - v) (rs_t5 pz g tm v).1 w).1) pz tk (rs_cu g (rs_t3 pz g (5 - v) (rs_t5 pz g tm v).1 w).1 6) vn vt po vl ea la) → va_S A s.heap H locs → W p l e rm_X4_thin s m args below meth c H locs 0 0 Q (F0 m 20 ls []) := by
            intro k_20
            induction k_20 with
            | zero => intro w tk H locs ls hk_20; exact absurd hk_20 (Nat.not_lt_zero _)
            | succ k_20 ih_20 =>
              intro w tk H locs ls hk_20 hw htk htv hl hP hD hS
              have h3 := rs_t3_le (pz := pz) (g := g) (k := 5 - v) h5.1 w
              refine lv_iload_n hx hb dX4_thin_20 rfl (lv_at hl 3 rfl) ?_
              refine lv_iconst hx hb dX4_thin_21 (v := nI 3) (by decide) ?_
              refine lv_icmp_ge hx hb dX4_thin_22 (tgt := 51) rfl (fun h_22 => ?_) (fun h_22 => ?_)
              · have h_22 : 3 ≤ w := (nI_leI (by omega) (by omega)).1 h_22
                refine lv_iinc hx hb dX4_thin_51 hl (k := 2) rfl (v := nI ((5 - v) - 1)) (rs_dec (by omega)) (by decide) (lv' := [(2, .int (nI ((5 - v) - 1))), (0, .ref (q 0)), (1, .int (nI ((rs_t5 pz g tm v).2 + (rs_t3 pz g (5 - v) (rs_t5 pz g tm v).1 w).2))), (3, .int (nI w))]) rfl (fun ls hl => ?_)
                refine lv_goto hx hb dX4_thin_54 (tgt := 13) rfl ?_
                exact ih_13 (v + 1) tk _ _ _ (by omega) (by omega) htk (by have h9 : w = 3 := (by omega); subst h9; exact htv) (by rw [show 5 - (v + 1) = 5 - v - 1 by omega, show (rs_t5 pz g tm (v + 1)).2 = (rs_t5 pz g tm v).2 + (rs_t3 pz g (5 - v) (rs_t5 pz g tm v).1 w).2 by rw [show w = 3 by omega]; rfl]; exact lv_sub hl [1, 2, 0] rfl) (by rw [show (rs_t5 pz g tm (v + 1)).1 = (rs_t3 pz g (5 - v) (rs_t5 pz g tm v).1 w).1 by rw [show w = 3 by omega]; rfl]; exact hP) (by rw [show (rs_t5 pz g tm (v + 1)).1 = (rs_t3 pz g (5 - v) (rs_t5 pz g tm v).1 w).1 by rw [show w = 3 by omega]; rfl]; exact hD) hS
              · have h_22 : w < 3 := Nat.lt_of_not_le (fun z => h_22 ((nI_leI (by omega) (by omega)).2 z))
                refine lv_aload_n hx hb dX4_thin_25 rfl (lv_at hl 0 rfl) ?_
                refine lv_iload_n hx hb dX4_thin_26 rfl (lv_at hl 2 rfl) ?_
                refine rs_cVI (rest := []) (wr := []) (ws' := fun u_27 => wM aI aJ aL q dd dp dk dx dy dw dn g (rs_t1 pz g (5 - v) ((rs_t3 pz g (5 - v) (rs_t5 pz g tm v).1 w).1)) pz u_27.1 (rs_cu g (rs_t1 pz g (5 - v) ((rs_t3 pz g (5 - v) (rs_t5 pz g tm v).1 w).1)) 6) vn vt po vl ea la) ⟨hx, hb, hml, hown, hts⟩ (c_X4_removeA l D aI aJ aL _ q dd dp dk dx dy dw dn g ((rs_t3 pz g (5 - v) (rs_t5 pz g tm v).1 w).1) pz tk vn vt po vl ea la (5 - v) hg hg1 htk h3.1 (by omega) (by omega) htv) (cwV 1 hts (rs_gV rw_517 rw_489 rw_490 rw_5 rw_491) rfl rfl rfl (by decide +kernel) ⟨Nat.le_of_ble_eq_true rfl, Nat.le_of_ble_eq_true rfl⟩) hK hN hP hD hS hA [0, 1, 2, 3, 4, 5, 6, 7, 8, 9, 10, 11, 12] [] [0, 1, 2, 3, 4, 5, 6, 7, 8, 9, 10, 11, 12] (by decide) rfl rfl (fun _ => rfl) 0 rfl rfl hl.1 rfl rfl (Nat.le_of_ble_eq_true rfl) dX4_thin_27 ⟨Nat.le_refl _, Nat.le_refl _⟩ (fun u_27 H locs hP hD hS => ?_)
                have hP : va_P D vwCl (wM aI aJ aL q dd dp dk dx dy dw dn g (rs_t1 pz g (5 - v) ((rs_t3 pz g (5 - v) (rs_t5 pz g tm v).1 w).1)) pz u_27.1 (rs_cu g (rs_t1 pz g (5 - v) ((rs_t3 pz g (5 - v) (rs_t5 pz g tm v).1 w).1)) 6) vn vt po vl ea la) H := hP
                have hD : va_D A (wM aI aJ aL q dd dp dk dx dy dw dn g (rs_t1 pz g (5 - v) ((rs_t3 pz g (5 - v) (rs_t5 pz g tm v).1 w).1)) pz u_27.1 (rs_cu g (rs_t1 pz g (5 - v) ((rs_t3 pz g (5 - v) (rs_t5 pz g tm v).1 w).1)) 6) vn vt po vl ea la) := hD
                refine lv_istore hx hb dX4_thin_30 hl (lv' := [(4, .int (rs_b (decide (rs_okt pz g ((rs_t3 pz g (5 - v) (rs_t5 pz g tm v).1 w).1) (5 - v))))), (0, .ref (q 0)), (1, .int (nI ((rs_t5 pz g tm v).2 + (rs_t3 pz g (5 - v) (rs_t5 pz g tm v).1 w).2))), (2, .int (nI (5 - v))), (3, .int (nI w))]) (by decide) rfl (fun ls hl => ?_)
                refine lv_iload hx hb dX4_thin_32 (lv_at hl 0 rfl) ?_
                refine lv_if_eq hx hb dX4_thin_34 (tgt := 43) rfl (fun h_34 => ?_) (fun h_34 => ?_)
                · have h_34 : (decide (rs_okt pz g ((rs_t3 pz g (5 - v) (rs_t5 pz g tm v).1 w).1) (5 - v))) = false := rs_bz h_34
                  have e_w : (rs_t3 pz g (5 - v) (rs_t5 pz g tm v).1 (w + 1)).2 = (rs_t3 pz g (5 - v) (rs_t5 pz g tm v).1 w).2 := by show _ + _ = _; rw [if_neg (of_decide_eq_false h_34), Nat.add_zero]
                  refine lv_iload_n hx hb dX4_thin_43 rfl (lv_at hl 2 rfl) ?_
                  refine lv_istore_n hx hb dX4_thin_44 rfl hl (lv' := [(1, .int (nI ((rs_t5 pz g tm v).2 + (rs_t3 pz g (5 - v) (rs_t5 pz g tm v).1 w).2))), (4, .int (rs_b (decide (rs_okt pz g ((rs_t3 pz g (5 - v) (rs_t5 pz g tm v).1 w).1) (5 - v))))), (0, .ref (q 0)), (2, .int (nI (5 - v))), (3, .int (nI w))]) (by decide) rfl (fun ls hl => ?_)
                  refine lv_iinc hx hb dX4_thin_45 hl (k := 4) rfl (v := nI (w + 1)) (rs_inc _ _) (by decide) (lv' := [(3, .int (nI (w + 1))), (1, .int (nI ((rs_t5 pz g tm v).2 + (rs_t3 pz g (5 - v) (rs_t5 pz g tm v).1 w).2))), (4, .int (rs_b (decide (rs_okt pz g ((rs_t3 pz g (5 - v) (rs_t5 pz g tm v).1 w).1) (5 - v))))), (0, .ref (q 0)), (2, .int (nI (5 - v)))]) rfl (fun ls hl => ?_)
                  refine lv_goto hx hb dX4_thin_48 (tgt := 20) rfl ?_
                  exact ih_20 (w + 1) _ _ _ _ (by omega) (by omega) u_27.2.1 u_27.2.2 (by rw [e_w]; exact lv_sub hl [3, 1, 4, 0] rfl) hP hD hS
                · have h_34 : (decide (rs_okt pz g ((rs_t3 pz g (5 - v) (rs_t5 pz g tm v).1 w).1) (5 - v))) = true := rs_bn h_34
                  have e_w : (rs_t5 pz g tm v).2 + (rs_t3 pz g (5 - v) (rs_t5 pz g tm v).1 (w + 1)).2 = (rs_t5 pz g tm v).2 + (rs_t3 pz g (5 - v) (rs_t5 pz g tm v).1 w).2 + 1 := by show _ + (_ + _) = _; rw [if_pos (of_decide_eq_true h_34), Nat.add_assoc]
                  refine lv_iload_n hx hb dX4_thin_37 rfl (lv_at hl 2 rfl) ?_
                  refine lv_iconst hx hb dX4_thin_38 (v := nI 1) (by decide) ?_
                  refine rs_iadd hx hb dX4_thin_39 (v := nI (((rs_t5 pz g tm v).2 + (rs_t3 pz g (5 - v) (rs_t5 pz g tm v).1 w).2) + 1)) (nI_add _ _) ?_
                  refine lv_goto hx hb dX4_thin_40 (tgt := 44) rfl ?_
                  refine lv_istore_n hx hb dX4_thin_44 rfl hl (lv' := [(1, .int (nI (((rs_t5 pz g tm v).2 + (rs_t3 pz g (5 - v) (rs_t5 pz g tm v).1 w).2) + 1))), (4, .int (rs_b (decide (rs_okt pz g ((rs_t3 pz g (5 - v) (rs_t5 pz g tm v).1 w).1) (5 - v))))), (0, .ref (q 0)), (2, .int (nI (5 - v))), (3, .int (nI w))]) (by decide) rfl (fun ls hl => ?_)
                  refine lv_iinc hx hb dX4_thin_45 hl (k := 4) rfl (v := nI (w + 1)) (rs_inc _ _) (by decide) (lv' := [(3, .int (nI (w + 1))), (1, .int (nI (((rs_t5 pz g tm v).2 + (rs_t3 pz g (5 - v) (rs_t5 pz g tm v).1 w).2) + 1))), (4, .int (rs_b (decide (rs_okt pz g ((rs_t3 pz g (5 - v) (rs_t5 pz g tm v).1 w).1) (5 - v))))), (0, .ref (q 0)), (2, .int (nI (5 - v)))]) rfl (fun ls hl => ?_)
                  refine lv_goto hx hb dX4_thin_48 (tgt := 20) rfl ?_
                  exact ih_20 (w + 1) _ _ _ _ (by omega) (by omega) u_27.2.1 u_27.2.2 (by rw [e_w]; exact lv_sub hl [3, 1, 4, 0] rfl) hP hD hS
          exact L_20 ((3 - 0) + 1) 0 tk _ _ _ (Nat.lt_succ_self _) (Nat.zero_le _) htk htv (lv_sub hl [1, 2, 3, 0] rfl) hP hD hS
    exact L_13 ((5 - 0) + 1) 0 tk _ _ _ (Nat.lt_succ_self _) (Nat.zero_le _) htk htv (lv_sub hl [2, 1, 0] rfl) hP hD hS
  · have h_4 : g = 0 := rs_z1 (by omega) h_4
    omega

def rm_X4_thinF : Room := { frames := 4, cells := 0, slots := 0, locals := 336 }
set_option maxHeartbeats 4000000 in
set_option maxRecDepth 100000 in
theorem c_X4_thinF (l : Launch) (D : va_G) (aI aJ aL : ClassId) (sz : Nat) (q : Nat → Nat) (dd : Nat) (dp : Nat) (dk : Nat) (dx : Nat → Int32) (dy : Nat → Int32) (dw : Nat → Int32) (dn : Nat → Nat) (g : Nat) (tm : Nat → Nat) (pz : Nat → Int64) (tk : Nat → Nat) (nn : Nat) (vn : Nat) (vt : Nat → Nat) (po : Nat → Int64) (vl : Nat → Int64) (ea : Nat → Nat) (la : Nat → Nat) (hF : g = 0) : rs_MI (S := Unit) l yX4_thin (Cond.code yX4_thin prog_6_method_18_code 5 (some .int) :: rsW) rm_X4_thinF D vwCl (rs_tys aI aJ aL) rs_nw [.ref (q 0)] (wM aI aJ aL q dd dp dk dx dy dw dn g tm pz tk nn vn vt po vl ea la) sz ((-1)) (fun uu => wM aI aJ aL q dd dp dk dx dy dw dn g tm pz tk nn vn vt po vl ea la) := by
  refine rs_ent (cc := cX4_thin) (maxL := 5) (ret := some .int) (Qc := rs_QI D vwCl _ _ _) (by decide) rfl (Nat.le_of_ble_eq_true rfl) ?_
  intro p e s m args below meth c ls A Q hx hb hr hml hlk hts hown hin hK hN hP hD hS hA hQ hl
  have hl : lv_has ls 5 [(0, .ref (q 0))] := hl
  refine lv_aload_n hx hb dX4_thin_0 rfl (lv_at hl 0 rfl) ?_
  refine va_get hx hb hts inX4 hown hK hP 0 (ci := 4) (C := RX4) (T := TX4) (N := 18) rfl rfl 7 (by decide) (hts _ rw_398) (fun _ h => h) (v := .int (nI g)) rfl dX4_thin_1 ?_
  refine lv_if_ne hx hb dX4_thin_4 (tgt := 9) rfl (fun h_4 => ?_) (fun h_4 => ?_)
  · have h_4 : 0 < g := rs_z2 (by omega) h_4
    omega
  · have h_4 : g = 0 := rs_z1 (by omega) h_4
    refine lv_iconst hx hb dX4_thin_7 (v := (-1)) (by decide) ?_
    exact rs_iret () hx hb hr hlk hQ hK hP hD hS rfl rfl rfl dX4_thin_8
