def rm_X4_mix : Room := { frames := 1, cells := 0, slots := 0, locals := 64 }
set_option maxHeartbeats 4000000 in
set_option maxRecDepth 100000 in
theorem c_X4_mix (l : Launch) (D : va_G) (aI aJ aL : ClassId) (sz : Nat) (q : Nat → Nat) (dd : Nat) (dp : Nat) (dk : Nat) (dx : Nat → Int32) (dy : Nat → Int32) (dw : Nat → Int32) (dn : Nat → Nat) (g : Nat) (tm : Nat → Nat) (pz : Nat → Int64) (tk : Nat → Nat) (nn : Nat) (vn : Nat) (vt : Nat → Nat) (po : Nat → Int64) (vl : Nat → Int64) (ea : Nat → Nat) (la : Nat → Nat) (i : Nat) (q9 : Nat) (j : Nat) (hi : i ≤ 18) (hq : q9 ≤ 3) (hj : j ≤ 6) : rs_MV (S := {x : Nat → Int64 // (∀ d, d < 4 → x (4 * i + d) = rs_mx po (rs_fA tk i q9) (rs_fB tk i q9) (rs_mU tk i j) (rs_mD tk i q9 j) i d) ∧ ∀ y, (y < 4 * i ∨ 4 * i + 4 ≤ y) → x y = po y}) l yX4_mix (Cond.code yX4_mix prog_6_method_10_code 23 none :: rsW) rm_X4_mix D vwCl (rs_tys aI aJ aL) rs_nw [.ref (q 0), .int (nI i), .int (nI q9), .int (nI j)] (wM aI aJ aL q dd dp dk dx dy dw dn g tm pz tk nn vn vt po vl ea la) sz (fun uu => wM aI aJ aL q dd dp dk dx dy dw dn g tm pz tk nn vn vt uu.1 vl ea la) := by
  refine rs_ent (cc := cX4_mix) (maxL := 23) (ret := none) (Qc := rs_QV D vwCl _ _) (by decide) rfl (Nat.le_of_ble_eq_true rfl) ?_
  intro p e s m args below meth c ls A Q hx hb hr hml hlk hts hown hin hK hN hP hD hS hA hQ hl
  have hl : lv_has ls 23 [(0, .ref (q 0)), (1, .int (nI i)), (2, .int (nI q9)), (3, .int (nI j))] := hl
  refine lv_aload_n hx hb dX4_mix_0 rfl (lv_at hl 0 rfl) ?_
  refine va_get hx hb hts inX4 hown hK hP 0 (ci := 4) (C := RX4) (T := TX4) (N := 18) rfl rfl 10 (by decide) (hts _ rw_401) (fun _ h => h) (v := .ref (q 7)) rfl dX4_mix_1 ?_
  refine lv_iload_n hx hb dX4_mix_4 rfl (lv_at hl 1 rfl) ?_
  refine lv_iload_n hx hb dX4_mix_5 rfl (lv_at hl 2 rfl) ?_
  refine rs_iadd hx hb dX4_mix_6 (v := nI (i + q9)) (nI_add _ _) ?_
  refine rs_iald hx hb hK hP 7 0 rfl rfl (i := (i + q9)) (by omega) (by decide) (v := nI (tk (i + q9))) rfl dX4_mix_7 ?_
  refine lv_aload_n hx hb dX4_mix_8 rfl (lv_at hl 0 rfl) ?_
  refine va_get hx hb hts inX4 hown hK hP 0 (ci := 4) (C := RX4) (T := TX4) (N := 18) rfl rfl 10 (by decide) (hts _ rw_401) (fun _ h => h) (v := .ref (q 7)) rfl dX4_mix_9 ?_
  refine lv_iload_n hx hb dX4_mix_12 rfl (lv_at hl 1 rfl) ?_
  refine rs_iald hx hb hK hP 7 0 rfl rfl (i := i) (by omega) (by decide) (v := nI (tk i)) rfl dX4_mix_13 ?_
  refine rs_isub hx hb dX4_mix_14 (v := (nI (tk (i + q9)) - nI (tk i))) rfl ?_
  refine lv_istore hx hb dX4_mix_15 hl (lv' := [(4, .int (nI (tk (i + q9)) - nI (tk i))), (0, .ref (q 0)), (1, .int (nI i)), (2, .int (nI q9)), (3, .int (nI j))]) (by decide) rfl (fun ls hl => ?_)
  refine lv_aload_n hx hb dX4_mix_17 rfl (lv_at hl 1 rfl) ?_
  refine va_get hx hb hts inX4 hown hK hP 0 (ci := 4) (C := RX4) (T := TX4) (N := 18) rfl rfl 10 (by decide) (hts _ rw_401) (fun _ h => h) (v := .ref (q 7)) rfl dX4_mix_18 ?_
  refine lv_iload_n hx hb dX4_mix_21 rfl (lv_at hl 2 rfl) ?_
  refine lv_iload_n hx hb dX4_mix_22 rfl (lv_at hl 3 rfl) ?_
  refine rs_iadd hx hb dX4_mix_23 (v := nI (i + q9)) (nI_add _ _) ?_
  refine lv_iconst hx hb dX4_mix_24 (v := nI 1) (by decide) ?_
  refine rs_iadd hx hb dX4_mix_25 (v := nI ((i + q9) + 1)) (nI_add _ _) ?_
  refine rs_iald hx hb hK hP 7 0 rfl rfl (i := ((i + q9) + 1)) (by omega) (by decide) (v := nI (tk ((i + q9) + 1))) rfl dX4_mix_26 ?_
  refine lv_aload_n hx hb dX4_mix_27 rfl (lv_at hl 1 rfl) ?_
  refine va_get hx hb hts inX4 hown hK hP 0 (ci := 4) (C := RX4) (T := TX4) (N := 18) rfl rfl 10 (by decide) (hts _ rw_401) (fun _ h => h) (v := .ref (q 7)) rfl dX4_mix_28 ?_
  refine lv_iload_n hx hb dX4_mix_31 rfl (lv_at hl 2 rfl) ?_
  refine lv_iconst hx hb dX4_mix_32 (v := nI 1) (by decide) ?_
  refine rs_iadd hx hb dX4_mix_33 (v := nI (i + 1)) (nI_add _ _) ?_
  refine rs_iald hx hb hK hP 7 0 rfl rfl (i := (i + 1)) (by omega) (by decide) (v := nI (tk (i + 1))) rfl dX4_mix_34 ?_
  refine rs_isub hx hb dX4_mix_35 (v := (nI (tk ((i + q9) + 1)) - nI (tk (i + 1)))) rfl ?_
  refine lv_istore hx hb dX4_mix_36 hl (lv' := [(5, .int (nI (tk ((i + q9) + 1)) - nI (tk (i + 1)))), (4, .int (nI (tk (i + q9)) - nI (tk i))), (0, .ref (q 0)), (1, .int (nI i)), (2, .int (nI q9)), (3, .int (nI j))]) (by decide) rfl (fun ls hl => ?_)
  refine lv_iload hx hb dX4_mix_38 (lv_at hl 1 rfl) ?_
  have L_53 : ∀ (fa : Int64) (H : Heap) (locs : List Loc) (ls : Array Slot), (fa = rs_fA tk i q9) → lv_has ls 23 [(0, .ref (q 0)), (1, .int (nI i)), (2, .int (nI q9)), (3, .int (nI j)), (5, .int (nI (tk (i + q9 + 1)) - nI (tk (i + 1))))] → va_P D vwCl (wM aI aJ aL q dd dp dk dx dy dw dn g tm pz tk nn vn vt po vl ea la) H → va_D A (wM aI aJ aL q dd dp dk dx dy dw dn g tm pz tk nn vn vt po vl ea la) → va_S A s.heap H locs → W p l e rm_X4_mix s m args below meth c H locs 0 0 Q (F0 m 53 ls [.long fa]) := by
    intro fa H locs ls hfa hl hP hD hS
    refine lv_lstore hx hb dX4_mix_53 hl (lv' := [(6, .long fa), (0, .ref (q 0)), (1, .int (nI i)), (2, .int (nI q9)), (3, .int (nI j)), (5, .int (nI (tk (i + q9 + 1)) - nI (tk (i + 1))))]) (by decide) rfl (fun ls hl => ?_)
    refine lv_iload hx hb dX4_mix_55 (lv_at hl 5 rfl) ?_
    have L_70 : ∀ (fb : Int64) (H : Heap) (locs : List Loc) (ls : Array Slot), (fb = rs_fB tk i q9) → lv_has ls 23 [(0, .ref (q 0)), (1, .int (nI i)), (2, .int (nI q9)), (3, .int (nI j)), (6, .long fa)] → va_P D vwCl (wM aI aJ aL q dd dp dk dx dy dw dn g tm pz tk nn vn vt po vl ea la) H → va_D A (wM aI aJ aL q dd dp dk dx dy dw dn g tm pz tk nn vn vt po vl ea la) → va_S A s.heap H locs → W p l e rm_X4_mix s m args below meth c H locs 0 0 Q (F0 m 70 ls [.long fb]) := by
      intro fb H locs ls hfb hl hP hD hS
      refine lv_lstore hx hb dX4_mix_70 hl (lv' := [(8, .long fb), (0, .ref (q 0)), (1, .int (nI i)), (2, .int (nI q9)), (3, .int (nI j)), (6, .long fa)]) (by decide) rfl (fun ls hl => ?_)
      refine lv_iload_n hx hb dX4_mix_72 rfl (lv_at hl 4 rfl) ?_
      refine lv_aload_n hx hb dX4_mix_73 rfl (lv_at hl 1 rfl) ?_
      refine va_get hx hb hts inX4 hown hK hP 0 (ci := 4) (C := RX4) (T := TX4) (N := 18) rfl rfl 10 (by decide) (hts _ rw_401) (fun _ h => h) (v := .ref (q 7)) rfl dX4_mix_74 ?_
      refine lv_iload_n hx hb dX4_mix_77 rfl (lv_at hl 2 rfl) ?_
      refine rs_iald hx hb hK hP 7 0 rfl rfl (i := i) (by omega) (by decide) (v := nI (tk i)) rfl dX4_mix_78 ?_
      refine rs_isub hx hb dX4_mix_79 (v := (nI j - nI (tk i))) rfl ?_
      refine lv_i2l hx hb dX4_mix_80 (v := ((nI j - nI (tk i))).toInt64) rfl ?_
      refine lv_lstore hx hb dX4_mix_81 hl (lv' := [(10, .long (((nI j - nI (tk i))).toInt64)), (8, .long fb), (0, .ref (q 0)), (1, .int (nI i)), (2, .int (nI q9)), (3, .int (nI j)), (6, .long fa)]) (by decide) rfl (fun ls hl => ?_)
      refine lv_aload_n hx hb dX4_mix_83 rfl (lv_at hl 2 rfl) ?_
      refine va_get hx hb hts inX4 hown hK hP 0 (ci := 4) (C := RX4) (T := TX4) (N := 18) rfl rfl 10 (by decide) (hts _ rw_401) (fun _ h => h) (v := .ref (q 7)) rfl dX4_mix_84 ?_
      refine lv_iload_n hx hb dX4_mix_87 rfl (lv_at hl 3 rfl) ?_
      refine lv_iload_n hx hb dX4_mix_88 rfl (lv_at hl 4 rfl) ?_
      refine rs_iadd hx hb dX4_mix_89 (v := nI (i + q9)) (nI_add _ _) ?_
      refine lv_iconst hx hb dX4_mix_90 (v := nI 1) (by decide) ?_
      refine rs_iadd hx hb dX4_mix_91 (v := nI ((i + q9) + 1)) (nI_add _ _) ?_
      refine rs_iald hx hb hK hP 7 0 rfl rfl (i := ((i + q9) + 1)) (by omega) (by decide) (v := nI (tk ((i + q9) + 1))) rfl dX4_mix_92 ?_
      refine lv_iload_n hx hb dX4_mix_93 rfl (lv_at hl 5 rfl) ?_
      refine rs_isub hx hb dX4_mix_94 (v := (nI (tk ((i + q9) + 1)) - nI j)) rfl ?_
      refine lv_i2l hx hb dX4_mix_95 (v := ((nI (tk ((i + q9) + 1)) - nI j)).toInt64) rfl ?_
      refine lv_lstore hx hb dX4_mix_96 hl (lv' := [(12, .long (((nI (tk ((i + q9) + 1)) - nI j)).toInt64)), (10, .long (((nI j - nI (tk i))).toInt64)), (8, .long fb), (0, .ref (q 0)), (1, .int (nI i)), (2, .int (nI q9)), (3, .int (nI j)), (6, .long fa)]) (by decide) rfl (fun ls hl => ?_)
      refine lv_iconst hx hb dX4_mix_98 (v := nI 3) (by decide) ?_
      refine lv_istore hx hb dX4_mix_99 hl (lv' := [(14, .int (nI 3)), (12, .long (((nI (tk ((i + q9) + 1)) - nI j)).toInt64)), (10, .long (((nI j - nI (tk i))).toInt64)), (8, .long fb), (0, .ref (q 0)), (1, .int (nI i)), (2, .int (nI q9)), (3, .int (nI j)), (6, .long fa)]) (by decide) rfl (fun ls hl => ?_)
      have L_101 : ∀ (k_101 : Nat) (c9 : Nat) (px : Nat → Int64) (H : Heap) (locs : List Loc) (ls : Array Slot), c9 < k_101 → (c9 ≤ 4) → (∀ d, c9 ≤ d → d < 4 → px (4 * i + d) = rs_mx po fa fb (rs_mU tk i j) (rs_mD tk i q9 j) i d) → (∀ y, (y < 4 * i + c9 ∨ 4 * i + 4 ≤ y) → px y = po y) → lv_has ls 23 [(0, .ref (q 0)), (1, .int (nI i)), (6, .long fa), (8, .long fb), (10, .long (rs_mU tk i j)), (12, .long (rs_mD tk i q9 j)), (14, .int (rs_dm c9))] → va_P D vwCl (wM aI aJ aL q dd dp dk dx dy dw dn g tm pz tk nn vn vt px vl ea la) H → va_D A (wM aI aJ aL q dd dp dk dx dy dw dn g tm pz tk nn vn vt px vl ea la) → va_S A s.heap H locs → W p l e rm_X4_mix s m args below meth c H locs 0 0 Q (F0 m 101 ls []) := by
        intro k_101
        induction k_101 with
        | zero => intro c9 px H locs ls hk_101; exact absurd hk_101 (Nat.not_lt_zero _)
        | succ k_101 ih_101 =>
          intro c9 px H locs ls hk_101 hc hm hk hl hP hD hS
          refine lv_iload hx hb dX4_mix_101 (lv_at hl 6 rfl) ?_
          refine lv_if_lt hx hb dX4_mix_103 (tgt := 224) rfl (fun h_103 => ?_) (fun h_103 => ?_)
          · skip
            exact rs_vret ⟨px, by have h9 := rs_dm_z hc h_103; subst h9; subst hfa; subst hfb; exact ⟨fun d hd => hm d (Nat.zero_le _) hd, hk⟩⟩ hx hb hr hlk hQ hK hP hD hS rfl dX4_mix_224
          · skip
            obtain ⟨d, rfl⟩ : ∃ d, c9 = d + 1 := ⟨c9 - 1, by have := rs_dm_p h_103; omega⟩
            have hl : lv_has ls 23 [(0, .ref (q 0)), (1, .int (nI i)), (6, .long fa), (8, .long fb), (10, .long (rs_mU tk i j)), (12, .long (rs_mD tk i q9 j)), (14, .int (nI d))] := (by rw [rs_dm_s] at hl; exact hl)
            refine lv_iload hx hb dX4_mix_106 (lv_at hl 6 rfl) ?_
            have L_128 : ∀ (l1 : Int64) (H : Heap) (locs : List Loc) (ls : Array Slot), (l1 = rs_lo px (4 * i) d) → lv_has ls 23 [(0, .ref (q 0)), (1, .int (nI i)), (6, .long fa), (8, .long fb), (10, .long (rs_mU tk i j)), (12, .long (rs_mD tk i q9 j)), (14, .int (nI d))] → va_P D vwCl (wM aI aJ aL q dd dp dk dx dy dw dn g tm pz tk nn vn vt px vl ea la) H → va_D A (wM aI aJ aL q dd dp dk dx dy dw dn g tm pz tk nn vn vt px vl ea la) → va_S A s.heap H locs → W p l e rm_X4_mix s m args below meth c H locs 0 0 Q (F0 m 128 ls [.long l1]) := by
              intro l1 H locs ls hla hl hP hD hS
              refine lv_lstore hx hb dX4_mix_128 hl (lv' := [(15, .long l1), (0, .ref (q 0)), (1, .int (nI i)), (6, .long fa), (8, .long fb), (10, .long (rs_mU tk i j)), (12, .long (rs_mD tk i q9 j)), (14, .int (nI d))]) (by decide) rfl (fun ls hl => ?_)
              refine lv_iload hx hb dX4_mix_130 (lv_at hl 7 rfl) ?_
              have L_154 : ∀ (l2 : Int64) (H : Heap) (locs : List Loc) (ls : Array Slot), (l2 = rs_lo px (4 * i + 4) d) → lv_has ls 23 [(0, .ref (q 0)), (1, .int (nI i)), (6, .long fa), (8, .long fb), (10, .long (rs_mU tk i j)), (12, .long (rs_mD tk i q9 j)), (14, .int (nI d)), (15, .long l1)] → va_P D vwCl (wM aI aJ aL q dd dp dk dx dy dw dn g tm pz tk nn vn vt px vl ea la) H → va_D A (wM aI aJ aL q dd dp dk dx dy dw dn g tm pz tk nn vn vt px vl ea la) → va_S A s.heap H locs → W p l e rm_X4_mix s m args below meth c H locs 0 0 Q (F0 m 154 ls [.long l2]) := by
                intro l2 H locs ls hlb hl hP hD hS
                refine lv_lstore hx hb dX4_mix_154 hl (lv' := [(17, .long l2), (0, .ref (q 0)), (1, .int (nI i)), (6, .long fa), (8, .long fb), (10, .long (rs_mU tk i j)), (12, .long (rs_mD tk i q9 j)), (14, .int (nI d)), (15, .long l1)]) (by decide) rfl (fun ls hl => ?_)
                refine lv_lload hx hb dX4_mix_156 (lv_at hl 5 rfl) ?_
                refine lv_aload_n hx hb dX4_mix_158 rfl (lv_at hl 1 rfl) ?_
                refine va_get hx hb hts inX4 hown hK hP 0 (ci := 4) (C := RX4) (T := TX4) (N := 18) rfl rfl 14 (by decide) (hts _ rw_405) (fun _ h => h) (v := .ref (q 9)) rfl dX4_mix_159 ?_
                refine lv_iconst hx hb dX4_mix_162 (v := nI 4) (by decide) ?_
                refine lv_iload_n hx hb dX4_mix_163 rfl (lv_at hl 2 rfl) ?_
                refine rs_imul hx hb dX4_mix_164 (v := nI (4 * i)) (pk_mul _ _) ?_
                refine lv_iload hx hb dX4_mix_165 (lv_at hl 7 rfl) ?_
                refine rs_iadd hx hb dX4_mix_167 (v := nI ((4 * i) + d)) (nI_add _ _) ?_
                refine rs_lald hx hb hK hP 9 1 rfl rfl (i := ((4 * i) + d)) (by omega) (by decide) (v := px ((4 * i) + d)) rfl dX4_mix_168 ?_
                refine lv_lmul hx hb dX4_mix_169 ?_
                refine lv_lload hx hb dX4_mix_170 (lv_at hl 8 rfl) ?_
                refine lv_ladd hx hb dX4_mix_172 ?_
                refine lv_lstore hx hb dX4_mix_173 hl (lv' := [(19, .long (((rs_mU tk i j) * (px ((4 * i) + d))) + l1)), (17, .long l2), (0, .ref (q 0)), (1, .int (nI i)), (6, .long fa), (8, .long fb), (10, .long (rs_mU tk i j)), (12, .long (rs_mD tk i q9 j)), (14, .int (nI d)), (15, .long l1)]) (by decide) rfl (fun ls hl => ?_)
                refine lv_lload hx hb dX4_mix_175 (lv_at hl 7 rfl) ?_
                refine lv_aload_n hx hb dX4_mix_177 rfl (lv_at hl 2 rfl) ?_
                refine va_get hx hb hts inX4 hown hK hP 0 (ci := 4) (C := RX4) (T := TX4) (N := 18) rfl rfl 14 (by decide) (hts _ rw_405) (fun _ h => h) (v := .ref (q 9)) rfl dX4_mix_178 ?_
                refine lv_iconst hx hb dX4_mix_181 (v := nI 4) (by decide) ?_
                refine lv_iload_n hx hb dX4_mix_182 rfl (lv_at hl 3 rfl) ?_
                refine rs_imul hx hb dX4_mix_183 (v := nI (4 * i)) (pk_mul _ _) ?_
                refine lv_iconst hx hb dX4_mix_184 (v := nI 4) (by decide) ?_
                refine rs_iadd hx hb dX4_mix_185 (v := nI ((4 * i) + 4)) (nI_add _ _) ?_
                refine lv_iload hx hb dX4_mix_186 (lv_at hl 8 rfl) ?_
                refine rs_iadd hx hb dX4_mix_188 (v := nI (((4 * i) + 4) + d)) (nI_add _ _) ?_
                refine rs_lald hx hb hK hP 9 1 rfl rfl (i := (((4 * i) + 4) + d)) (by omega) (by decide) (v := px (((4 * i) + 4) + d)) rfl dX4_mix_189 ?_
                refine lv_lmul hx hb dX4_mix_190 ?_
                refine lv_lload hx hb dX4_mix_191 (lv_at hl 1 rfl) ?_
                refine lv_lsub hx hb dX4_mix_193 ?_
                refine lv_lstore hx hb dX4_mix_194 hl (lv' := [(21, .long (((rs_mD tk i q9 j) * (px (((4 * i) + 4) + d))) - l2)), (19, .long (((rs_mU tk i j) * (px ((4 * i) + d))) + l1)), (17, .long l2), (0, .ref (q 0)), (1, .int (nI i)), (6, .long fa), (8, .long fb), (10, .long (rs_mU tk i j)), (12, .long (rs_mD tk i q9 j)), (14, .int (nI d)), (15, .long l1)]) (by decide) rfl (fun ls hl => ?_)
                refine lv_aload_n hx hb dX4_mix_196 rfl (lv_at hl 3 rfl) ?_
                refine va_get hx hb hts inX4 hown hK hP 0 (ci := 4) (C := RX4) (T := TX4) (N := 18) rfl rfl 14 (by decide) (hts _ rw_405) (fun _ h => h) (v := .ref (q 9)) rfl dX4_mix_197 ?_
                refine lv_iconst hx hb dX4_mix_200 (v := nI 4) (by decide) ?_
                refine lv_iload_n hx hb dX4_mix_201 rfl (lv_at hl 4 rfl) ?_
                refine rs_imul hx hb dX4_mix_202 (v := nI (4 * i)) (pk_mul _ _) ?_
                refine lv_iload hx hb dX4_mix_203 (lv_at hl 9 rfl) ?_
                refine rs_iadd hx hb dX4_mix_205 (v := nI ((4 * i) + d)) (nI_add _ _) ?_
                refine lv_lload hx hb dX4_mix_206 (lv_at hl 5 rfl) ?_
                refine lv_lload hx hb dX4_mix_208 (lv_at hl 1 rfl) ?_
                refine lv_lmul hx hb dX4_mix_210 ?_
                refine lv_lload hx hb dX4_mix_211 (lv_at hl 6 rfl) ?_
                refine lv_lload hx hb dX4_mix_213 (lv_at hl 0 rfl) ?_
                refine lv_lmul hx hb dX4_mix_215 ?_
                refine lv_ladd hx hb dX4_mix_216 ?_
                refine rs_last hx hb hK hP hD hS 9 1 rfl rfl (i := ((4 * i) + d)) (by omega) (by decide) dX4_mix_217 (ws' := wM aI aJ aL q dd dp dk dx dy dw dn g tm pz tk nn vn vt (vp_updL px ((4 * i) + d) ((fa * (((rs_mU tk i j) * (px ((4 * i) + d))) + l1)) + (fb * (((rs_mD tk i q9 j) * (px (((4 * i) + 4) + d))) - l2)))) vl ea la) rfl (fun H locs hP hD hS => ?_)
                refine lv_iinc hx hb dX4_mix_218 hl (k := 9) rfl (v := rs_dm d) (rs_dm_i d) (by decide) (lv' := [(14, .int (rs_dm d)), (21, .long (((rs_mD tk i q9 j) * (px (((4 * i) + 4) + d))) - l2)), (19, .long (((rs_mU tk i j) * (px ((4 * i) + d))) + l1)), (17, .long l2), (0, .ref (q 0)), (1, .int (nI i)), (6, .long fa), (8, .long fb), (10, .long (rs_mU tk i j)), (12, .long (rs_mD tk i q9 j)), (15, .long l1)]) rfl (fun ls hl => ?_)
                refine lv_goto hx hb dX4_mix_221 (tgt := 101) rfl ?_
                exact ih_101 d _ _ _ _ (by omega) (by omega) (rs_mx_s (by omega) hla hlb hm hk).1 (rs_mx_s (by omega) hla hlb hm hk).2 (lv_sub hl [4, 5, 6, 7, 8, 9, 0] rfl) hP hD hS
              refine lv_if_ne hx hb dX4_mix_132 (tgt := 139) rfl (fun h_132 => ?_) (fun h_132 => ?_)
              · have h_132 : 0 < d := rs_z2 (by omega) h_132
                refine lv_aload_n hx hb dX4_mix_139 rfl (lv_at hl 1 rfl) ?_
                refine va_get hx hb hts inX4 hown hK hP 0 (ci := 4) (C := RX4) (T := TX4) (N := 18) rfl rfl 14 (by decide) (hts _ rw_405) (fun _ h => h) (v := .ref (q 9)) rfl dX4_mix_140 ?_
                refine lv_iconst hx hb dX4_mix_143 (v := nI 4) (by decide) ?_
                refine lv_iload_n hx hb dX4_mix_144 rfl (lv_at hl 2 rfl) ?_
                refine rs_imul hx hb dX4_mix_145 (v := nI (4 * i)) (pk_mul _ _) ?_
                refine lv_iconst hx hb dX4_mix_146 (v := nI 4) (by decide) ?_
                refine rs_iadd hx hb dX4_mix_147 (v := nI ((4 * i) + 4)) (nI_add _ _) ?_
                refine lv_iload hx hb dX4_mix_148 (lv_at hl 7 rfl) ?_
                refine rs_iadd hx hb dX4_mix_150 (v := nI (((4 * i) + 4) + d)) (nI_add _ _) ?_
                refine lv_iconst hx hb dX4_mix_151 (v := nI 1) (by decide) ?_
                refine rs_isub hx hb dX4_mix_152 (v := nI ((((4 * i) + 4) + d) - 1)) (pk_sub (by omega)) ?_
                refine rs_lald hx hb hK hP 9 1 rfl rfl (i := ((((4 * i) + 4) + d) - 1)) (by omega) (by decide) (v := px ((((4 * i) + 4) + d) - 1)) rfl dX4_mix_153 ?_
                exact L_154 _ _ _ _ (by first | exact (if_pos h_132).symm | exact (if_neg (by omega)).symm) (lv_sub hl [1, 2, 3, 4, 5, 6, 7, 0] rfl) hP hD hS
              · have h_132 : d = 0 := rs_z1 (by omega) h_132
                refine lv_lconst hx hb dX4_mix_135 (v := 0) (by decide) ?_
                refine lv_goto hx hb dX4_mix_136 (tgt := 154) rfl ?_
                exact L_154 _ _ _ _ (by first | exact (if_pos h_132).symm | exact (if_neg (by omega)).symm) (lv_sub hl [1, 2, 3, 4, 5, 6, 7, 0] rfl) hP hD hS
            refine lv_if_ne hx hb dX4_mix_108 (tgt := 115) rfl (fun h_108 => ?_) (fun h_108 => ?_)
            · have h_108 : 0 < d := rs_z2 (by omega) h_108
              refine lv_aload_n hx hb dX4_mix_115 rfl (lv_at hl 0 rfl) ?_
              refine va_get hx hb hts inX4 hown hK hP 0 (ci := 4) (C := RX4) (T := TX4) (N := 18) rfl rfl 14 (by decide) (hts _ rw_405) (fun _ h => h) (v := .ref (q 9)) rfl dX4_mix_116 ?_
              refine lv_iconst hx hb dX4_mix_119 (v := nI 4) (by decide) ?_
              refine lv_iload_n hx hb dX4_mix_120 rfl (lv_at hl 1 rfl) ?_
              refine rs_imul hx hb dX4_mix_121 (v := nI (4 * i)) (pk_mul _ _) ?_
              refine lv_iload hx hb dX4_mix_122 (lv_at hl 6 rfl) ?_
              refine rs_iadd hx hb dX4_mix_124 (v := nI ((4 * i) + d)) (nI_add _ _) ?_
              refine lv_iconst hx hb dX4_mix_125 (v := nI 1) (by decide) ?_
              refine rs_isub hx hb dX4_mix_126 (v := nI (((4 * i) + d) - 1)) (pk_sub (by omega)) ?_
              refine rs_lald hx hb hK hP 9 1 rfl rfl (i := (((4 * i) + d) - 1)) (by omega) (by decide) (v := px (((4 * i) + d) - 1)) rfl dX4_mix_127 ?_
              exact L_128 _ _ _ _ (by first | exact (if_pos h_108).symm | exact (if_neg (by omega)).symm) (lv_sub hl [0, 1, 2, 3, 4, 5, 6] rfl) hP hD hS
            · have h_108 : d = 0 := rs_z1 (by omega) h_108
              refine lv_lconst hx hb dX4_mix_111 (v := 0) (by decide) ?_
              refine lv_goto hx hb dX4_mix_112 (tgt := 128) rfl ?_
              exact L_128 _ _ _ _ (by first | exact (if_pos h_108).symm | exact (if_neg (by omega)).symm) (lv_sub hl [0, 1, 2, 3, 4, 5, 6] rfl) hP hD hS
      exact L_101 (4 + 1) 4 po _ _ _ (Nat.lt_succ_self _) (Nat.le_refl _) (fun d h1 h2 => absurd h2 (by omega)) (fun y _ => rfl) (by rw [rs_dm_s 3]; exact lv_sub hl [4, 5, 8, 3, 2, 1, 0] rfl) hP hD hS
    refine lv_if_ne hx hb dX4_mix_57 (tgt := 64) rfl (fun h_57 => ?_) (fun h_57 => ?_)
    · skip
      refine lv_bipush hx hb dX4_mix_64 (v := nI 60) (by decide) ?_
      refine lv_iload hx hb dX4_mix_66 (lv_at hl 5 rfl) ?_
      refine rs_idiv hx hb dX4_mix_68 h_57 (v := (nI 60 / (nI (tk (i + q9 + 1)) - nI (tk (i + 1))))) rfl ?_
      refine lv_i2l hx hb dX4_mix_69 (v := ((nI 60 / (nI (tk (i + q9 + 1)) - nI (tk (i + 1))))).toInt64) rfl ?_
      exact L_70 _ _ _ _ (by first | exact (if_pos h_57).symm | exact (if_neg h_57).symm) (lv_sub hl [1, 2, 3, 4, 0] rfl) hP hD hS
    · skip
      refine lv_lconst hx hb dX4_mix_60 (v := 0) (by decide) ?_
      refine lv_goto hx hb dX4_mix_61 (tgt := 70) rfl ?_
      exact L_70 _ _ _ _ (by first | exact (if_pos h_57).symm | exact (if_neg h_57).symm) (lv_sub hl [1, 2, 3, 4, 0] rfl) hP hD hS
  refine lv_if_ne hx hb dX4_mix_40 (tgt := 47) rfl (fun h_40 => ?_) (fun h_40 => ?_)
  · skip
    refine lv_bipush hx hb dX4_mix_47 (v := nI 60) (by decide) ?_
    refine lv_iload hx hb dX4_mix_49 (lv_at hl 1 rfl) ?_
    refine rs_idiv hx hb dX4_mix_51 h_40 (v := (nI 60 / (nI (tk (i + q9)) - nI (tk i)))) rfl ?_
    refine lv_i2l hx hb dX4_mix_52 (v := ((nI 60 / (nI (tk (i + q9)) - nI (tk i)))).toInt64) rfl ?_
    exact L_53 _ _ _ _ (by first | exact (if_pos h_40).symm | exact (if_neg h_40).symm) (lv_sub hl [2, 3, 4, 5, 0] rfl) hP hD hS
  · skip
    refine lv_lconst hx hb dX4_mix_43 (v := 0) (by decide) ?_
    refine lv_goto hx hb dX4_mix_44 (tgt := 53) rfl ?_
    exact L_53 _ _ _ _ (by first | exact (if_pos h_40).symm | exact (if_neg h_40).symm) (lv_sub hl [2, 3, 4, 5, 0] rfl) hP hD hS
