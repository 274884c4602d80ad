def rm_X1_blossom : Room := { frames := 2, cells := 0, slots := 0, locals := 151 }
set_option maxHeartbeats 4000000 in
set_option maxRecDepth 100000 in
theorem c_X1_blossom (l : Launch) (D : va_G) (aI aJ aL : ClassId) (sz : Nat) (q : Nat → Nat) (d : Nat) (n : Nat) (kn : Nat → Nat) (rz : Nat → Nat → Int64) (ac : Int32) (up : Int32) (ar : Nat → Nat) (wk : Nat → Int64) (ax : Nat) (r : Nat) (us : Nat → Nat) (hd : d ≤ 3) (hn : n ≤ 19) (hax : ax < 3) (hr1 : d ≤ r) (hr2 : r ≤ 19) (hus : ∀ k, k < d → ar k = us k) : rs_ML (S := Nat → Int64) l yX1_blossom (Cond.code yX1_blossom prog_3_method_22_code 8 (some .long) :: rsW) rm_X1_blossom D vwCl (rs_tys aI aJ aL) rs_nw [.ref (q 0), .int (nI ax), .int (nI r)] (wC aI aJ aL q d n kn rz ac up ar wk) sz (rs_bl kn d n rz us ax r d d) (fun uu => wC aI aJ aL q d n kn rz ac up ar uu) := by
  refine rs_ent (cc := cX1_blossom) (maxL := 8) (ret := some .long) (Qc := rs_QL D vwCl _ _ _) (by decide) rfl (Nat.le_of_ble_eq_true rfl) ?_
  intro p e s m args below meth c ls A Q hx hb hr hml hlk hts hown hin hK hN hP hD hS hA hQ hl
  have hl : lv_has ls 8 [(0, .ref (q 0)), (1, .int (nI ax)), (2, .int (nI r))] := hl
  refine lv_iconst hx hb dX1_blossom_0 (v := nI 0) (by decide) ?_
  refine lv_istore_n hx hb dX1_blossom_1 rfl hl (lv' := [(3, .int (nI 0)), (0, .ref (q 0)), (1, .int (nI ax)), (2, .int (nI r))]) (by decide) rfl (fun ls hl => ?_)
  have L_2 : ∀ (k_2 : Nat) (j : Nat) (wk : Nat → Int64) (H : Heap) (locs : List Loc) (ls : Array Slot), d + 1 - j < k_2 → (j ≤ d + 1) → (∀ k, k < j → wk k = rs_bl kn d n rz us ax r 0 k) → lv_has ls 8 [(0, .ref (q 0)), (1, .int (nI ax)), (2, .int (nI r)), (3, .int (nI j))] → va_P D vwCl (wC aI aJ aL q d n kn rz ac up ar wk) H → va_D A (wC aI aJ aL q d n kn rz ac up ar wk) → va_S A s.heap H locs → W p l e rm_X1_blossom s m args below meth c H locs 0 0 Q (F0 m 2 ls []) := by
    intro k_2
    induction k_2 with
    | zero => intro j wk H locs ls hk_2; exact absurd hk_2 (Nat.not_lt_zero _)
    | succ k_2 ih_2 =>
      intro j wk H locs ls hk_2 hj hw hl hP hD hS
      refine lv_iload_n hx hb dX1_blossom_2 rfl (lv_at hl 3 rfl) ?_
      refine lv_aload_n hx hb dX1_blossom_3 rfl (lv_at hl 0 rfl) ?_
      refine va_get hx hb hts inX1 hown hK hP 0 (ci := 1) (C := RX1) (T := TX1) (N := 8) rfl rfl 0 (by decide) (hts _ rw_80) (fun _ h => h) (v := .int (nI d)) rfl dX1_blossom_4 ?_
      refine lv_icmp_gt hx hb dX1_blossom_7 (tgt := 35) rfl (fun h_7 => ?_) (fun h_7 => ?_)
      · have h_7 : d < j := (nI_ltI (by omega) (by omega)).1 h_7
        refine lv_iconst hx hb dX1_blossom_35 (v := nI 1) (by decide) ?_
        refine lv_istore_n hx hb dX1_blossom_36 rfl hl (lv' := [(3, .int (nI 1)), (0, .ref (q 0)), (1, .int (nI ax)), (2, .int (nI r))]) (by decide) rfl (fun ls hl => ?_)
        have L_37 : ∀ (k_37 : Nat) (v : Nat) (wk : Nat → Int64) (H : Heap) (locs : List Loc) (ls : Array Slot), d - v < k_37 → (v ≤ d) → (∀ k, k ≤ d → wk k = rs_bl kn d n rz us ax r v k) → lv_has ls 8 [(0, .ref (q 0)), (1, .int (nI ax)), (2, .int (nI r)), (3, .int (nI (v + 1)))] → va_P D vwCl (wC aI aJ aL q d n kn rz ac up ar wk) H → va_D A (wC aI aJ aL q d n kn rz ac up ar wk) → va_S A s.heap H locs → W p l e rm_X1_blossom s m args below meth c H locs 0 0 Q (F0 m 37 ls []) := by
          intro k_37
          induction k_37 with
          | zero => intro v wk H locs ls hk_37; exact absurd hk_37 (Nat.not_lt_zero _)
          | succ k_37 ih_37 =>
            intro v wk H locs ls hk_37 hv hw hl hP hD hS
            refine lv_iload_n hx hb dX1_blossom_37 rfl (lv_at hl 3 rfl) ?_
            refine lv_aload_n hx hb dX1_blossom_38 rfl (lv_at hl 0 rfl) ?_
            refine va_get hx hb hts inX1 hown hK hP 0 (ci := 1) (C := RX1) (T := TX1) (N := 8) rfl rfl 0 (by decide) (hts _ rw_80) (fun _ h => h) (v := .int (nI d)) rfl dX1_blossom_39 ?_
            refine lv_icmp_gt hx hb dX1_blossom_42 (tgt := 163) rfl (fun h_42 => ?_) (fun h_42 => ?_)
            · have h_42 : d < (v + 1) := (nI_ltI (by omega) (by omega)).1 h_42
              refine lv_aload_n hx hb dX1_blossom_163 rfl (lv_at hl 0 rfl) ?_
              refine va_get hx hb hts inX1 hown hK hP 0 (ci := 1) (C := RX1) (T := TX1) (N := 8) rfl rfl 7 (by decide) (hts _ rw_101) (fun _ h => h) (v := .ref (q 7)) rfl dX1_blossom_164 ?_
              refine lv_aload_n hx hb dX1_blossom_167 rfl (lv_at hl 0 rfl) ?_
              refine va_get hx hb hts inX1 hown hK hP 0 (ci := 1) (C := RX1) (T := TX1) (N := 8) rfl rfl 0 (by decide) (hts _ rw_80) (fun _ h => h) (v := .int (nI d)) rfl dX1_blossom_168 ?_
              refine rs_lald hx hb hK hP 7 1 rfl rfl (i := d) (by omega) (by decide) (v := wk d) rfl dX1_blossom_171 ?_
              exact rs_lret wk hx hb hr hlk hQ hK hP hD hS (by rw [show v = d by omega] at hw; exact hw d (Nat.le_refl _)) rfl dX1_blossom_172
            · have h_42 : (v + 1) ≤ d := Nat.le_of_not_lt (fun z => h_42 ((nI_ltI (by omega) (by omega)).2 z))
              refine lv_aload_n hx hb dX1_blossom_45 rfl (lv_at hl 0 rfl) ?_
              refine va_get hx hb hts inX1 hown hK hP 0 (ci := 1) (C := RX1) (T := TX1) (N := 8) rfl rfl 6 (by decide) (hts _ rw_100) (fun _ h => h) (v := .ref (q 6)) rfl dX1_blossom_46 ?_
              refine lv_iload_n hx hb dX1_blossom_49 rfl (lv_at hl 3 rfl) ?_
              refine lv_iconst hx hb dX1_blossom_50 (v := nI 1) (by decide) ?_
              refine rs_isub hx hb dX1_blossom_51 (v := nI v) (pk_sub (a := v + 1) (b := 1) (by omega)) ?_
              refine rs_iald hx hb hK hP 6 0 rfl rfl (i := v) (by omega) (by decide) (v := nI (us v)) (congrArg nI (hus v (by omega))) dX1_blossom_52 ?_
              refine lv_istore hx hb dX1_blossom_53 hl (lv' := [(4, .int (nI (us v))), (0, .ref (q 0)), (1, .int (nI ax)), (2, .int (nI r)), (3, .int (nI (v + 1)))]) (by decide) rfl (fun ls hl => ?_)
              refine lv_aload_n hx hb dX1_blossom_55 rfl (lv_at hl 1 rfl) ?_
              refine va_get hx hb hts inX1 hown hK hP 0 (ci := 1) (C := RX1) (T := TX1) (N := 8) rfl rfl 0 (by decide) (hts _ rw_80) (fun _ h => h) (v := .int (nI d)) rfl dX1_blossom_56 ?_
              refine lv_istore hx hb dX1_blossom_59 hl (lv' := [(5, .int (nI d)), (4, .int (nI (us v))), (0, .ref (q 0)), (1, .int (nI ax)), (2, .int (nI r)), (3, .int (nI (v + 1)))]) (by decide) rfl (fun ls hl => ?_)
              have L_61 : ∀ (k_61 : Nat) (j : Nat) (wk : Nat → Int64) (H : Heap) (locs : List Loc) (ls : Array Slot), j < k_61 → (v ≤ j) → (j ≤ d) → (∀ k, k ≤ d → wk k = if j < k then rs_bl kn d n rz us ax r (v + 1) k else rs_bl kn d n rz us ax r v k) → lv_has ls 8 [(0, .ref (q 0)), (1, .int (nI ax)), (2, .int (nI r)), (3, .int (nI (v + 1))), (4, .int (nI (us v))), (5, .int (nI j))] → va_P D vwCl (wC aI aJ aL q d n kn rz ac up ar wk) H → va_D A (wC aI aJ aL q d n kn rz ac up ar wk) → va_S A s.heap H locs → W p l e rm_X1_blossom s m args below meth c H locs 0 0 Q (F0 m 61 ls []) := by
                intro k_61
                induction k_61 with
                | zero => intro j wk H locs ls hk_61; exact absurd hk_61 (Nat.not_lt_zero _)
                | succ k_61 ih_61 =>
                  intro j wk H locs ls hk_61 hj1 hj2 hw hl hP hD hS
                  refine lv_iload hx hb dX1_blossom_61 (lv_at hl 5 rfl) ?_
                  refine lv_iload_n hx hb dX1_blossom_63 rfl (lv_at hl 3 rfl) ?_
                  refine lv_icmp_lt hx hb dX1_blossom_64 (tgt := 157) rfl (fun h_64 => ?_) (fun h_64 => ?_)
                  · have h_64 : j < (v + 1) := (nI_ltI (by omega) (by omega)).1 h_64
                    refine lv_iinc hx hb dX1_blossom_157 hl (k := 3) rfl (v := nI ((v + 1) + 1)) (rs_inc _ _) (by decide) (lv' := [(3, .int (nI ((v + 1) + 1))), (0, .ref (q 0)), (1, .int (nI ax)), (2, .int (nI r)), (4, .int (nI (us v))), (5, .int (nI j))]) rfl (fun ls hl => ?_)
                    refine lv_goto hx hb dX1_blossom_160 (tgt := 37) rfl ?_
                    exact ih_37 (v + 1) wk _ _ _ (by omega) (by omega) (rs_bl_nx (by omega) hw) (lv_sub hl [1, 2, 3, 0] rfl) hP hD hS
                  · have h_64 : (v + 1) ≤ j := Nat.le_of_not_lt (fun z => h_64 ((nI_ltI (by omega) (by omega)).2 z))
                    refine lv_aload_n hx hb dX1_blossom_67 rfl (lv_at hl 0 rfl) ?_
                    refine va_get hx hb hts inX1 hown hK hP 0 (ci := 1) (C := RX1) (T := TX1) (N := 8) rfl rfl 2 (by decide) (hts _ rw_88) (fun _ h => h) (v := .ref (q 1)) rfl dX1_blossom_68 ?_
                    refine lv_iload_n hx hb dX1_blossom_71 rfl (lv_at hl 2 rfl) ?_
                    refine lv_aload_n hx hb dX1_blossom_72 rfl (lv_at hl 0 rfl) ?_
                    refine va_get hx hb hts inX1 hown hK hP 0 (ci := 1) (C := RX1) (T := TX1) (N := 8) rfl rfl 0 (by decide) (hts _ rw_80) (fun _ h => h) (v := .int (nI d)) rfl dX1_blossom_73 ?_
                    refine rs_isub hx hb dX1_blossom_76 (v := nI (r - d)) (pk_sub (by omega)) ?_
                    refine lv_iload hx hb dX1_blossom_77 (lv_at hl 5 rfl) ?_
                    refine rs_iadd hx hb dX1_blossom_79 (v := nI ((r - d) + j)) (nI_add _ _) ?_
                    refine rs_iald hx hb hK hP 1 0 rfl rfl (i := ((r - d) + j)) (by omega) (by decide) (v := nI (kn ((r - d) + j))) rfl dX1_blossom_80 ?_
                    refine lv_istore hx hb dX1_blossom_81 hl (lv' := [(6, .int (nI (kn ((r - d) + j)))), (0, .ref (q 0)), (1, .int (nI ax)), (2, .int (nI r)), (3, .int (nI (v + 1))), (4, .int (nI (us v))), (5, .int (nI j))]) (by decide) rfl (fun ls hl => ?_)
                    refine lv_aload_n hx hb dX1_blossom_83 rfl (lv_at hl 1 rfl) ?_
                    refine va_get hx hb hts inX1 hown hK hP 0 (ci := 1) (C := RX1) (T := TX1) (N := 8) rfl rfl 2 (by decide) (hts _ rw_88) (fun _ h => h) (v := .ref (q 1)) rfl dX1_blossom_84 ?_
                    refine lv_iload_n hx hb dX1_blossom_87 rfl (lv_at hl 3 rfl) ?_
                    refine lv_iload hx hb dX1_blossom_88 (lv_at hl 6 rfl) ?_
                    refine rs_iadd hx hb dX1_blossom_90 (v := nI (r + j)) (nI_add _ _) ?_
                    refine lv_iconst hx hb dX1_blossom_91 (v := nI 1) (by decide) ?_
                    refine rs_iadd hx hb dX1_blossom_92 (v := nI ((r + j) + 1)) (nI_add _ _) ?_
                    refine lv_iload_n hx hb dX1_blossom_93 rfl (lv_at hl 4 rfl) ?_
                    refine rs_isub hx hb dX1_blossom_94 (v := nI (((r + j) + 1) - (v + 1))) (pk_sub (by omega)) ?_
                    refine rs_iald hx hb hK hP 1 0 rfl rfl (i := (((r + j) + 1) - (v + 1))) (by omega) (by decide) (v := nI (kn (((r + j) + 1) - (v + 1)))) rfl dX1_blossom_95 ?_
                    refine lv_istore hx hb dX1_blossom_96 hl (lv' := [(7, .int (nI (kn (((r + j) + 1) - (v + 1))))), (6, .int (nI (kn ((r - d) + j)))), (0, .ref (q 0)), (1, .int (nI ax)), (2, .int (nI r)), (3, .int (nI (v + 1))), (4, .int (nI (us v))), (5, .int (nI j))]) (by decide) rfl (fun ls hl => ?_)
                    refine lv_aload_n hx hb dX1_blossom_98 rfl (lv_at hl 2 rfl) ?_
                    refine va_get hx hb hts inX1 hown hK hP 0 (ci := 1) (C := RX1) (T := TX1) (N := 8) rfl rfl 7 (by decide) (hts _ rw_101) (fun _ h => h) (v := .ref (q 7)) rfl dX1_blossom_99 ?_
                    refine lv_iload hx hb dX1_blossom_102 (lv_at hl 7 rfl) ?_
                    refine lv_iload hx hb dX1_blossom_104 (lv_at hl 6 rfl) ?_
                    refine lv_bipush hx hb dX1_blossom_106 (v := nI 60) (by decide) ?_
                    refine lv_iload hx hb dX1_blossom_108 (lv_at hl 1 rfl) ?_
                    refine rs_imul hx hb dX1_blossom_110 (v := nI (60 * (kn ((r - d) + j)))) (pk_mul _ _) ?_
                    refine rs_isub hx hb dX1_blossom_111 (v := (nI (us v) - nI (60 * (kn ((r - d) + j))))) rfl ?_
                    refine lv_i2l hx hb dX1_blossom_112 (v := ((nI (us v) - nI (60 * (kn ((r - d) + j))))).toInt64) rfl ?_
                    refine lv_aload_n hx hb dX1_blossom_113 rfl (lv_at hl 2 rfl) ?_
                    refine va_get hx hb hts inX1 hown hK hP 0 (ci := 1) (C := RX1) (T := TX1) (N := 8) rfl rfl 7 (by decide) (hts _ rw_101) (fun _ h => h) (v := .ref (q 7)) rfl dX1_blossom_114 ?_
                    refine lv_iload hx hb dX1_blossom_117 (lv_at hl 7 rfl) ?_
                    refine rs_lald hx hb hK hP 7 1 rfl rfl (i := j) (by omega) (by decide) (v := wk j) rfl dX1_blossom_119 ?_
                    refine lv_lmul hx hb dX1_blossom_120 ?_
                    refine lv_bipush hx hb dX1_blossom_121 (v := nI 60) (by decide) ?_
                    refine lv_iload hx hb dX1_blossom_123 (lv_at hl 0 rfl) ?_
                    refine rs_imul hx hb dX1_blossom_125 (v := nI (60 * (kn (((r + j) + 1) - (v + 1))))) (pk_mul _ _) ?_
                    refine lv_iload hx hb dX1_blossom_126 (lv_at hl 6 rfl) ?_
                    refine rs_isub hx hb dX1_blossom_128 (v := (nI (60 * (kn (((r + j) + 1) - (v + 1)))) - nI (us v))) rfl ?_
                    refine lv_i2l hx hb dX1_blossom_129 (v := ((nI (60 * (kn (((r + j) + 1) - (v + 1)))) - nI (us v))).toInt64) rfl ?_
                    refine lv_aload_n hx hb dX1_blossom_130 rfl (lv_at hl 2 rfl) ?_
                    refine va_get hx hb hts inX1 hown hK hP 0 (ci := 1) (C := RX1) (T := TX1) (N := 8) rfl rfl 7 (by decide) (hts _ rw_101) (fun _ h => h) (v := .ref (q 7)) rfl dX1_blossom_131 ?_
                    refine lv_iload hx hb dX1_blossom_134 (lv_at hl 7 rfl) ?_
                    refine lv_iconst hx hb dX1_blossom_136 (v := nI 1) (by decide) ?_
                    refine rs_isub hx hb dX1_blossom_137 (v := nI (j - 1)) (pk_sub (by omega)) ?_
                    refine rs_lald hx hb hK hP 7 1 rfl rfl (i := (j - 1)) (by omega) (by decide) (v := wk (j - 1)) rfl dX1_blossom_138 ?_
                    refine lv_lmul hx hb dX1_blossom_139 ?_
                    refine lv_ladd hx hb dX1_blossom_140 ?_
                    refine lv_iload hx hb dX1_blossom_141 (lv_at hl 0 rfl) ?_
                    refine lv_iload hx hb dX1_blossom_143 (lv_at hl 1 rfl) ?_
                    refine rs_isub hx hb dX1_blossom_145 (v := (nI (kn (((r + j) + 1) - (v + 1))) - nI (kn ((r - d) + j)))) rfl ?_
                    refine lv_i2l hx hb dX1_blossom_146 (v := ((nI (kn (((r + j) + 1) - (v + 1))) - nI (kn ((r - d) + j)))).toInt64) rfl ?_
                    refine rs_cSL (rest := [.int (nI j), .ref (q 7)]) (wr := (wC aI aJ aL q d n kn rz ac up ar wk)) (ws' := fun u_147 => wC aI aJ aL q d n kn rz ac up ar wk) ⟨hx, hb, hml, hown, hts⟩ (c_X1_quotient l D aI aJ aL _ (((((nI (us v) - nI (60 * (kn ((r - d) + j))))).toInt64) * (wk j)) + ((((nI (60 * (kn (((r + j) + 1) - (v + 1)))) - nI (us v))).toInt64) * (wk (j - 1)))) (((nI (kn (((r + j) + 1) - (v + 1))) - nI (kn ((r - d) + j)))).toInt64) ) (cwS 2 hts (rs_gS rw_235 rw_236 rw_4 rw_237) rfl rfl rfl (by decide +kernel) ⟨Nat.le_of_ble_eq_true rfl, Nat.le_of_ble_eq_true rfl⟩) hK hN hP hD hS hA [] [0, 1, 2, 3, 4, 5, 6, 7] [0, 1, 2, 3, 4, 5, 6, 7] (by decide) rfl rfl (fun _ => rfl) hl.1 rfl rfl (Nat.le_of_ble_eq_true rfl) dX1_blossom_147 ⟨Nat.le_refl _, Nat.le_refl _⟩ (fun u_147 H locs hP hD hS => ?_)
                    have hP : va_P D vwCl (wC aI aJ aL q d n kn rz ac up ar wk) H := hP
                    have hD : va_D A (wC aI aJ aL q d n kn rz ac up ar wk) := hD
                    refine rs_last hx hb hK hP hD hS 7 1 rfl rfl (i := j) (by omega) (by decide) dX1_blossom_150 (ws' := wC aI aJ aL q d n kn rz ac up ar (vp_updL wk j (rs_quo (((((nI (us v) - nI (60 * (kn ((r - d) + j))))).toInt64) * (wk j)) + ((((nI (60 * (kn (((r + j) + 1) - (v + 1)))) - nI (us v))).toInt64) * (wk (j - 1)))) (((nI (kn (((r + j) + 1) - (v + 1))) - nI (kn ((r - d) + j)))).toInt64)))) rfl (fun H locs hP hD hS => ?_)
                    refine lv_iinc hx hb dX1_blossom_151 hl (k := 7) rfl (v := nI (j - 1)) (rs_dec (by omega)) (by decide) (lv' := [(5, .int (nI (j - 1))), (7, .int (nI (kn (((r + j) + 1) - (v + 1))))), (6, .int (nI (kn ((r - d) + j)))), (0, .ref (q 0)), (1, .int (nI ax)), (2, .int (nI r)), (3, .int (nI (v + 1))), (4, .int (nI (us v)))]) rfl (fun ls hl => ?_)
                    refine lv_goto hx hb dX1_blossom_154 (tgt := 61) rfl ?_
                    exact ih_61 (j - 1) _ _ _ _ (by omega) (by omega) (by omega) (rs_bl_st (by omega) hj2 hw) (lv_sub hl [3, 4, 5, 6, 7, 0] rfl) hP hD hS
              exact L_61 (d + 1) d wk _ _ _ (Nat.lt_succ_self _) (by omega) (Nat.le_refl _) (rs_bl_i0 hw) (lv_sub hl [2, 3, 4, 5, 1, 0] rfl) hP hD hS
        exact L_37 ((d - 0) + 1) 0 wk _ _ _ (Nat.lt_succ_self _) (Nat.zero_le _) (fun k hk => hw k (by omega)) (lv_sub hl [1, 2, 3, 0] rfl) hP hD hS
      · have h_7 : j ≤ d := Nat.le_of_not_lt (fun z => h_7 ((nI_ltI (by omega) (by omega)).2 z))
        refine lv_aload_n hx hb dX1_blossom_10 rfl (lv_at hl 0 rfl) ?_
        refine va_get hx hb hts inX1 hown hK hP 0 (ci := 1) (C := RX1) (T := TX1) (N := 8) rfl rfl 7 (by decide) (hts _ rw_101) (fun _ h => h) (v := .ref (q 7)) rfl dX1_blossom_11 ?_
        refine lv_iload_n hx hb dX1_blossom_14 rfl (lv_at hl 3 rfl) ?_
        refine lv_aload_n hx hb dX1_blossom_15 rfl (lv_at hl 0 rfl) ?_
        refine lv_iload_n hx hb dX1_blossom_16 rfl (lv_at hl 1 rfl) ?_
        refine lv_iload_n hx hb dX1_blossom_17 rfl (lv_at hl 2 rfl) ?_
        refine lv_aload_n hx hb dX1_blossom_18 rfl (lv_at hl 0 rfl) ?_
        refine va_get hx hb hts inX1 hown hK hP 0 (ci := 1) (C := RX1) (T := TX1) (N := 8) rfl rfl 0 (by decide) (hts _ rw_80) (fun _ h => h) (v := .int (nI d)) rfl dX1_blossom_19 ?_
        refine rs_isub hx hb dX1_blossom_22 (v := nI (r - d)) (pk_sub (by omega)) ?_
        refine lv_iload_n hx hb dX1_blossom_23 rfl (lv_at hl 3 rfl) ?_
        refine rs_iadd hx hb dX1_blossom_24 (v := nI ((r - d) + j)) (nI_add _ _) ?_
        refine rs_cVL (rest := [.int (nI j), .ref (q 7)]) (wr := []) (ws' := fun u_25 => wC aI aJ aL q d n kn rz ac up ar wk) ⟨hx, hb, hml, hown, hts⟩ (c_X1_number l D aI aJ aL _ q d n kn rz ac up ar wk ax (nI ((r - d) + j)) (by omega) (by omega) (by omega)) (cwV 2 hts (rs_gV rw_231 rw_232 rw_233 rw_4 rw_234) rfl rfl rfl (by decide +kernel) ⟨Nat.le_of_ble_eq_true rfl, Nat.le_of_ble_eq_true rfl⟩) hK hN hP hD hS hA [0, 1, 2, 3, 4, 5, 6, 7] [] [0, 1, 2, 3, 4, 5, 6, 7] (by decide) rfl rfl (fun _ => rfl) 0 rfl rfl hl.1 rfl rfl (Nat.le_of_ble_eq_true rfl) dX1_blossom_25 ⟨Nat.le_refl _, Nat.le_refl _⟩ (fun u_25 H locs hP hD hS => ?_)
        have hP : va_P D vwCl (wC aI aJ aL q d n kn rz ac up ar wk) H := hP
        have hD : va_D A (wC aI aJ aL q d n kn rz ac up ar wk) := hD
        refine rs_last hx hb hK hP hD hS 7 1 rfl rfl (i := j) (by omega) (by decide) dX1_blossom_28 (ws' := wC aI aJ aL q d n kn rz ac up ar (vp_updL wk j (rs_num rz n ax (nI ((r - d) + j))))) rfl (fun H locs hP hD hS => ?_)
        refine lv_iinc hx hb dX1_blossom_29 hl (k := 3) rfl (v := nI (j + 1)) (rs_inc _ _) (by decide) (lv' := [(3, .int (nI (j + 1))), (0, .ref (q 0)), (1, .int (nI ax)), (2, .int (nI r))]) rfl (fun ls hl => ?_)
        refine lv_goto hx hb dX1_blossom_32 (tgt := 2) rfl ?_
        exact ih_2 (j + 1) _ _ _ _ (by omega) (by omega) (rs_w_up hw rfl) (lv_sub hl [1, 2, 3, 0] rfl) hP hD hS
  exact L_2 ((d + 1 - 0) + 1) 0 wk _ _ _ (Nat.lt_succ_self _) (Nat.zero_le _) lt_0 (lv_sub hl [1, 2, 3, 0] rfl) hP hD hS

def rm_X1_refineInto : Room := { frames := 3, cells := 0, slots := 0, locals := 237 }
set_option maxHeartbeats 4000000 in
set_option maxRecDepth 100000 in
theorem c_X1_refineInto (l : Launch) (D : va_G) (aI aJ aL : ClassId) (sz : Nat) (q : Nat → Nat) (d : Nat) (n : Nat) (kn : Nat → Nat) (rz : Nat → Nat → Int64) (ac : Int32) (up : Int32) (ar : Nat → Nat) (wk : Nat → Int64) (q2 : Nat → Nat) (d2 : Nat) (n2 : Nat) (kn2 : Nat → Nat) (rz2 : Nat → Nat → Int64) (ac2 : Int32) (up2 : Int32) (ar2 : Nat → Nat) (wk2 : Nat → Int64) (k : Nat) (hd : d ≤ 3) (hn : n ≤ 18) (hdn : d + 1 ≤ n) (hk : ∀ i, kn i ≤ 6) (hk5 : k ≤ 5) : rs_MV (S := {x : Nat → Nat → Int64 // rs_F (rs_fin kn d n rz k) x (n + 1) 0}) l yX1_refineInto (Cond.code yX1_refineInto prog_3_method_11_code 7 none :: rsW) rm_X1_refineInto D vwCl (rs_tys aI aJ aL) rs_nw [.ref (q 0), .ref (q2 0), .int (nI k)] ((wC aI aJ aL q d n kn rz ac up ar wk) ++ (wC aI aJ aL q2 d2 n2 kn2 rz2 ac2 up2 ar2 wk2)) sz (fun uu => (wC aI aJ aL q d n kn rz ac up ar wk) ++ (wC aI aJ aL q2 d (n + 1) (rs_kin kn kn2 (rs_sp kn d (60 * k) (n - (d + 1)) + 1) k (n + d + 1)) uu.1 ac2 up2 ar2 wk2)) := by
  refine rs_ent (cc := cX1_refineInto) (maxL := 7) (ret := none) (Qc := rs_QV D vwCl _ _) (by decide) rfl (Nat.le_of_ble_eq_true rfl) ?_
  intro p e s m args below meth c ls A Q hx hb hr hml hlk hts hown hin hK hN hP hD hS hA hQ hl
  have hl : lv_has ls 7 [(0, .ref (q 0)), (1, .ref (q2 0)), (2, .int (nI k))] := hl
  refine lv_aload_n hx hb dX1_refineInto_0 rfl (lv_at hl 1 rfl) ?_
  refine lv_aload_n hx hb dX1_refineInto_1 rfl (lv_at hl 0 rfl) ?_
  refine va_get hx hb hts inX1 hown hK hP 0 (ci := 1) (C := RX1) (T := TX1) (N := 8) rfl rfl 0 (by decide) (hts _ rw_80) (fun _ h => h) (v := .int (nI d)) rfl dX1_refineInto_2 ?_
  refine va_put hx hb hts inX1 (ty0 := tyX1) tyX1_ok nmX1 hown hK hP hD hS 8 (ci := 1) (C := RX1) (T := TX1) (N := 8) rfl rfl 0 (by decide) (hts _ rw_80) (fun _ h => h) rfl (ty := .int) (by decide +kernel) rfl rfl (Nat.le_of_ble_eq_true rfl) dX1_refineInto_5 (fun H locs hP hD hS => ?_)
  have hP : va_P D vwCl ((wC aI aJ aL q d n kn rz ac up ar wk) ++ (wC aI aJ aL q2 d n2 kn2 rz2 ac2 up2 ar2 wk2)) H := hP
  have hD : va_D A ((wC aI aJ aL q d n kn rz ac up ar wk) ++ (wC aI aJ aL q2 d n2 kn2 rz2 ac2 up2 ar2 wk2)) := hD
  refine lv_aload_n hx hb dX1_refineInto_8 rfl (lv_at hl 1 rfl) ?_
  refine lv_aload_n hx hb dX1_refineInto_9 rfl (lv_at hl 0 rfl) ?_
  refine va_get hx hb hts inX1 hown hK hP 0 (ci := 1) (C := RX1) (T := TX1) (N := 8) rfl rfl 1 (by decide) (hts _ rw_84) (fun _ h => h) (v := .int (nI n)) rfl dX1_refineInto_10 ?_
  refine lv_iconst hx hb dX1_refineInto_13 (v := nI 1) (by decide) ?_
  refine rs_iadd hx hb dX1_refineInto_14 (v := nI (n + 1)) (nI_add _ _) ?_
  refine va_put hx hb hts inX1 (ty0 := tyX1) tyX1_ok nmX1 hown hK hP hD hS 8 (ci := 1) (C := RX1) (T := TX1) (N := 8) rfl rfl 1 (by decide) (hts _ rw_84) (fun _ h => h) rfl (ty := .int) (by decide +kernel) rfl rfl (Nat.le_of_ble_eq_true rfl) dX1_refineInto_15 (fun H locs hP hD hS => ?_)
  have hP : va_P D vwCl ((wC aI aJ aL q d n kn rz ac up ar wk) ++ (wC aI aJ aL q2 d (n + 1) kn2 rz2 ac2 up2 ar2 wk2)) H := hP
  have hD : va_D A ((wC aI aJ aL q d n kn rz ac up ar wk) ++ (wC aI aJ aL q2 d (n + 1) kn2 rz2 ac2 up2 ar2 wk2)) := hD
  refine lv_aload_n hx hb dX1_refineInto_18 rfl (lv_at hl 0 rfl) ?_
  refine lv_bipush hx hb dX1_refineInto_19 (v := nI 60) (by decide) ?_
  refine lv_iload_n hx hb dX1_refineInto_21 rfl (lv_at hl 2 rfl) ?_
  refine rs_imul hx hb dX1_refineInto_22 (v := nI (60 * k)) (pk_mul _ _) ?_
  refine rs_cVI (rest := []) (wr := (wC aI aJ aL q2 d (n + 1) kn2 rz2 ac2 up2 ar2 wk2)) (ws' := fun u_23 => (wC aI aJ aL q d n kn rz ac up ar wk) ++ (wC aI aJ aL q2 d (n + 1) kn2 rz2 ac2 up2 ar2 wk2)) ⟨hx, hb, hml, hown, hts⟩ (c_X1_spanOf l D aI aJ aL _ q d n kn rz ac up ar wk (60 * k) hd (by omega) hk (by omega)) (cwV 1 hts (rs_gV rw_205 rw_206 rw_207 rw_4 rw_208) rfl rfl rfl (by decide +kernel) ⟨Nat.le_of_ble_eq_true rfl, Nat.le_of_ble_eq_true rfl⟩) hK hN hP hD hS hA [0, 1, 2, 3, 4, 5, 6, 7] [8, 9, 10, 11, 12, 13, 14, 15] [8, 9, 10, 11, 12, 13, 14, 15, 0, 1, 2, 3, 4, 5, 6, 7] (by decide) rfl rfl (fun _ => rfl) 0 rfl rfl hl.1 rfl rfl (Nat.le_of_ble_eq_true rfl) dX1_refineInto_23 ⟨Nat.le_refl _, Nat.le_refl _⟩ (fun u_23 H locs hP hD hS => ?_)
  have hP : va_P D vwCl ((wC aI aJ aL q d n kn rz ac up ar wk) ++ (wC aI aJ aL q2 d (n + 1) kn2 rz2 ac2 up2 ar2 wk2)) H := hP
  have hD : va_D A ((wC aI aJ aL q d n kn rz ac up ar wk) ++ (wC aI aJ aL q2 d (n + 1) kn2 rz2 ac2 up2 ar2 wk2)) := hD
  have hp1 := rs_sp_le kn d (60 * k) (n - (d + 1))
  refine lv_iconst hx hb dX1_refineInto_26 (v := nI 1) (by decide) ?_
  refine rs_iadd hx hb dX1_refineInto_27 (v := nI ((rs_sp kn d (60 * k) (n - (d + 1))) + 1)) (nI_add _ _) ?_
  refine lv_istore_n hx hb dX1_refineInto_28 rfl hl (lv' := [(3, .int (nI ((rs_sp kn d (60 * k) (n - (d + 1))) + 1))), (0, .ref (q 0)), (1, .ref (q2 0)), (2, .int (nI k))]) (by decide) rfl (fun ls hl => ?_)
  refine lv_aload_n hx hb dX1_refineInto_29 rfl (lv_at hl 1 rfl) ?_
  refine va_get hx hb hts inX1 hown hK hP 0 (ci := 1) (C := RX1) (T := TX1) (N := 8) rfl rfl 2 (by decide) (hts _ rw_88) (fun _ h => h) (v := .ref (q 1)) rfl dX1_refineInto_30 ?_
  refine lv_iconst hx hb dX1_refineInto_33 (v := nI 0) (by decide) ?_
  refine lv_aload_n hx hb dX1_refineInto_34 rfl (lv_at hl 2 rfl) ?_
  refine va_get hx hb hts inX1 hown hK hP 8 (ci := 1) (C := RX1) (T := TX1) (N := 8) rfl rfl 2 (by decide) (hts _ rw_88) (fun _ h => h) (v := .ref (q2 1)) rfl dX1_refineInto_35 ?_
  refine lv_iconst hx hb dX1_refineInto_38 (v := nI 0) (by decide) ?_
  refine lv_iload_n hx hb dX1_refineInto_39 rfl (lv_at hl 0 rfl) ?_
  refine rs_copy hx hb (by rw [hml]; exact hl.1.symm) hown (hts (Cond.methodLink RX1 54 arraycopyName) rw_209) (hts (Cond.native arraycopyName) rw_211) (hts (Cond.static arraycopyName) rw_210) (hts _ rw_6) hK hP hD hS 1 9 0 0 (f := kn) (g := kn2) rfl rfl rfl rfl (sp := 0) (dp := 0) (k := ((rs_sp kn d (60 * k) (n - (d + 1))) + 1)) (by omega) (by omega) (by decide) (by decide) (Nat.le_of_ble_eq_true rfl) (Nat.le_of_ble_eq_true rfl) dX1_refineInto_40 (ws' := (wC aI aJ aL q d n kn rz ac up ar wk) ++ (wC aI aJ aL q2 d (n + 1) (va_cpy kn kn2 0 0 ((rs_sp kn d (60 * k) (n - (d + 1))) + 1)) rz2 ac2 up2 ar2 wk2)) rfl (fun H locs hP hD hS => ?_)
  refine lv_aload_n hx hb dX1_refineInto_43 rfl (lv_at hl 2 rfl) ?_
  refine va_get hx hb hts inX1 hown hK hP 8 (ci := 1) (C := RX1) (T := TX1) (N := 8) rfl rfl 2 (by decide) (hts _ rw_88) (fun _ h => h) (v := .ref (q2 1)) rfl dX1_refineInto_44 ?_
  refine lv_iload_n hx hb dX1_refineInto_47 rfl (lv_at hl 0 rfl) ?_
  refine lv_iload_n hx hb dX1_refineInto_48 rfl (lv_at hl 3 rfl) ?_
  refine rs_iast hx hb hK hP hD hS 9 0 rfl rfl (i := ((rs_sp kn d (60 * k) (n - (d + 1))) + 1)) (by omega) (by decide) (rs_upI _ _ _) dX1_refineInto_49 (ws' := (wC aI aJ aL q d n kn rz ac up ar wk) ++ (wC aI aJ aL q2 d (n + 1) (rs_up (va_cpy kn kn2 0 0 ((rs_sp kn d (60 * k) (n - (d + 1))) + 1)) ((rs_sp kn d (60 * k) (n - (d + 1))) + 1) k) rz2 ac2 up2 ar2 wk2)) rfl (fun H locs hP hD hS => ?_)
  refine lv_aload_n hx hb dX1_refineInto_50 rfl (lv_at hl 1 rfl) ?_
  refine va_get hx hb hts inX1 hown hK hP 0 (ci := 1) (C := RX1) (T := TX1) (N := 8) rfl rfl 2 (by decide) (hts _ rw_88) (fun _ h => h) (v := .ref (q 1)) rfl dX1_refineInto_51 ?_
  refine lv_iload_n hx hb dX1_refineInto_54 rfl (lv_at hl 0 rfl) ?_
  refine lv_aload_n hx hb dX1_refineInto_55 rfl (lv_at hl 2 rfl) ?_
  refine va_get hx hb hts inX1 hown hK hP 8 (ci := 1) (C := RX1) (T := TX1) (N := 8) rfl rfl 2 (by decide) (hts _ rw_88) (fun _ h => h) (v := .ref (q2 1)) rfl dX1_refineInto_56 ?_
  refine lv_iload_n hx hb dX1_refineInto_59 rfl (lv_at hl 0 rfl) ?_
  refine lv_iconst hx hb dX1_refineInto_60 (v := nI 1) (by decide) ?_
  refine rs_iadd hx hb dX1_refineInto_61 (v := nI (((rs_sp kn d (60 * k) (n - (d + 1))) + 1) + 1)) (nI_add _ _) ?_
  refine lv_aload_n hx hb dX1_refineInto_62 rfl (lv_at hl 1 rfl) ?_
  refine rs_cVI (rest := [.int (nI (((rs_sp kn d (60 * k) (n - (d + 1))) + 1) + 1)), .ref (q2 1), .int (nI ((rs_sp kn d (60 * k) (n - (d + 1))) + 1)), .ref (q 1)]) (wr := (wC aI aJ aL q2 d (n + 1) (rs_up (va_cpy kn kn2 0 0 ((rs_sp kn d (60 * k) (n - (d + 1))) + 1)) ((rs_sp kn d (60 * k) (n - (d + 1))) + 1) k) rz2 ac2 up2 ar2 wk2)) (ws' := fun u_63 => (wC aI aJ aL q d n kn rz ac up ar wk) ++ (wC aI aJ aL q2 d (n + 1) (rs_up (va_cpy kn kn2 0 0 ((rs_sp kn d (60 * k) (n - (d + 1))) + 1)) ((rs_sp kn d (60 * k) (n - (d + 1))) + 1) k) rz2 ac2 up2 ar2 wk2)) ⟨hx, hb, hml, hown, hts⟩ (c_X1_knotCount l D aI aJ aL _ q d n kn rz ac up ar wk hd (by omega)) (cwV 0 hts (rs_gV rw_212 rw_213 rw_214 rw_4 rw_215) rfl rfl rfl (by decide +kernel) ⟨Nat.le_of_ble_eq_true rfl, Nat.le_of_ble_eq_true rfl⟩) hK hN hP hD hS hA [0, 1, 2, 3, 4, 5, 6, 7] [8, 9, 10, 11, 12, 13, 14, 15] [8, 9, 10, 11, 12, 13, 14, 15, 0, 1, 2, 3, 4, 5, 6, 7] (by decide) rfl rfl (fun _ => rfl) 0 rfl rfl hl.1 rfl rfl (Nat.le_of_ble_eq_true rfl) dX1_refineInto_63 ⟨Nat.le_refl _, Nat.le_refl _⟩ (fun u_63 H locs hP hD hS => ?_)
  have hP : va_P D vwCl ((wC aI aJ aL q d n kn rz ac up ar wk) ++ (wC aI aJ aL q2 d (n + 1) (rs_up (va_cpy kn kn2 0 0 ((rs_sp kn d (60 * k) (n - (d + 1))) + 1)) ((rs_sp kn d (60 * k) (n - (d + 1))) + 1) k) rz2 ac2 up2 ar2 wk2)) H := hP
  have hD : va_D A ((wC aI aJ aL q d n kn rz ac up ar wk) ++ (wC aI aJ aL q2 d (n + 1) (rs_up (va_cpy kn kn2 0 0 ((rs_sp kn d (60 * k) (n - (d + 1))) + 1)) ((rs_sp kn d (60 * k) (n - (d + 1))) + 1) k) rz2 ac2 up2 ar2 wk2)) := hD
  refine lv_iload_n hx hb dX1_refineInto_66 rfl (lv_at hl 0 rfl) ?_
  refine rs_isub hx hb dX1_refineInto_67 (v := nI ((n + d + 1) - ((rs_sp kn d (60 * k) (n - (d + 1))) + 1))) (pk_sub (by omega)) ?_
  refine rs_copy hx hb (by rw [hml]; exact hl.1.symm) hown (hts (Cond.methodLink RX1 54 arraycopyName) rw_209) (hts (Cond.native arraycopyName) rw_211) (hts (Cond.static arraycopyName) rw_210) (hts _ rw_6) hK hP hD hS 1 9 0 0 (f := kn) (g := (rs_up (va_cpy kn kn2 0 0 ((rs_sp kn d (60 * k) (n - (d + 1))) + 1)) ((rs_sp kn d (60 * k) (n - (d + 1))) + 1) k)) rfl rfl rfl rfl (sp := ((rs_sp kn d (60 * k) (n - (d + 1))) + 1)) (dp := (((rs_sp kn d (60 * k) (n - (d + 1))) + 1) + 1)) (k := ((n + d + 1) - ((rs_sp kn d (60 * k) (n - (d + 1))) + 1))) (by omega) (by omega) (by decide) (by decide) (Nat.le_of_ble_eq_true rfl) (Nat.le_of_ble_eq_true rfl) dX1_refineInto_68 (ws' := (wC aI aJ aL q d n kn rz ac up ar wk) ++ (wC aI aJ aL q2 d (n + 1) (va_cpy kn (rs_up (va_cpy kn kn2 0 0 ((rs_sp kn d (60 * k) (n - (d + 1))) + 1)) ((rs_sp kn d (60 * k) (n - (d + 1))) + 1) k) ((rs_sp kn d (60 * k) (n - (d + 1))) + 1) (((rs_sp kn d (60 * k) (n - (d + 1))) + 1) + 1) ((n + d + 1) - ((rs_sp kn d (60 * k) (n - (d + 1))) + 1))) rz2 ac2 up2 ar2 wk2)) rfl (fun H locs hP hD hS => ?_)
  have hP : va_P D vwCl ((wC aI aJ aL q d n kn rz ac up ar wk) ++ (wC aI aJ aL q2 d (n + 1) (rs_kin kn kn2 (rs_sp kn d (60 * k) (n - (d + 1)) + 1) k (n + d + 1)) rz2 ac2 up2 ar2 wk2)) H := hP
  have hD : va_D A ((wC aI aJ aL q d n kn rz ac up ar wk) ++ (wC aI aJ aL q2 d (n + 1) (rs_kin kn kn2 (rs_sp kn d (60 * k) (n - (d + 1)) + 1) k (n + d + 1)) rz2 ac2 up2 ar2 wk2)) := hD
  refine lv_iconst hx hb dX1_refineInto_71 (v := nI 0) (by decide) ?_
  refine lv_istore hx hb dX1_refineInto_72 hl (lv' := [(4, .int (nI 0)), (3, .int (nI ((rs_sp kn d (60 * k) (n - (d + 1))) + 1))), (0, .ref (q 0)), (1, .ref (q2 0)), (2, .int (nI k))]) (by decide) rfl (fun ls hl => ?_)
  have L_74 : ∀ (k_74 : Nat) (i : Nat) (rz2 : Nat → Nat → Int64) (H : Heap) (locs : List Loc) (ls : Array Slot), n + 1 - i < k_74 → (i ≤ n + 1) → (rs_F (rs_fin kn d n rz k) rz2 i 0) → lv_has ls 7 [(0, .ref (q 0)), (1, .ref (q2 0)), (2, .int (nI k)), (4, .int (nI i))] → va_P D vwCl ((wC aI aJ aL q d n kn rz ac up ar wk) ++ (wC aI aJ aL q2 d (n + 1) (rs_kin kn kn2 (rs_sp kn d (60 * k) (n - (d + 1)) + 1) k (n + d + 1)) rz2 ac2 up2 ar2 wk2)) H → va_D A ((wC aI aJ aL q d n kn rz ac up ar wk) ++ (wC aI aJ aL q2 d (n + 1) (rs_kin kn kn2 (rs_sp kn d (60 * k) (n - (d + 1)) + 1) k (n + d + 1)) rz2 ac2 up2 ar2 wk2)) → va_S A s.heap H locs → W p l e rm_X1_refineInto s m args below meth c H locs 0 0 Q (F0 m 74 ls []) := by
    intro k_74
    induction k_74 with
    | zero => intro i rz2 H locs ls hk_74; exact absurd hk_74 (Nat.not_lt_zero _)
    | succ k_74 ih_74 =>
      intro i rz2 H locs ls hk_74 hi hF hl hP hD hS
      refine lv_iload hx hb dX1_refineInto_74 (lv_at hl 3 rfl) ?_
      refine lv_aload_n hx hb dX1_refineInto_76 rfl (lv_at hl 1 rfl) ?_
      refine va_get hx hb hts inX1 hown hK hP 8 (ci := 1) (C := RX1) (T := TX1) (N := 8) rfl rfl 1 (by decide) (hts _ rw_84) (fun _ h => h) (v := .int (nI (n + 1))) rfl dX1_refineInto_77 ?_
      refine lv_icmp_ge hx hb dX1_refineInto_80 (tgt := 146) rfl (fun h_80 => ?_) (fun h_80 => ?_)
      · have h_80 : (n + 1) ≤ i := (nI_leI (by omega) (by omega)).1 h_80
        exact rs_vret ⟨rz2, by have h9 : i = n + 1 := (by omega); subst h9; exact hF⟩ hx hb hr hlk hQ hK hP hD hS rfl dX1_refineInto_146
      · have h_80 : i < (n + 1) := Nat.lt_of_not_le (fun z => h_80 ((nI_leI (by omega) (by omega)).2 z))
        refine lv_aload_n hx hb dX1_refineInto_83 rfl (lv_at hl 0 rfl) ?_
        refine lv_iload hx hb dX1_refineInto_84 (lv_at hl 3 rfl) ?_
        refine lv_iload_n hx hb dX1_refineInto_86 rfl (lv_at hl 2 rfl) ?_
        refine rs_cVI (rest := []) (wr := (wC aI aJ aL q2 d (n + 1) (rs_kin kn kn2 (rs_sp kn d (60 * k) (n - (d + 1)) + 1) k (n + d + 1)) rz2 ac2 up2 ar2 wk2)) (ws' := fun u_87 => (wC aI aJ aL q d n kn rz ac up ar wk) ++ (wC aI aJ aL q2 d (n + 1) (rs_kin kn kn2 (rs_sp kn d (60 * k) (n - (d + 1)) + 1) k (n + d + 1)) rz2 ac2 up2 ar2 wk2)) ⟨hx, hb, hml, hown, hts⟩ (c_X1_shareOfSame l D aI aJ aL _ q d n kn rz ac up ar wk i k hd (by omega) hk (by omega) (by omega)) (cwV 2 hts (rs_gV rw_216 rw_218 rv_1 rw_4 rw_219) rfl rfl rfl (by decide +kernel) ⟨Nat.le_of_ble_eq_true rfl, Nat.le_of_ble_eq_true rfl⟩) hK hN hP hD hS hA [0, 1, 2, 3, 4, 5, 6, 7] [8, 9, 10, 11, 12, 13, 14, 15] [8, 9, 10, 11, 12, 13, 14, 15, 0, 1, 2, 3, 4, 5, 6, 7] (by decide) rfl rfl (fun _ => rfl) 0 rfl rfl hl.1 rfl rfl (Nat.le_of_ble_eq_true rfl) dX1_refineInto_87 ⟨Nat.le_refl _, Nat.le_refl _⟩ (fun u_87 H locs hP hD hS => ?_)
        have hP : va_P D vwCl ((wC aI aJ aL q d n kn rz ac up ar wk) ++ (wC aI aJ aL q2 d (n + 1) (rs_kin kn kn2 (rs_sp kn d (60 * k) (n - (d + 1)) + 1) k (n + d + 1)) rz2 ac2 up2 ar2 wk2)) H := hP
        have hD : va_D A ((wC aI aJ aL q d n kn rz ac up ar wk) ++ (wC aI aJ aL q2 d (n + 1) (rs_kin kn kn2 (rs_sp kn d (60 * k) (n - (d + 1)) + 1) k (n + d + 1)) rz2 ac2 up2 ar2 wk2)) := hD
        refine lv_aload_n hx hb dX1_refineInto_90 rfl (lv_at hl 0 rfl) ?_
        refine lv_iload hx hb dX1_refineInto_91 (lv_at hl 3 rfl) ?_
        refine lv_iload_n hx hb dX1_refineInto_93 rfl (lv_at hl 2 rfl) ?_
        refine rs_cVI (rest := [.int (nI (k - kn i))]) (wr := (wC aI aJ aL q2 d (n + 1) (rs_kin kn kn2 (rs_sp kn d (60 * k) (n - (d + 1)) + 1) k (n + d + 1)) rz2 ac2 up2 ar2 wk2)) (ws' := fun u_94 => (wC aI aJ aL q d n kn rz ac up ar wk) ++ (wC aI aJ aL q2 d (n + 1) (rs_kin kn kn2 (rs_sp kn d (60 * k) (n - (d + 1)) + 1) k (n + d + 1)) rz2 ac2 up2 ar2 wk2)) ⟨hx, hb, hml, hown, hts⟩ (c_X1_shareOfPrevious l D aI aJ aL _ q d n kn rz ac up ar wk i k hd (by omega) hk (by omega) (by omega)) (cwV 2 hts (rs_gV rw_223 rw_225 rv_2 rw_4 rw_226) rfl rfl rfl (by decide +kernel) ⟨Nat.le_of_ble_eq_true rfl, Nat.le_of_ble_eq_true rfl⟩) hK hN hP hD hS hA [0, 1, 2, 3, 4, 5, 6, 7] [8, 9, 10, 11, 12, 13, 14, 15] [8, 9, 10, 11, 12, 13, 14, 15, 0, 1, 2, 3, 4, 5, 6, 7] (by decide) rfl rfl (fun _ => rfl) 0 rfl rfl hl.1 rfl rfl (Nat.le_of_ble_eq_true rfl) dX1_refineInto_94 ⟨Nat.le_refl _, Nat.le_refl _⟩ (fun u_94 H locs hP hD hS => ?_)
        have hP : va_P D vwCl ((wC aI aJ aL q d n kn rz ac up ar wk) ++ (wC aI aJ aL q2 d (n + 1) (rs_kin kn kn2 (rs_sp kn d (60 * k) (n - (d + 1)) + 1) k (n + d + 1)) rz2 ac2 up2 ar2 wk2)) H := hP
        have hD : va_D A ((wC aI aJ aL q d n kn rz ac up ar wk) ++ (wC aI aJ aL q2 d (n + 1) (rs_kin kn kn2 (rs_sp kn d (60 * k) (n - (d + 1)) + 1) k (n + d + 1)) rz2 ac2 up2 ar2 wk2)) := hD
        refine rs_iadd hx hb dX1_refineInto_97 (v := nI ((k - kn i) + (kn (i + d) - k))) (nI_add _ _) ?_
        have hk7 := hk i
        have hk8 := hk (i + d)
        refine lv_istore hx hb dX1_refineInto_98 hl (lv' := [(5, .int (nI ((k - kn i) + (kn (i + d) - k)))), (0, .ref (q 0)), (1, .ref (q2 0)), (2, .int (nI k)), (4, .int (nI i))]) (by decide) rfl (fun ls hl => ?_)
        refine lv_iconst hx hb dX1_refineInto_100 (v := nI 0) (by decide) ?_
        refine lv_istore hx hb dX1_refineInto_101 hl (lv' := [(6, .int (nI 0)), (5, .int (nI ((k - kn i) + (kn (i + d) - k)))), (0, .ref (q 0)), (1, .ref (q2 0)), (2, .int (nI k)), (4, .int (nI i))]) (by decide) rfl (fun ls hl => ?_)
        have L_103 : ∀ (k_103 : Nat) (a : Nat) (rz2 : Nat → Nat → Int64) (H : Heap) (locs : List Loc) (ls : Array Slot), 3 - a < k_103 → (a ≤ 3) → (rs_F (rs_fin kn d n rz k) rz2 i a) → lv_has ls 7 [(0, .ref (q 0)), (1, .ref (q2 0)), (2, .int (nI k)), (4, .int (nI i)), (5, .int (nI (k - kn i + (kn (i + d) - k)))), (6, .int (nI a))] → va_P D vwCl ((wC aI aJ aL q d n kn rz ac up ar wk) ++ (wC aI aJ aL q2 d (n + 1) (rs_kin kn kn2 (rs_sp kn d (60 * k) (n - (d + 1)) + 1) k (n + d + 1)) rz2 ac2 up2 ar2 wk2)) H → va_D A ((wC aI aJ aL q d n kn rz ac up ar wk) ++ (wC aI aJ aL q2 d (n + 1) (rs_kin kn kn2 (rs_sp kn d (60 * k) (n - (d + 1)) + 1) k (n + d + 1)) rz2 ac2 up2 ar2 wk2)) → va_S A s.heap H locs → W p l e rm_X1_refineInto s m args below meth c H locs 0 0 Q (F0 m 103 ls []) := by
          intro k_103
          induction k_103 with
          | zero => intro a rz2 H locs ls hk_103; exact absurd hk_103 (Nat.not_lt_zero _)
          | succ k_103 ih_103 =>
            intro a rz2 H locs ls hk_103 ha hF hl hP hD hS
            refine lv_iload hx hb dX1_refineInto_103 (lv_at hl 5 rfl) ?_
            refine lv_iconst hx hb dX1_refineInto_105 (v := nI 3) (by decide) ?_
            refine lv_icmp_ge hx hb dX1_refineInto_106 (tgt := 140) rfl (fun h_106 => ?_) (fun h_106 => ?_)
            · have h_106 : 3 ≤ a := (nI_leI (by omega) (by omega)).1 h_106
              refine lv_iinc hx hb dX1_refineInto_140 hl (k := 3) rfl (v := nI (i + 1)) (rs_inc _ _) (by decide) (lv' := [(4, .int (nI (i + 1))), (0, .ref (q 0)), (1, .ref (q2 0)), (2, .int (nI k)), (5, .int (nI (k - kn i + (kn (i + d) - k)))), (6, .int (nI a))]) rfl (fun ls hl => ?_)
              refine lv_goto hx hb dX1_refineInto_143 (tgt := 74) rfl ?_
              exact ih_74 (i + 1) rz2 _ _ _ (by omega) (by omega) (by have h9 : a = 3 := (by omega); subst h9; exact hF.next) (lv_sub hl [1, 2, 3, 0] rfl) hP hD hS
            · have h_106 : a < 3 := Nat.lt_of_not_le (fun z => h_106 ((nI_leI (by omega) (by omega)).2 z))
              refine lv_aload_n hx hb dX1_refineInto_109 rfl (lv_at hl 1 rfl) ?_
              refine va_get hx hb hts inX1 hown hK hP 8 (ci := 1) (C := RX1) (T := TX1) (N := 8) rfl rfl 3 (by decide) (hts _ rw_92) (fun _ h => h) (v := .ref (q2 2)) rfl dX1_refineInto_110 ?_
              refine lv_iload hx hb dX1_refineInto_113 (lv_at hl 5 rfl) ?_
              refine rs_aald hx hb hK hP 10 2 rfl rfl (i := a) (by omega) (by decide) (b := q2 (3 + a)) rfl dX1_refineInto_115 ?_
              refine lv_iload hx hb dX1_refineInto_116 (lv_at hl 3 rfl) ?_
              refine lv_aload_n hx hb dX1_refineInto_118 rfl (lv_at hl 0 rfl) ?_
              refine lv_iload hx hb dX1_refineInto_119 (lv_at hl 5 rfl) ?_
              refine lv_iload hx hb dX1_refineInto_121 (lv_at hl 3 rfl) ?_
              refine lv_iload_n hx hb dX1_refineInto_123 rfl (lv_at hl 2 rfl) ?_
              refine rs_cVL (rest := [.int (nI i), .ref (q2 (3 + a))]) (wr := (wC aI aJ aL q2 d (n + 1) (rs_kin kn kn2 (rs_sp kn d (60 * k) (n - (d + 1)) + 1) k (n + d + 1)) rz2 ac2 up2 ar2 wk2)) (ws' := fun u_124 => (wC aI aJ aL q d n kn rz ac up ar wk) ++ (wC aI aJ aL q2 d (n + 1) (rs_kin kn kn2 (rs_sp kn d (60 * k) (n - (d + 1)) + 1) k (n + d + 1)) rz2 ac2 up2 ar2 wk2)) ⟨hx, hb, hml, hown, hts⟩ (c_X1_blended l D aI aJ aL _ q d n kn rz ac up ar wk a i k hd (by omega) hk (by omega) (by omega) (by omega)) (cwV 3 hts (rs_gV rw_227 rw_229 rv_3 rw_4 rw_230) rfl rfl rfl (by decide +kernel) ⟨Nat.le_of_ble_eq_true rfl, Nat.le_of_ble_eq_true rfl⟩) hK hN hP hD hS hA [0, 1, 2, 3, 4, 5, 6, 7] [8, 9, 10, 11, 12, 13, 14, 15] [8, 9, 10, 11, 12, 13, 14, 15, 0, 1, 2, 3, 4, 5, 6, 7] (by decide) rfl rfl (fun _ => rfl) 0 rfl rfl hl.1 rfl rfl (Nat.le_of_ble_eq_true rfl) dX1_refineInto_124 ⟨Nat.le_refl _, Nat.le_refl _⟩ (fun u_124 H locs hP hD hS => ?_)
              have hP : va_P D vwCl ((wC aI aJ aL q d n kn rz ac up ar wk) ++ (wC aI aJ aL q2 d (n + 1) (rs_kin kn kn2 (rs_sp kn d (60 * k) (n - (d + 1)) + 1) k (n + d + 1)) rz2 ac2 up2 ar2 wk2)) H := hP
              have hD : va_D A ((wC aI aJ aL q d n kn rz ac up ar wk) ++ (wC aI aJ aL q2 d (n + 1) (rs_kin kn kn2 (rs_sp kn d (60 * k) (n - (d + 1)) + 1) k (n + d + 1)) rz2 ac2 up2 ar2 wk2)) := hD
              refine lv_iload hx hb dX1_refineInto_127 (lv_at hl 4 rfl) ?_
              refine lv_i2l hx hb dX1_refineInto_129 (v := (lN (k - kn i + (kn (i + d) - k)))) (nI_l (by omega)) ?_
              refine rs_cSL (rest := [.int (nI i), .ref (q2 (3 + a))]) (wr := (wC aI aJ aL q d n kn rz ac up ar wk) ++ (wC aI aJ aL q2 d (n + 1) (rs_kin kn kn2 (rs_sp kn d (60 * k) (n - (d + 1)) + 1) k (n + d + 1)) rz2 ac2 up2 ar2 wk2)) (ws' := fun u_130 => (wC aI aJ aL q d n kn rz ac up ar wk) ++ (wC aI aJ aL q2 d (n + 1) (rs_kin kn kn2 (rs_sp kn d (60 * k) (n - (d + 1)) + 1) k (n + d + 1)) rz2 ac2 up2 ar2 wk2)) ⟨hx, hb, hml, hown, hts⟩ (c_X1_quotient l D aI aJ aL _ (rs_ble kn d n rz a i k) (lN (k - kn i + (kn (i + d) - k))) ) (cwS 2 hts (rs_gS rw_235 rw_236 rw_4 rw_237) rfl rfl rfl (by decide +kernel) ⟨Nat.le_of_ble_eq_true rfl, Nat.le_of_ble_eq_true rfl⟩) hK hN hP hD hS hA [] [0, 1, 2, 3, 4, 5, 6, 7, 8, 9, 10, 11, 12, 13, 14, 15] [0, 1, 2, 3, 4, 5, 6, 7, 8, 9, 10, 11, 12, 13, 14, 15] (by decide) rfl rfl (fun _ => rfl) hl.1 rfl rfl (Nat.le_of_ble_eq_true rfl) dX1_refineInto_130 ⟨Nat.le_refl _, Nat.le_refl _⟩ (fun u_130 H locs hP hD hS => ?_)
              have hP : va_P D vwCl ((wC aI aJ aL q d n kn rz ac up ar wk) ++ (wC aI aJ aL q2 d (n + 1) (rs_kin kn kn2 (rs_sp kn d (60 * k) (n - (d + 1)) + 1) k (n + d + 1)) rz2 ac2 up2 ar2 wk2)) H := hP
              have hD : va_D A ((wC aI aJ aL q d n kn rz ac up ar wk) ++ (wC aI aJ aL q2 d (n + 1) (rs_kin kn kn2 (rs_sp kn d (60 * k) (n - (d + 1)) + 1) k (n + d + 1)) rz2 ac2 up2 ar2 wk2)) := hD
              refine rs_last hx hb hK hP hD hS (11 + a) 1 (co_3 (P := fun z => ((wC aI aJ aL q d n kn rz ac up ar wk) ++ (wC aI aJ aL q2 d (n + 1) (rs_kin kn kn2 (rs_sp kn d (60 * k) (n - (d + 1)) + 1) k (n + d + 1)) rz2 ac2 up2 ar2 wk2))[11 + z]? = some (q2 (3 + z), .inl (aJ, 19, .inr (.inl (rz2 z))))) rfl rfl rfl (by omega)) rfl (i := i) (by omega) (by decide) dX1_refineInto_133 (ws' := (wC aI aJ aL q d n kn rz ac up ar wk) ++ (wC aI aJ aL q2 d (n + 1) (rs_kin kn kn2 (rs_sp kn d (60 * k) (n - (d + 1)) + 1) k (n + d + 1)) (rs_upR rz2 a i (rs_quo (rs_ble kn d n rz a i k) (lN (k - kn i + (kn (i + d) - k))))) ac2 up2 ar2 wk2)) (co_3 (P := fun z => ((wC aI aJ aL q d n kn rz ac up ar wk) ++ (wC aI aJ aL q2 d (n + 1) (rs_kin kn kn2 (rs_sp kn d (60 * k) (n - (d + 1)) + 1) k (n + d + 1)) rz2 ac2 up2 ar2 wk2)).set (11 + z) (q2 (3 + z), .inl (aJ, 19, .inr (.inl (vp_updL (rz2 z) i (rs_quo (rs_ble kn d n rz a i k) (lN (k - kn i + (kn (i + d) - k)))))))) = ((wC aI aJ aL q d n kn rz ac up ar wk) ++ (wC aI aJ aL q2 d (n + 1) (rs_kin kn kn2 (rs_sp kn d (60 * k) (n - (d + 1)) + 1) k (n + d + 1)) (rs_upR rz2 z i (rs_quo (rs_ble kn d n rz a i k) (lN (k - kn i + (kn (i + d) - k))))) ac2 up2 ar2 wk2))) rfl rfl rfl (by omega)) (fun H locs hP hD hS => ?_)
              refine lv_iinc hx hb dX1_refineInto_134 hl (k := 5) rfl (v := nI (a + 1)) (rs_inc _ _) (by decide) (lv' := [(6, .int (nI (a + 1))), (0, .ref (q 0)), (1, .ref (q2 0)), (2, .int (nI k)), (4, .int (nI i)), (5, .int (nI (k - kn i + (kn (i + d) - k))))]) rfl (fun ls hl => ?_)
              refine lv_goto hx hb dX1_refineInto_137 (tgt := 103) rfl ?_
              exact ih_103 (a + 1) _ _ _ _ (by omega) (by omega) (hF.up rfl) (lv_sub hl [1, 2, 3, 4, 5, 0] rfl) hP hD hS
        exact L_103 ((3 - 0) + 1) 0 rz2 _ _ _ (Nat.lt_succ_self _) (Nat.zero_le _) hF (lv_sub hl [2, 3, 4, 5, 1, 0] rfl) hP hD hS
  exact L_74 ((n + 1 - 0) + 1) 0 rz2 _ _ _ (Nat.lt_succ_self _) (Nat.zero_le _) rs_F.zero (lv_sub hl [2, 3, 4, 0] rfl) hP hD hS

def rm_X1_refinesTo : Room := { frames := 3, cells := 0, slots := 0, locals := 237 }
set_option maxHeartbeats 4000000 in
set_option maxRecDepth 100000 in
theorem c_X1_refinesTo (l : Launch) (D : va_G) (aI aJ aL : ClassId) (sz : Nat) (q : Nat → Nat) (d : Nat) (n : Nat) (kn : Nat → Nat) (rz : Nat → Nat → Int64) (ac : Int32) (up : Int32) (ar : Nat → Nat) (wk : Nat → Int64) (q2 : Nat → Nat) (d2 : Nat) (n2 : Nat) (kn2 : Nat → Nat) (rz2 : Nat → Nat → Int64) (ac2 : Int32) (up2 : Int32) (ar2 : Nat → Nat) (wk2 : Nat → Int64) (k : Nat) (hd : d ≤ 3) (hn : n ≤ 19) (hk : ∀ i, kn i ≤ 6) (hd2 : d2 ≤ 3) (hn2 : n2 ≤ 19) (hk5 : k ≤ 5) : rs_MI (S := Unit) l yX1_refinesTo (Cond.code yX1_refinesTo prog_3_method_12_code 6 (some .boolean) :: rsW) rm_X1_refinesTo D vwCl (rs_tys aI aJ aL) rs_nw [.ref (q 0), .ref (q2 0), .int (nI k)] ((wC aI aJ aL q d n kn rz ac up ar wk) ++ (wC aI aJ aL q2 d2 n2 kn2 rz2 ac2 up2 ar2 wk2)) sz (rs_b (decide (rs_ref kn d n rz n2 rz2 k))) (fun uu => (wC aI aJ aL q d n kn rz ac up ar wk) ++ (wC aI aJ aL q2 d2 n2 kn2 rz2 ac2 up2 ar2 wk2)) := by
  refine rs_ent (cc := cX1_refinesTo) (maxL := 6) (ret := some .boolean) (Qc := rs_QI D vwCl _ _ _) (by decide) rfl (Nat.le_of_ble_eq_true rfl) ?_
  intro p e s m args below meth c ls A Q hx hb hr hml hlk hts hown hin hK hN hP hD hS hA hQ hl
  have hl : lv_has ls 6 [(0, .ref (q 0)), (1, .ref (q2 0)), (2, .int (nI k))] := hl
  refine lv_iconst hx hb dX1_refinesTo_0 (v := nI 0) (by decide) ?_
  refine lv_istore_n hx hb dX1_refinesTo_1 rfl hl (lv' := [(3, .int (nI 0)), (0, .ref (q 0)), (1, .ref (q2 0)), (2, .int (nI k))]) (by decide) rfl (fun ls hl => ?_)
  have L_2 : ∀ (k_2 : Nat) (i : Nat) (H : Heap) (locs : List Loc) (ls : Array Slot), n2 - i < k_2 → (i ≤ n2) → (∀ j, j < i → ∀ b, b < 3 → rs_rq kn d n rz n2 rz2 k j b) → lv_has ls 6 [(0, .ref (q 0)), (1, .ref (q2 0)), (2, .int (nI k)), (3, .int (nI i))] → va_P D vwCl ((wC aI aJ aL q d n kn rz ac up ar wk) ++ (wC aI aJ aL q2 d2 n2 kn2 rz2 ac2 up2 ar2 wk2)) H → va_D A ((wC aI aJ aL q d n kn rz ac up ar wk) ++ (wC aI aJ aL q2 d2 n2 kn2 rz2 ac2 up2 ar2 wk2)) → va_S A s.heap H locs → W p l e rm_X1_refinesTo s m args below meth c H locs 0 0 Q (F0 m 2 ls []) := by
    intro k_2
    induction k_2 with
    | zero => intro i H locs ls hk_2; exact absurd hk_2 (Nat.not_lt_zero _)
    | succ k_2 ih_2 =>
      intro i H locs ls hk_2 hi hF hl hP hD hS
      refine lv_iload_n hx hb dX1_refinesTo_2 rfl (lv_at hl 3 rfl) ?_
      refine lv_aload_n hx hb dX1_refinesTo_3 rfl (lv_at hl 1 rfl) ?_
      refine va_get hx hb hts inX1 hown hK hP 8 (ci := 1) (C := RX1) (T := TX1) (N := 8) rfl rfl 1 (by decide) (hts _ rw_84) (fun _ h => h) (v := .int (nI n2)) rfl dX1_refinesTo_4 ?_
      refine lv_icmp_ge hx hb dX1_refinesTo_7 (tgt := 71) rfl (fun h_7 => ?_) (fun h_7 => ?_)
      · have h_7 : n2 ≤ i := (nI_leI (by omega) (by omega)).1 h_7
        refine lv_iconst hx hb dX1_refinesTo_71 (v := nI 1) (by decide) ?_
        exact rs_iret () hx hb hr hlk hQ hK hP hD hS (by decide) (rs_bT (fun j hj => hF j (by omega))) rfl dX1_refinesTo_72
      · have h_7 : i < n2 := Nat.lt_of_not_le (fun z => h_7 ((nI_leI (by omega) (by omega)).2 z))
        refine lv_aload_n hx hb dX1_refinesTo_10 rfl (lv_at hl 0 rfl) ?_
        refine lv_iload_n hx hb dX1_refinesTo_11 rfl (lv_at hl 3 rfl) ?_
        refine lv_iload_n hx hb dX1_refinesTo_12 rfl (lv_at hl 2 rfl) ?_
        refine rs_cVI (rest := []) (wr := (wC aI aJ aL q2 d2 n2 kn2 rz2 ac2 up2 ar2 wk2)) (ws' := fun u_13 => (wC aI aJ aL q d n kn rz ac up ar wk) ++ (wC aI aJ aL q2 d2 n2 kn2 rz2 ac2 up2 ar2 wk2)) ⟨hx, hb, hml, hown, hts⟩ (c_X1_shareOfSame l D aI aJ aL _ q d n kn rz ac up ar wk i k hd (by omega) hk (by omega) (by omega)) (cwV 2 hts (rs_gV rw_216 rw_218 rv_1 rw_4 rw_219) rfl rfl rfl (by decide +kernel) ⟨Nat.le_of_ble_eq_true rfl, Nat.le_of_ble_eq_true rfl⟩) hK hN hP hD hS hA [0, 1, 2, 3, 4, 5, 6, 7] [8, 9, 10, 11, 12, 13, 14, 15] [8, 9, 10, 11, 12, 13, 14, 15, 0, 1, 2, 3, 4, 5, 6, 7] (by decide) rfl rfl (fun _ => rfl) 0 rfl rfl hl.1 rfl rfl (Nat.le_of_ble_eq_true rfl) dX1_refinesTo_13 ⟨Nat.le_refl _, Nat.le_refl _⟩ (fun u_13 H locs hP hD hS => ?_)
        have hP : va_P D vwCl ((wC aI aJ aL q d n kn rz ac up ar wk) ++ (wC aI aJ aL q2 d2 n2 kn2 rz2 ac2 up2 ar2 wk2)) H := hP
        have hD : va_D A ((wC aI aJ aL q d n kn rz ac up ar wk) ++ (wC aI aJ aL q2 d2 n2 kn2 rz2 ac2 up2 ar2 wk2)) := hD
        refine lv_aload_n hx hb dX1_refinesTo_16 rfl (lv_at hl 0 rfl) ?_
        refine lv_iload_n hx hb dX1_refinesTo_17 rfl (lv_at hl 3 rfl) ?_
        refine lv_iload_n hx hb dX1_refinesTo_18 rfl (lv_at hl 2 rfl) ?_
        refine rs_cVI (rest := [.int (nI (k - kn i))]) (wr := (wC aI aJ aL q2 d2 n2 kn2 rz2 ac2 up2 ar2 wk2)) (ws' := fun u_19 => (wC aI aJ aL q d n kn rz ac up ar wk) ++ (wC aI aJ aL q2 d2 n2 kn2 rz2 ac2 up2 ar2 wk2)) ⟨hx, hb, hml, hown, hts⟩ (c_X1_shareOfPrevious l D aI aJ aL _ q d n kn rz ac up ar wk i k hd (by omega) hk (by omega) (by omega)) (cwV 2 hts (rs_gV rw_223 rw_225 rv_2 rw_4 rw_226) rfl rfl rfl (by decide +kernel) ⟨Nat.le_of_ble_eq_true rfl, Nat.le_of_ble_eq_true rfl⟩) hK hN hP hD hS hA [0, 1, 2, 3, 4, 5, 6, 7] [8, 9, 10, 11, 12, 13, 14, 15] [8, 9, 10, 11, 12, 13, 14, 15, 0, 1, 2, 3, 4, 5, 6, 7] (by decide) rfl rfl (fun _ => rfl) 0 rfl rfl hl.1 rfl rfl (Nat.le_of_ble_eq_true rfl) dX1_refinesTo_19 ⟨Nat.le_refl _, Nat.le_refl _⟩ (fun u_19 H locs hP hD hS => ?_)
        have hP : va_P D vwCl ((wC aI aJ aL q d n kn rz ac up ar wk) ++ (wC aI aJ aL q2 d2 n2 kn2 rz2 ac2 up2 ar2 wk2)) H := hP
        have hD : va_D A ((wC aI aJ aL q d n kn rz ac up ar wk) ++ (wC aI aJ aL q2 d2 n2 kn2 rz2 ac2 up2 ar2 wk2)) := hD
        refine rs_iadd hx hb dX1_refinesTo_22 (v := nI ((k - kn i) + (kn (i + d) - k))) (nI_add _ _) ?_
        have hk7 := hk i
        have hk8 := hk (i + d)
        refine lv_istore hx hb dX1_refinesTo_23 hl (lv' := [(4, .int (nI ((k - kn i) + (kn (i + d) - k)))), (0, .ref (q 0)), (1, .ref (q2 0)), (2, .int (nI k)), (3, .int (nI i))]) (by decide) rfl (fun ls hl => ?_)
        refine lv_iconst hx hb dX1_refinesTo_25 (v := nI 0) (by decide) ?_
        refine lv_istore hx hb dX1_refinesTo_26 hl (lv' := [(5, .int (nI 0)), (4, .int (nI ((k - kn i) + (kn (i + d) - k)))), (0, .ref (q 0)), (1, .ref (q2 0)), (2, .int (nI k)), (3, .int (nI i))]) (by decide) rfl (fun ls hl => ?_)
        have L_28 : ∀ (k_28 : Nat) (a : Nat) (H : Heap) (locs : List Loc) (ls : Array Slot), 3 - a < k_28 → (a ≤ 3) → (∀ b, b < a → rs_rq kn d n rz n2 rz2 k i b) → lv_has ls 6 [(0, .ref (q 0)), (1, .ref (q2 0)), (2, .int (nI k)), (3, .int (nI i)), (4, .int (nI (k - kn i + (kn (i + d) - k)))), (5, .int (nI a))] → va_P D vwCl ((wC aI aJ aL q d n kn rz ac up ar wk) ++ (wC aI aJ aL q2 d2 n2 kn2 rz2 ac2 up2 ar2 wk2)) H → va_D A ((wC aI aJ aL q d n kn rz ac up ar wk) ++ (wC aI aJ aL q2 d2 n2 kn2 rz2 ac2 up2 ar2 wk2)) → va_S A s.heap H locs → W p l e rm_X1_refinesTo s m args below meth c H locs 0 0 Q (F0 m 28 ls []) := by
          intro k_28
          induction k_28 with
          | zero => intro a H locs ls hk_28; exact absurd hk_28 (Nat.not_lt_zero _)
          | succ k_28 ih_28 =>
            intro a H locs ls hk_28 ha hG hl hP hD hS
            refine lv_iload hx hb dX1_refinesTo_28 (lv_at hl 5 rfl) ?_
            refine lv_iconst hx hb dX1_refinesTo_30 (v := nI 3) (by decide) ?_
            refine lv_icmp_ge hx hb dX1_refinesTo_31 (tgt := 65) rfl (fun h_31 => ?_) (fun h_31 => ?_)
            · have h_31 : 3 ≤ a := (nI_leI (by omega) (by omega)).1 h_31
              refine lv_iinc hx hb dX1_refinesTo_65 hl (k := 3) rfl (v := nI (i + 1)) (rs_inc _ _) (by decide) (lv' := [(3, .int (nI (i + 1))), (0, .ref (q 0)), (1, .ref (q2 0)), (2, .int (nI k)), (4, .int (nI (k - kn i + (kn (i + d) - k)))), (5, .int (nI a))]) rfl (fun ls hl => ?_)
              refine lv_goto hx hb dX1_refinesTo_68 (tgt := 2) rfl ?_
              exact ih_2 (i + 1) _ _ _ (by omega) (by omega) (lt_s hF (fun b hb => hG b (by omega))) (lv_sub hl [1, 2, 3, 0] rfl) hP hD hS
            · have h_31 : a < 3 := Nat.lt_of_not_le (fun z => h_31 ((nI_leI (by omega) (by omega)).2 z))
              refine lv_iload hx hb dX1_refinesTo_34 (lv_at hl 4 rfl) ?_
              refine lv_i2l hx hb dX1_refinesTo_36 (v := (lN (k - kn i + (kn (i + d) - k)))) (nI_l (by omega)) ?_
              refine lv_aload_n hx hb dX1_refinesTo_37 rfl (lv_at hl 1 rfl) ?_
              refine lv_iload hx hb dX1_refinesTo_38 (lv_at hl 5 rfl) ?_
              refine lv_iload_n hx hb dX1_refinesTo_40 rfl (lv_at hl 3 rfl) ?_
              refine rs_cVL (rest := [.long (lN (k - kn i + (kn (i + d) - k)))]) (wr := (wC aI aJ aL q d n kn rz ac up ar wk)) (ws' := fun u_41 => (wC aI aJ aL q d n kn rz ac up ar wk) ++ (wC aI aJ aL q2 d2 n2 kn2 rz2 ac2 up2 ar2 wk2)) ⟨hx, hb, hml, hown, hts⟩ (c_X1_number l D aI aJ aL _ q2 d2 n2 kn2 rz2 ac2 up2 ar2 wk2 a (nI i) hd2 hn2 (by omega)) (cwV 2 hts (rs_gV rw_231 rw_232 rw_233 rw_4 rw_234) rfl rfl rfl (by decide +kernel) ⟨Nat.le_of_ble_eq_true rfl, Nat.le_of_ble_eq_true rfl⟩) hK hN hP hD hS hA [8, 9, 10, 11, 12, 13, 14, 15] [0, 1, 2, 3, 4, 5, 6, 7] [0, 1, 2, 3, 4, 5, 6, 7, 8, 9, 10, 11, 12, 13, 14, 15] (by decide) rfl rfl (fun _ => rfl) 8 rfl rfl hl.1 rfl rfl (Nat.le_of_ble_eq_true rfl) dX1_refinesTo_41 ⟨Nat.le_refl _, Nat.le_refl _⟩ (fun u_41 H locs hP hD hS => ?_)
              have hP : va_P D vwCl ((wC aI aJ aL q d n kn rz ac up ar wk) ++ (wC aI aJ aL q2 d2 n2 kn2 rz2 ac2 up2 ar2 wk2)) H := hP
              have hD : va_D A ((wC aI aJ aL q d n kn rz ac up ar wk) ++ (wC aI aJ aL q2 d2 n2 kn2 rz2 ac2 up2 ar2 wk2)) := hD
              refine lv_lmul hx hb dX1_refinesTo_44 ?_
              refine lv_aload_n hx hb dX1_refinesTo_45 rfl (lv_at hl 0 rfl) ?_
              refine lv_iload hx hb dX1_refinesTo_46 (lv_at hl 5 rfl) ?_
              refine lv_iload_n hx hb dX1_refinesTo_48 rfl (lv_at hl 3 rfl) ?_
              refine lv_iload_n hx hb dX1_refinesTo_49 rfl (lv_at hl 2 rfl) ?_
              refine rs_cVL (rest := [.long ((lN (k - kn i + (kn (i + d) - k))) * (rs_num rz2 n2 a (nI i)))]) (wr := (wC aI aJ aL q2 d2 n2 kn2 rz2 ac2 up2 ar2 wk2)) (ws' := fun u_50 => (wC aI aJ aL q d n kn rz ac up ar wk) ++ (wC aI aJ aL q2 d2 n2 kn2 rz2 ac2 up2 ar2 wk2)) ⟨hx, hb, hml, hown, hts⟩ (c_X1_blended l D aI aJ aL _ q d n kn rz ac up ar wk a i k hd hn hk (by omega) (by omega) (by omega)) (cwV 3 hts (rs_gV rw_227 rw_229 rv_3 rw_4 rw_230) rfl rfl rfl (by decide +kernel) ⟨Nat.le_of_ble_eq_true rfl, Nat.le_of_ble_eq_true rfl⟩) hK hN hP hD hS hA [0, 1, 2, 3, 4, 5, 6, 7] [8, 9, 10, 11, 12, 13, 14, 15] [8, 9, 10, 11, 12, 13, 14, 15, 0, 1, 2, 3, 4, 5, 6, 7] (by decide) rfl rfl (fun _ => rfl) 0 rfl rfl hl.1 rfl rfl (Nat.le_of_ble_eq_true rfl) dX1_refinesTo_50 ⟨Nat.le_refl _, Nat.le_refl _⟩ (fun u_50 H locs hP hD hS => ?_)
              have hP : va_P D vwCl ((wC aI aJ aL q d n kn rz ac up ar wk) ++ (wC aI aJ aL q2 d2 n2 kn2 rz2 ac2 up2 ar2 wk2)) H := hP
              have hD : va_D A ((wC aI aJ aL q d n kn rz ac up ar wk) ++ (wC aI aJ aL q2 d2 n2 kn2 rz2 ac2 up2 ar2 wk2)) := hD
              refine W.lcmp hx hb dX1_refinesTo_53 ?_
              refine lv_if_eq hx hb dX1_refinesTo_54 (tgt := 59) rfl (fun h_54 => ?_) (fun h_54 => ?_)
              · have h_54 : ((lN (k - kn i + (kn (i + d) - k))) * (rs_num rz2 n2 a (nI i))) = (rs_ble kn d n rz a i k) := (lg_cmp_eq _ _).1 h_54
                refine lv_iinc hx hb dX1_refinesTo_59 hl (k := 5) rfl (v := nI (a + 1)) (rs_inc _ _) (by decide) (lv' := [(5, .int (nI (a + 1))), (0, .ref (q 0)), (1, .ref (q2 0)), (2, .int (nI k)), (3, .int (nI i)), (4, .int (nI (k - kn i + (kn (i + d) - k))))]) rfl (fun ls hl => ?_)
                refine lv_goto hx hb dX1_refinesTo_62 (tgt := 28) rfl ?_
                exact ih_28 (a + 1) _ _ _ (by omega) (by omega) (lt_s hG h_54) (lv_sub hl [1, 2, 3, 4, 5, 0] rfl) hP hD hS
              · have h_54 : ¬ (((lN (k - kn i + (kn (i + d) - k))) * (rs_num rz2 n2 a (nI i))) = (rs_ble kn d n rz a i k)) := fun z => h_54 ((lg_cmp_eq _ _).2 z)
                refine lv_iconst hx hb dX1_refinesTo_57 (v := nI 0) (by decide) ?_
                exact rs_iret () hx hb hr hlk hQ hK hP hD hS (by decide) (rs_bF (fun z => h_54 (z i (by omega) a (by omega)))) rfl dX1_refinesTo_58
        exact L_28 ((3 - 0) + 1) 0 _ _ _ (Nat.lt_succ_self _) (Nat.zero_le _) lt_0 (lv_sub hl [2, 3, 4, 5, 1, 0] rfl) hP hD hS
  exact L_2 ((n2 - 0) + 1) 0 _ _ _ (Nat.lt_succ_self _) (Nat.zero_le _) lt_0 (lv_sub hl [1, 2, 3, 0] rfl) hP hD hS

def rm_X1_unblended : Room := { frames := 2, cells := 0, slots := 0, locals := 151 }
set_option maxHeartbeats 4000000 in
set_option maxRecDepth 100000 in
theorem c_X1_unblended (l : Launch) (D : va_G) (aI aJ aL : ClassId) (sz : Nat) (q : Nat → Nat) (d : Nat) (n : Nat) (kn : Nat → Nat) (rz : Nat → Nat → Int64) (ac : Int32) (up : Int32) (ar : Nat → Nat) (wk : Nat → Int64) (q2 : Nat → Nat) (d2 : Nat) (n2 : Nat) (kn2 : Nat → Nat) (rz2 : Nat → Nat → Int64) (ac2 : Int32) (up2 : Int32) (ar2 : Nat → Nat) (wk2 : Nat → Int64) (ax : Nat) (i : Nat) (k : Nat) (hd : d ≤ 3) (hn : n ≤ 19) (hk : ∀ i, kn i ≤ 6) (hd2 : d2 ≤ 3) (hn2 : n2 ≤ 19) (hax : ax < 3) (hi : i ≤ 18) (hk5 : k ≤ 5) : rs_ML (S := Unit) l yX1_unblended (Cond.code yX1_unblended prog_3_method_14_code 7 (some .long) :: rsW) rm_X1_unblended D vwCl (rs_tys aI aJ aL) rs_nw [.ref (q 0), .ref (q2 0), .int (nI ax), .int (nI i), .int (nI k)] ((wC aI aJ aL q d n kn rz ac up ar wk) ++ (wC aI aJ aL q2 d2 n2 kn2 rz2 ac2 up2 ar2 wk2)) sz (rs_unb kn d n2 rz2 (rs_num rz n ax (nI i - nI 1)) ax i k) (fun uu => (wC aI aJ aL q d n kn rz ac up ar wk) ++ (wC aI aJ aL q2 d2 n2 kn2 rz2 ac2 up2 ar2 wk2)) := by
  refine rs_ent (cc := cX1_unblended) (maxL := 7) (ret := some .long) (Qc := rs_QL D vwCl _ _ _) (by decide) rfl (Nat.le_of_ble_eq_true rfl) ?_
  intro p e s m args below meth c ls A Q hx hb hr hml hlk hts hown hin hK hN hP hD hS hA hQ hl
  have hl : lv_has ls 7 [(0, .ref (q 0)), (1, .ref (q2 0)), (2, .int (nI ax)), (3, .int (nI i)), (4, .int (nI k))] := hl
  refine lv_aload_n hx hb dX1_unblended_0 rfl (lv_at hl 0 rfl) ?_
  refine lv_iload_n hx hb dX1_unblended_1 rfl (lv_at hl 3 rfl) ?_
  refine lv_iload hx hb dX1_unblended_2 (lv_at hl 4 rfl) ?_
  refine rs_cVI (rest := []) (wr := (wC aI aJ aL q2 d2 n2 kn2 rz2 ac2 up2 ar2 wk2)) (ws' := fun u_4 => (wC aI aJ aL q d n kn rz ac up ar wk) ++ (wC aI aJ aL q2 d2 n2 kn2 rz2 ac2 up2 ar2 wk2)) ⟨hx, hb, hml, hown, hts⟩ (c_X1_shareOfSame l D aI aJ aL _ q d n kn rz ac up ar wk i k hd hn hk (by omega) (by omega)) (cwV 2 hts (rs_gV rw_216 rw_218 rv_1 rw_4 rw_219) rfl rfl rfl (by decide +kernel) ⟨Nat.le_of_ble_eq_true rfl, Nat.le_of_ble_eq_true rfl⟩) hK hN hP hD hS hA [0, 1, 2, 3, 4, 5, 6, 7] [8, 9, 10, 11, 12, 13, 14, 15] [8, 9, 10, 11, 12, 13, 14, 15, 0, 1, 2, 3, 4, 5, 6, 7] (by decide) rfl rfl (fun _ => rfl) 0 rfl rfl hl.1 rfl rfl (Nat.le_of_ble_eq_true rfl) dX1_unblended_4 ⟨Nat.le_refl _, Nat.le_refl _⟩ (fun u_4 H locs hP hD hS => ?_)
  have hP : va_P D vwCl ((wC aI aJ aL q d n kn rz ac up ar wk) ++ (wC aI aJ aL q2 d2 n2 kn2 rz2 ac2 up2 ar2 wk2)) H := hP
  have hD : va_D A ((wC aI aJ aL q d n kn rz ac up ar wk) ++ (wC aI aJ aL q2 d2 n2 kn2 rz2 ac2 up2 ar2 wk2)) := hD
  have hk7 := hk i
  refine lv_istore hx hb dX1_unblended_7 hl (lv' := [(5, .int (nI (k - kn i))), (0, .ref (q 0)), (1, .ref (q2 0)), (2, .int (nI ax)), (3, .int (nI i)), (4, .int (nI k))]) (by decide) rfl (fun ls hl => ?_)
  refine lv_iload hx hb dX1_unblended_9 (lv_at hl 0 rfl) ?_
  refine lv_if_ne hx hb dX1_unblended_11 (tgt := 23) rfl (fun h_11 => ?_) (fun h_11 => ?_)
  · have h_11 : 0 < (k - kn i) := rs_z2 (by omega) h_11
    refine lv_aload_n hx hb dX1_unblended_23 rfl (lv_at hl 1 rfl) ?_
    refine lv_iload_n hx hb dX1_unblended_24 rfl (lv_at hl 4 rfl) ?_
    refine lv_iload hx hb dX1_unblended_25 (lv_at hl 5 rfl) ?_
    refine rs_cVI (rest := []) (wr := (wC aI aJ aL q2 d2 n2 kn2 rz2 ac2 up2 ar2 wk2)) (ws' := fun u_27 => (wC aI aJ aL q d n kn rz ac up ar wk) ++ (wC aI aJ aL q2 d2 n2 kn2 rz2 ac2 up2 ar2 wk2)) ⟨hx, hb, hml, hown, hts⟩ (c_X1_shareOfPrevious l D aI aJ aL _ q d n kn rz ac up ar wk i k hd hn hk (by omega) (by omega)) (cwV 2 hts (rs_gV rw_223 rw_225 rv_2 rw_4 rw_226) rfl rfl rfl (by decide +kernel) ⟨Nat.le_of_ble_eq_true rfl, Nat.le_of_ble_eq_true rfl⟩) hK hN hP hD hS hA [0, 1, 2, 3, 4, 5, 6, 7] [8, 9, 10, 11, 12, 13, 14, 15] [8, 9, 10, 11, 12, 13, 14, 15, 0, 1, 2, 3, 4, 5, 6, 7] (by decide) rfl rfl (fun _ => rfl) 0 rfl rfl hl.1 rfl rfl (Nat.le_of_ble_eq_true rfl) dX1_unblended_27 ⟨Nat.le_refl _, Nat.le_refl _⟩ (fun u_27 H locs hP hD hS => ?_)
    have hP : va_P D vwCl ((wC aI aJ aL q d n kn rz ac up ar wk) ++ (wC aI aJ aL q2 d2 n2 kn2 rz2 ac2 up2 ar2 wk2)) H := hP
    have hD : va_D A ((wC aI aJ aL q d n kn rz ac up ar wk) ++ (wC aI aJ aL q2 d2 n2 kn2 rz2 ac2 up2 ar2 wk2)) := hD
    have hk8 := hk (i + d)
    refine lv_istore hx hb dX1_unblended_30 hl (lv' := [(6, .int (nI (kn (i + d) - k))), (5, .int (nI (k - kn i))), (0, .ref (q 0)), (1, .ref (q2 0)), (2, .int (nI ax)), (3, .int (nI i)), (4, .int (nI k))]) (by decide) rfl (fun ls hl => ?_)
    refine lv_iload hx hb dX1_unblended_32 (lv_at hl 1 rfl) ?_
    refine lv_iload hx hb dX1_unblended_34 (lv_at hl 0 rfl) ?_
    refine rs_iadd hx hb dX1_unblended_36 (v := nI ((k - kn i) + (kn (i + d) - k))) (nI_add _ _) ?_
    refine lv_i2l hx hb dX1_unblended_37 (v := (lN ((k - kn i) + (kn (i + d) - k)))) (nI_l (by omega)) ?_
    refine lv_aload_n hx hb dX1_unblended_38 rfl (lv_at hl 3 rfl) ?_
    refine lv_iload_n hx hb dX1_unblended_39 rfl (lv_at hl 4 rfl) ?_
    refine lv_iload_n hx hb dX1_unblended_40 rfl (lv_at hl 5 rfl) ?_
    refine rs_cVL (rest := [.long (lN ((k - kn i) + (kn (i + d) - k)))]) (wr := (wC aI aJ aL q d n kn rz ac up ar wk)) (ws' := fun u_41 => (wC aI aJ aL q d n kn rz ac up ar wk) ++ (wC aI aJ aL q2 d2 n2 kn2 rz2 ac2 up2 ar2 wk2)) ⟨hx, hb, hml, hown, hts⟩ (c_X1_number l D aI aJ aL _ q2 d2 n2 kn2 rz2 ac2 up2 ar2 wk2 ax (nI i) hd2 hn2 hax) (cwV 2 hts (rs_gV rw_231 rw_232 rw_233 rw_4 rw_234) rfl rfl rfl (by decide +kernel) ⟨Nat.le_of_ble_eq_true rfl, Nat.le_of_ble_eq_true rfl⟩) hK hN hP hD hS hA [8, 9, 10, 11, 12, 13, 14, 15] [0, 1, 2, 3, 4, 5, 6, 7] [0, 1, 2, 3, 4, 5, 6, 7, 8, 9, 10, 11, 12, 13, 14, 15] (by decide) rfl rfl (fun _ => rfl) 8 rfl rfl hl.1 rfl rfl (Nat.le_of_ble_eq_true rfl) dX1_unblended_41 ⟨Nat.le_refl _, Nat.le_refl _⟩ (fun u_41 H locs hP hD hS => ?_)
    have hP : va_P D vwCl ((wC aI aJ aL q d n kn rz ac up ar wk) ++ (wC aI aJ aL q2 d2 n2 kn2 rz2 ac2 up2 ar2 wk2)) H := hP
    have hD : va_D A ((wC aI aJ aL q d n kn rz ac up ar wk) ++ (wC aI aJ aL q2 d2 n2 kn2 rz2 ac2 up2 ar2 wk2)) := hD
    refine lv_lmul hx hb dX1_unblended_44 ?_
    refine lv_iload hx hb dX1_unblended_45 (lv_at hl 0 rfl) ?_
    refine lv_i2l hx hb dX1_unblended_47 (v := (lN (kn (i + d) - k))) (nI_l (by omega)) ?_
    refine lv_aload_n hx hb dX1_unblended_48 rfl (lv_at hl 2 rfl) ?_
    refine lv_iload_n hx hb dX1_unblended_49 rfl (lv_at hl 4 rfl) ?_
    refine lv_iload_n hx hb dX1_unblended_50 rfl (lv_at hl 5 rfl) ?_
    refine lv_iconst hx hb dX1_unblended_51 (v := nI 1) (by decide) ?_
    refine rs_isub hx hb dX1_unblended_52 (v := (nI i - nI 1)) rfl ?_
    refine rs_cVL (rest := [.long (lN (kn (i + d) - k)), .long ((lN ((k - kn i) + (kn (i + d) - k))) * (rs_num rz2 n2 ax (nI i)))]) (wr := (wC aI aJ aL q2 d2 n2 kn2 rz2 ac2 up2 ar2 wk2)) (ws' := fun u_53 => (wC aI aJ aL q d n kn rz ac up ar wk) ++ (wC aI aJ aL q2 d2 n2 kn2 rz2 ac2 up2 ar2 wk2)) ⟨hx, hb, hml, hown, hts⟩ (c_X1_number l D aI aJ aL _ q d n kn rz ac up ar wk ax (nI i - nI 1) hd hn hax) (cwV 2 hts (rs_gV rw_231 rw_232 rw_233 rw_4 rw_234) rfl rfl rfl (by decide +kernel) ⟨Nat.le_of_ble_eq_true rfl, Nat.le_of_ble_eq_true rfl⟩) hK hN hP hD hS hA [0, 1, 2, 3, 4, 5, 6, 7] [8, 9, 10, 11, 12, 13, 14, 15] [8, 9, 10, 11, 12, 13, 14, 15, 0, 1, 2, 3, 4, 5, 6, 7] (by decide) rfl rfl (fun _ => rfl) 0 rfl rfl hl.1 rfl rfl (Nat.le_of_ble_eq_true rfl) dX1_unblended_53 ⟨Nat.le_refl _, Nat.le_refl _⟩ (fun u_53 H locs hP hD hS => ?_)
    have hP : va_P D vwCl ((wC aI aJ aL q d n kn rz ac up ar wk) ++ (wC aI aJ aL q2 d2 n2 kn2 rz2 ac2 up2 ar2 wk2)) H := hP
    have hD : va_D A ((wC aI aJ aL q d n kn rz ac up ar wk) ++ (wC aI aJ aL q2 d2 n2 kn2 rz2 ac2 up2 ar2 wk2)) := hD
    refine lv_lmul hx hb dX1_unblended_56 ?_
    refine lv_lsub hx hb dX1_unblended_57 ?_
    refine lv_iload hx hb dX1_unblended_58 (lv_at hl 1 rfl) ?_
    refine lv_i2l hx hb dX1_unblended_60 (v := (lN (k - kn i))) (nI_l (by omega)) ?_
    refine rs_cSL (rest := []) (wr := (wC aI aJ aL q d n kn rz ac up ar wk) ++ (wC aI aJ aL q2 d2 n2 kn2 rz2 ac2 up2 ar2 wk2)) (ws' := fun u_61 => (wC aI aJ aL q d n kn rz ac up ar wk) ++ (wC aI aJ aL q2 d2 n2 kn2 rz2 ac2 up2 ar2 wk2)) ⟨hx, hb, hml, hown, hts⟩ (c_X1_quotient l D aI aJ aL _ (((lN ((k - kn i) + (kn (i + d) - k))) * (rs_num rz2 n2 ax (nI i))) - ((lN (kn (i + d) - k)) * (rs_num rz n ax (nI i - nI 1)))) (lN (k - kn i)) ) (cwS 2 hts (rs_gS rw_235 rw_236 rw_4 rw_237) rfl rfl rfl (by decide +kernel) ⟨Nat.le_of_ble_eq_true rfl, Nat.le_of_ble_eq_true rfl⟩) hK hN hP hD hS hA [] [0, 1, 2, 3, 4, 5, 6, 7, 8, 9, 10, 11, 12, 13, 14, 15] [0, 1, 2, 3, 4, 5, 6, 7, 8, 9, 10, 11, 12, 13, 14, 15] (by decide) rfl rfl (fun _ => rfl) hl.1 rfl rfl (Nat.le_of_ble_eq_true rfl) dX1_unblended_61 ⟨Nat.le_refl _, Nat.le_refl _⟩ (fun u_61 H locs hP hD hS => ?_)
    have hP : va_P D vwCl ((wC aI aJ aL q d n kn rz ac up ar wk) ++ (wC aI aJ aL q2 d2 n2 kn2 rz2 ac2 up2 ar2 wk2)) H := hP
    have hD : va_D A ((wC aI aJ aL q d n kn rz ac up ar wk) ++ (wC aI aJ aL q2 d2 n2 kn2 rz2 ac2 up2 ar2 wk2)) := hD
    exact rs_lret () hx hb hr hlk hQ hK hP hD hS (if_neg (by omega)).symm rfl dX1_unblended_64
  · have h_11 : (k - kn i) = 0 := rs_z1 (by omega) h_11
    refine lv_aload_n hx hb dX1_unblended_14 rfl (lv_at hl 2 rfl) ?_
    refine lv_iload_n hx hb dX1_unblended_15 rfl (lv_at hl 3 rfl) ?_
    refine lv_iload_n hx hb dX1_unblended_16 rfl (lv_at hl 4 rfl) ?_
    refine lv_iconst hx hb dX1_unblended_17 (v := nI 1) (by decide) ?_
    refine rs_iadd hx hb dX1_unblended_18 (v := nI (i + 1)) (nI_add _ _) ?_
    refine rs_cVL (rest := []) (wr := (wC aI aJ aL q d n kn rz ac up ar wk)) (ws' := fun u_19 => (wC aI aJ aL q d n kn rz ac up ar wk) ++ (wC aI aJ aL q2 d2 n2 kn2 rz2 ac2 up2 ar2 wk2)) ⟨hx, hb, hml, hown, hts⟩ (c_X1_number l D aI aJ aL _ q2 d2 n2 kn2 rz2 ac2 up2 ar2 wk2 ax (nI (i + 1)) hd2 hn2 hax) (cwV 2 hts (rs_gV rw_231 rw_232 rw_233 rw_4 rw_234) rfl rfl rfl (by decide +kernel) ⟨Nat.le_of_ble_eq_true rfl, Nat.le_of_ble_eq_true rfl⟩) hK hN hP hD hS hA [8, 9, 10, 11, 12, 13, 14, 15] [0, 1, 2, 3, 4, 5, 6, 7] [0, 1, 2, 3, 4, 5, 6, 7, 8, 9, 10, 11, 12, 13, 14, 15] (by decide) rfl rfl (fun _ => rfl) 8 rfl rfl hl.1 rfl rfl (Nat.le_of_ble_eq_true rfl) dX1_unblended_19 ⟨Nat.le_refl _, Nat.le_refl _⟩ (fun u_19 H locs hP hD hS => ?_)
    have hP : va_P D vwCl ((wC aI aJ aL q d n kn rz ac up ar wk) ++ (wC aI aJ aL q2 d2 n2 kn2 rz2 ac2 up2 ar2 wk2)) H := hP
    have hD : va_D A ((wC aI aJ aL q d n kn rz ac up ar wk) ++ (wC aI aJ aL q2 d2 n2 kn2 rz2 ac2 up2 ar2 wk2)) := hD
    exact rs_lret () hx hb hr hlk hQ hK hP hD hS (if_pos h_11).symm rfl dX1_unblended_22

def rm_X1_coarsenInto : Room := { frames := 3, cells := 0, slots := 0, locals := 241 }
set_option maxHeartbeats 4000000 in
set_option maxRecDepth 100000 in
theorem c_X1_coarsenInto (l : Launch) (D : va_G) (aI aJ aL : ClassId) (sz : Nat) (q : Nat → Nat) (d : Nat) (n : Nat) (kn : Nat → Nat) (rz : Nat → Nat → Int64) (ac : Int32) (up : Int32) (ar : Nat → Nat) (wk : Nat → Int64) (q2 : Nat → Nat) (d2 : Nat) (n2 : Nat) (kn2 : Nat → Nat) (rz2 : Nat → Nat → Int64) (ac2 : Int32) (up2 : Int32) (ar2 : Nat → Nat) (wk2 : Nat → Int64) (k : Nat) (hd : d ≤ 3) (hn : n ≤ 19) (hdn : d + 1 ≤ n) (hk : ∀ i, kn i ≤ 6) (hk2 : ∀ i, kn2 i ≤ 6) (hk5 : k ≤ 5) : rs_MV (S := {x : Nat → Nat → Int64 // rs_F (fun b j => rs_coa (rs_kout kn kn2 (rs_sp kn d (60 * k) (n - (d + 1))) (n + d + 1)) d n rz k b j) x (n - 1) 0}) l yX1_coarsenInto (Cond.code yX1_coarsenInto prog_3_method_13_code 6 none :: rsW) rm_X1_coarsenInto D vwCl (rs_tys aI aJ aL) rs_nw [.ref (q 0), .ref (q2 0), .int (nI k)] ((wC aI aJ aL q d n kn rz ac up ar wk) ++ (wC aI aJ aL q2 d2 n2 kn2 rz2 ac2 up2 ar2 wk2)) sz (fun uu => (wC aI aJ aL q d n kn rz ac up ar wk) ++ (wC aI aJ aL q2 d (n - 1) (rs_kout kn kn2 (rs_sp kn d (60 * k) (n - (d + 1))) (n + d + 1)) uu.1 ac2 up2 ar2 wk2)) := by
  refine rs_ent (cc := cX1_coarsenInto) (maxL := 6) (ret := none) (Qc := rs_QV D vwCl _ _) (by decide) rfl (Nat.le_of_ble_eq_true rfl) ?_
  intro p e s m args below meth c ls A Q hx hb hr hml hlk hts hown hin hK hN hP hD hS hA hQ hl
  have hl : lv_has ls 6 [(0, .ref (q 0)), (1, .ref (q2 0)), (2, .int (nI k))] := hl
  refine lv_aload_n hx hb dX1_coarsenInto_0 rfl (lv_at hl 1 rfl) ?_
  refine lv_aload_n hx hb dX1_coarsenInto_1 rfl (lv_at hl 0 rfl) ?_
  refine va_get hx hb hts inX1 hown hK hP 0 (ci := 1) (C := RX1) (T := TX1) (N := 8) rfl rfl 0 (by decide) (hts _ rw_80) (fun _ h => h) (v := .int (nI d)) rfl dX1_coarsenInto_2 ?_
  refine va_put hx hb hts inX1 (ty0 := tyX1) tyX1_ok nmX1 hown hK hP hD hS 8 (ci := 1) (C := RX1) (T := TX1) (N := 8) rfl rfl 0 (by decide) (hts _ rw_80) (fun _ h => h) rfl (ty := .int) (by decide +kernel) rfl rfl (Nat.le_of_ble_eq_true rfl) dX1_coarsenInto_5 (fun H locs hP hD hS => ?_)
  have hP : va_P D vwCl ((wC aI aJ aL q d n kn rz ac up ar wk) ++ (wC aI aJ aL q2 d n2 kn2 rz2 ac2 up2 ar2 wk2)) H := hP
  have hD : va_D A ((wC aI aJ aL q d n kn rz ac up ar wk) ++ (wC aI aJ aL q2 d n2 kn2 rz2 ac2 up2 ar2 wk2)) := hD
  refine lv_aload_n hx hb dX1_coarsenInto_8 rfl (lv_at hl 1 rfl) ?_
  refine lv_aload_n hx hb dX1_coarsenInto_9 rfl (lv_at hl 0 rfl) ?_
  refine va_get hx hb hts inX1 hown hK hP 0 (ci := 1) (C := RX1) (T := TX1) (N := 8) rfl rfl 1 (by decide) (hts _ rw_84) (fun _ h => h) (v := .int (nI n)) rfl dX1_coarsenInto_10 ?_
  refine lv_iconst hx hb dX1_coarsenInto_13 (v := nI 1) (by decide) ?_
  refine rs_isub hx hb dX1_coarsenInto_14 (v := nI (n - 1)) (pk_sub (by omega)) ?_
  refine va_put hx hb hts inX1 (ty0 := tyX1) tyX1_ok nmX1 hown hK hP hD hS 8 (ci := 1) (C := RX1) (T := TX1) (N := 8) rfl rfl 1 (by decide) (hts _ rw_84) (fun _ h => h) rfl (ty := .int) (by decide +kernel) rfl rfl (Nat.le_of_ble_eq_true rfl) dX1_coarsenInto_15 (fun H locs hP hD hS => ?_)
  have hP : va_P D vwCl ((wC aI aJ aL q d n kn rz ac up ar wk) ++ (wC aI aJ aL q2 d (n - 1) kn2 rz2 ac2 up2 ar2 wk2)) H := hP
  have hD : va_D A ((wC aI aJ aL q d n kn rz ac up ar wk) ++ (wC aI aJ aL q2 d (n - 1) kn2 rz2 ac2 up2 ar2 wk2)) := hD
  refine lv_aload_n hx hb dX1_coarsenInto_18 rfl (lv_at hl 0 rfl) ?_
  refine lv_bipush hx hb dX1_coarsenInto_19 (v := nI 60) (by decide) ?_
  refine lv_iload_n hx hb dX1_coarsenInto_21 rfl (lv_at hl 2 rfl) ?_
  refine rs_imul hx hb dX1_coarsenInto_22 (v := nI (60 * k)) (pk_mul _ _) ?_
  refine rs_cVI (rest := []) (wr := (wC aI aJ aL q2 d (n - 1) kn2 rz2 ac2 up2 ar2 wk2)) (ws' := fun u_23 => (wC aI aJ aL q d n kn rz ac up ar wk) ++ (wC aI aJ aL q2 d (n - 1) kn2 rz2 ac2 up2 ar2 wk2)) ⟨hx, hb, hml, hown, hts⟩ (c_X1_spanOf l D aI aJ aL _ q d n kn rz ac up ar wk (60 * k) hd (by omega) hk (by omega)) (cwV 1 hts (rs_gV rw_205 rw_206 rw_207 rw_4 rw_208) rfl rfl rfl (by decide +kernel) ⟨Nat.le_of_ble_eq_true rfl, Nat.le_of_ble_eq_true rfl⟩) hK hN hP hD hS hA [0, 1, 2, 3, 4, 5, 6, 7] [8, 9, 10, 11, 12, 13, 14, 15] [8, 9, 10, 11, 12, 13, 14, 15, 0, 1, 2, 3, 4, 5, 6, 7] (by decide) rfl rfl (fun _ => rfl) 0 rfl rfl hl.1 rfl rfl (Nat.le_of_ble_eq_true rfl) dX1_coarsenInto_23 ⟨Nat.le_refl _, Nat.le_refl _⟩ (fun u_23 H locs hP hD hS => ?_)
  have hP : va_P D vwCl ((wC aI aJ aL q d n kn rz ac up ar wk) ++ (wC aI aJ aL q2 d (n - 1) kn2 rz2 ac2 up2 ar2 wk2)) H := hP
  have hD : va_D A ((wC aI aJ aL q d n kn rz ac up ar wk) ++ (wC aI aJ aL q2 d (n - 1) kn2 rz2 ac2 up2 ar2 wk2)) := hD
  have hp1 := rs_sp_le kn d (60 * k) (n - (d + 1))
  refine lv_istore_n hx hb dX1_coarsenInto_26 rfl hl (lv' := [(3, .int (nI (rs_sp kn d (60 * k) (n - (d + 1))))), (0, .ref (q 0)), (1, .ref (q2 0)), (2, .int (nI k))]) (by decide) rfl (fun ls hl => ?_)
  refine lv_aload_n hx hb dX1_coarsenInto_27 rfl (lv_at hl 1 rfl) ?_
  refine va_get hx hb hts inX1 hown hK hP 0 (ci := 1) (C := RX1) (T := TX1) (N := 8) rfl rfl 2 (by decide) (hts _ rw_88) (fun _ h => h) (v := .ref (q 1)) rfl dX1_coarsenInto_28 ?_
  refine lv_iconst hx hb dX1_coarsenInto_31 (v := nI 0) (by decide) ?_
  refine lv_aload_n hx hb dX1_coarsenInto_32 rfl (lv_at hl 2 rfl) ?_
  refine va_get hx hb hts inX1 hown hK hP 8 (ci := 1) (C := RX1) (T := TX1) (N := 8) rfl rfl 2 (by decide) (hts _ rw_88) (fun _ h => h) (v := .ref (q2 1)) rfl dX1_coarsenInto_33 ?_
  refine lv_iconst hx hb dX1_coarsenInto_36 (v := nI 0) (by decide) ?_
  refine lv_iload_n hx hb dX1_coarsenInto_37 rfl (lv_at hl 0 rfl) ?_
  refine rs_copy hx hb (by rw [hml]; exact hl.1.symm) hown (hts (Cond.methodLink RX1 54 arraycopyName) rw_209) (hts (Cond.native arraycopyName) rw_211) (hts (Cond.static arraycopyName) rw_210) (hts _ rw_6) hK hP hD hS 1 9 0 0 (f := kn) (g := kn2) rfl rfl rfl rfl (sp := 0) (dp := 0) (k := (rs_sp kn d (60 * k) (n - (d + 1)))) (by omega) (by omega) (by decide) (by decide) (Nat.le_of_ble_eq_true rfl) (Nat.le_of_ble_eq_true rfl) dX1_coarsenInto_38 (ws' := (wC aI aJ aL q d n kn rz ac up ar wk) ++ (wC aI aJ aL q2 d (n - 1) (va_cpy kn kn2 0 0 (rs_sp kn d (60 * k) (n - (d + 1)))) rz2 ac2 up2 ar2 wk2)) rfl (fun H locs hP hD hS => ?_)
  refine lv_aload_n hx hb dX1_coarsenInto_41 rfl (lv_at hl 1 rfl) ?_
  refine va_get hx hb hts inX1 hown hK hP 0 (ci := 1) (C := RX1) (T := TX1) (N := 8) rfl rfl 2 (by decide) (hts _ rw_88) (fun _ h => h) (v := .ref (q 1)) rfl dX1_coarsenInto_42 ?_
  refine lv_iload_n hx hb dX1_coarsenInto_45 rfl (lv_at hl 0 rfl) ?_
  refine lv_iconst hx hb dX1_coarsenInto_46 (v := nI 1) (by decide) ?_
  refine rs_iadd hx hb dX1_coarsenInto_47 (v := nI ((rs_sp kn d (60 * k) (n - (d + 1))) + 1)) (nI_add _ _) ?_
  refine lv_aload_n hx hb dX1_coarsenInto_48 rfl (lv_at hl 2 rfl) ?_
  refine va_get hx hb hts inX1 hown hK hP 8 (ci := 1) (C := RX1) (T := TX1) (N := 8) rfl rfl 2 (by decide) (hts _ rw_88) (fun _ h => h) (v := .ref (q2 1)) rfl dX1_coarsenInto_49 ?_
  refine lv_iload_n hx hb dX1_coarsenInto_52 rfl (lv_at hl 0 rfl) ?_
  refine lv_aload_n hx hb dX1_coarsenInto_53 rfl (lv_at hl 1 rfl) ?_
  refine rs_cVI (rest := [.int (nI (rs_sp kn d (60 * k) (n - (d + 1)))), .ref (q2 1), .int (nI ((rs_sp kn d (60 * k) (n - (d + 1))) + 1)), .ref (q 1)]) (wr := (wC aI aJ aL q2 d (n - 1) (va_cpy kn kn2 0 0 (rs_sp kn d (60 * k) (n - (d + 1)))) rz2 ac2 up2 ar2 wk2)) (ws' := fun u_54 => (wC aI aJ aL q d n kn rz ac up ar wk) ++ (wC aI aJ aL q2 d (n - 1) (va_cpy kn kn2 0 0 (rs_sp kn d (60 * k) (n - (d + 1)))) rz2 ac2 up2 ar2 wk2)) ⟨hx, hb, hml, hown, hts⟩ (c_X1_knotCount l D aI aJ aL _ q d n kn rz ac up ar wk hd (by omega)) (cwV 0 hts (rs_gV rw_212 rw_213 rw_214 rw_4 rw_215) rfl rfl rfl (by decide +kernel) ⟨Nat.le_of_ble_eq_true rfl, Nat.le_of_ble_eq_true rfl⟩) hK hN hP hD hS hA [0, 1, 2, 3, 4, 5, 6, 7] [8, 9, 10, 11, 12, 13, 14, 15] [8, 9, 10, 11, 12, 13, 14, 15, 0, 1, 2, 3, 4, 5, 6, 7] (by decide) rfl rfl (fun _ => rfl) 0 rfl rfl hl.1 rfl rfl (Nat.le_of_ble_eq_true rfl) dX1_coarsenInto_54 ⟨Nat.le_refl _, Nat.le_refl _⟩ (fun u_54 H locs hP hD hS => ?_)
  have hP : va_P D vwCl ((wC aI aJ aL q d n kn rz ac up ar wk) ++ (wC aI aJ aL q2 d (n - 1) (va_cpy kn kn2 0 0 (rs_sp kn d (60 * k) (n - (d + 1)))) rz2 ac2 up2 ar2 wk2)) H := hP
  have hD : va_D A ((wC aI aJ aL q d n kn rz ac up ar wk) ++ (wC aI aJ aL q2 d (n - 1) (va_cpy kn kn2 0 0 (rs_sp kn d (60 * k) (n - (d + 1)))) rz2 ac2 up2 ar2 wk2)) := hD
  refine lv_iload_n hx hb dX1_coarsenInto_57 rfl (lv_at hl 0 rfl) ?_
  refine rs_isub hx hb dX1_coarsenInto_58 (v := nI ((n + d + 1) - (rs_sp kn d (60 * k) (n - (d + 1))))) (pk_sub (by omega)) ?_
  refine lv_iconst hx hb dX1_coarsenInto_59 (v := nI 1) (by decide) ?_
  refine rs_isub hx hb dX1_coarsenInto_60 (v := nI (((n + d + 1) - (rs_sp kn d (60 * k) (n - (d + 1)))) - 1)) (pk_sub (by omega)) ?_
  refine rs_copy hx hb (by rw [hml]; exact hl.1.symm) hown (hts (Cond.methodLink RX1 54 arraycopyName) rw_209) (hts (Cond.native arraycopyName) rw_211) (hts (Cond.static arraycopyName) rw_210) (hts _ rw_6) hK hP hD hS 1 9 0 0 (f := kn) (g := (va_cpy kn kn2 0 0 (rs_sp kn d (60 * k) (n - (d + 1))))) rfl rfl rfl rfl (sp := ((rs_sp kn d (60 * k) (n - (d + 1))) + 1)) (dp := (rs_sp kn d (60 * k) (n - (d + 1)))) (k := (((n + d + 1) - (rs_sp kn d (60 * k) (n - (d + 1)))) - 1)) (by omega) (by omega) (by decide) (by decide) (Nat.le_of_ble_eq_true rfl) (Nat.le_of_ble_eq_true rfl) dX1_coarsenInto_61 (ws' := (wC aI aJ aL q d n kn rz ac up ar wk) ++ (wC aI aJ aL q2 d (n - 1) (va_cpy kn (va_cpy kn kn2 0 0 (rs_sp kn d (60 * k) (n - (d + 1)))) ((rs_sp kn d (60 * k) (n - (d + 1))) + 1) (rs_sp kn d (60 * k) (n - (d + 1))) (((n + d + 1) - (rs_sp kn d (60 * k) (n - (d + 1)))) - 1)) rz2 ac2 up2 ar2 wk2)) rfl (fun H locs hP hD hS => ?_)
  have hP : va_P D vwCl ((wC aI aJ aL q d n kn rz ac up ar wk) ++ (wC aI aJ aL q2 d (n - 1) (rs_kout kn kn2 (rs_sp kn d (60 * k) (n - (d + 1))) (n + d + 1)) rz2 ac2 up2 ar2 wk2)) H := hP
  have hD : va_D A ((wC aI aJ aL q d n kn rz ac up ar wk) ++ (wC aI aJ aL q2 d (n - 1) (rs_kout kn kn2 (rs_sp kn d (60 * k) (n - (d + 1))) (n + d + 1)) rz2 ac2 up2 ar2 wk2)) := hD
  refine lv_iconst hx hb dX1_coarsenInto_64 (v := nI 0) (by decide) ?_
  refine lv_istore hx hb dX1_coarsenInto_65 hl (lv' := [(4, .int (nI 0)), (3, .int (nI (rs_sp kn d (60 * k) (n - (d + 1))))), (0, .ref (q 0)), (1, .ref (q2 0)), (2, .int (nI k))]) (by decide) rfl (fun ls hl => ?_)
  have L_67 : ∀ (k_67 : Nat) (i : Nat) (rz2 : Nat → Nat → Int64) (H : Heap) (locs : List Loc) (ls : Array Slot), n - 1 - i < k_67 → (i ≤ n - 1) → (rs_F (fun b j => rs_coa (rs_kout kn kn2 (rs_sp kn d (60 * k) (n - (d + 1))) (n + d + 1)) d n rz k b j) rz2 i 0) → lv_has ls 6 [(0, .ref (q 0)), (1, .ref (q2 0)), (2, .int (nI k)), (4, .int (nI i))] → va_P D vwCl ((wC aI aJ aL q d n kn rz ac up ar wk) ++ (wC aI aJ aL q2 d (n - 1) (rs_kout kn kn2 (rs_sp kn d (60 * k) (n - (d + 1))) (n + d + 1)) rz2 ac2 up2 ar2 wk2)) H → va_D A ((wC aI aJ aL q d n kn rz ac up ar wk) ++ (wC aI aJ aL q2 d (n - 1) (rs_kout kn kn2 (rs_sp kn d (60 * k) (n - (d + 1))) (n + d + 1)) rz2 ac2 up2 ar2 wk2)) → va_S A s.heap H locs → W p l e rm_X1_coarsenInto s m args below meth c H locs 0 0 Q (F0 m 67 ls []) := by
    intro k_67
    induction k_67 with
    | zero => intro i rz2 H locs ls hk_67; exact absurd hk_67 (Nat.not_lt_zero _)
    | succ k_67 ih_67 =>
      intro i rz2 H locs ls hk_67 hi hF hl hP hD hS
      refine lv_iload hx hb dX1_coarsenInto_67 (lv_at hl 3 rfl) ?_
      refine lv_aload_n hx hb dX1_coarsenInto_69 rfl (lv_at hl 1 rfl) ?_
      refine va_get hx hb hts inX1 hown hK hP 8 (ci := 1) (C := RX1) (T := TX1) (N := 8) rfl rfl 1 (by decide) (hts _ rw_84) (fun _ h => h) (v := .int (nI (n - 1))) rfl dX1_coarsenInto_70 ?_
      refine lv_icmp_ge hx hb dX1_coarsenInto_73 (tgt := 117) rfl (fun h_73 => ?_) (fun h_73 => ?_)
      · have h_73 : (n - 1) ≤ i := (nI_leI (by omega) (by omega)).1 h_73
        exact rs_vret ⟨rz2, by have h9 : i = n - 1 := (by omega); subst h9; exact hF⟩ hx hb hr hlk hQ hK hP hD hS rfl dX1_coarsenInto_117
      · have h_73 : i < (n - 1) := Nat.lt_of_not_le (fun z => h_73 ((nI_leI (by omega) (by omega)).2 z))
        refine lv_iconst hx hb dX1_coarsenInto_76 (v := nI 0) (by decide) ?_
        refine lv_istore hx hb dX1_coarsenInto_77 hl (lv' := [(5, .int (nI 0)), (0, .ref (q 0)), (1, .ref (q2 0)), (2, .int (nI k)), (4, .int (nI i))]) (by decide) rfl (fun ls hl => ?_)
        have L_79 : ∀ (k_79 : Nat) (a : Nat) (rz2 : Nat → Nat → Int64) (H : Heap) (locs : List Loc) (ls : Array Slot), 3 - a < k_79 → (a ≤ 3) → (rs_F (fun b j => rs_coa (rs_kout kn kn2 (rs_sp kn d (60 * k) (n - (d + 1))) (n + d + 1)) d n rz k b j) rz2 i a) → lv_has ls 6 [(0, .ref (q 0)), (1, .ref (q2 0)), (2, .int (nI k)), (4, .int (nI i)), (5, .int (nI a))] → va_P D vwCl ((wC aI aJ aL q d n kn rz ac up ar wk) ++ (wC aI aJ aL q2 d (n - 1) (rs_kout kn kn2 (rs_sp kn d (60 * k) (n - (d + 1))) (n + d + 1)) rz2 ac2 up2 ar2 wk2)) H → va_D A ((wC aI aJ aL q d n kn rz ac up ar wk) ++ (wC aI aJ aL q2 d (n - 1) (rs_kout kn kn2 (rs_sp kn d (60 * k) (n - (d + 1))) (n + d + 1)) rz2 ac2 up2 ar2 wk2)) → va_S A s.heap H locs → W p l e rm_X1_coarsenInto s m args below meth c H locs 0 0 Q (F0 m 79 ls []) := by
          intro k_79
          induction k_79 with
          | zero => intro a rz2 H locs ls hk_79; exact absurd hk_79 (Nat.not_lt_zero _)
          | succ k_79 ih_79 =>
            intro a rz2 H locs ls hk_79 ha hF hl hP hD hS
            refine lv_iload hx hb dX1_coarsenInto_79 (lv_at hl 4 rfl) ?_
            refine lv_iconst hx hb dX1_coarsenInto_81 (v := nI 3) (by decide) ?_
            refine lv_icmp_ge hx hb dX1_coarsenInto_82 (tgt := 111) rfl (fun h_82 => ?_) (fun h_82 => ?_)
            · have h_82 : 3 ≤ a := (nI_leI (by omega) (by omega)).1 h_82
              refine lv_iinc hx hb dX1_coarsenInto_111 hl (k := 3) rfl (v := nI (i + 1)) (rs_inc _ _) (by decide) (lv' := [(4, .int (nI (i + 1))), (0, .ref (q 0)), (1, .ref (q2 0)), (2, .int (nI k)), (5, .int (nI a))]) rfl (fun ls hl => ?_)
              refine lv_goto hx hb dX1_coarsenInto_114 (tgt := 67) rfl ?_
              exact ih_67 (i + 1) rz2 _ _ _ (by omega) (by omega) (by have h9 : a = 3 := (by omega); subst h9; exact hF.next) (lv_sub hl [1, 2, 3, 0] rfl) hP hD hS
            · have h_82 : a < 3 := Nat.lt_of_not_le (fun z => h_82 ((nI_leI (by omega) (by omega)).2 z))
              refine lv_aload_n hx hb dX1_coarsenInto_85 rfl (lv_at hl 1 rfl) ?_
              refine va_get hx hb hts inX1 hown hK hP 8 (ci := 1) (C := RX1) (T := TX1) (N := 8) rfl rfl 3 (by decide) (hts _ rw_92) (fun _ h => h) (v := .ref (q2 2)) rfl dX1_coarsenInto_86 ?_
              refine lv_iload hx hb dX1_coarsenInto_89 (lv_at hl 4 rfl) ?_
              refine rs_aald hx hb hK hP 10 2 rfl rfl (i := a) (by omega) (by decide) (b := q2 (3 + a)) rfl dX1_coarsenInto_91 ?_
              refine lv_iload hx hb dX1_coarsenInto_92 (lv_at hl 3 rfl) ?_
              refine lv_aload_n hx hb dX1_coarsenInto_94 rfl (lv_at hl 1 rfl) ?_
              refine lv_aload_n hx hb dX1_coarsenInto_95 rfl (lv_at hl 0 rfl) ?_
              refine lv_iload hx hb dX1_coarsenInto_96 (lv_at hl 4 rfl) ?_
              refine lv_iload hx hb dX1_coarsenInto_98 (lv_at hl 3 rfl) ?_
              refine lv_iload_n hx hb dX1_coarsenInto_100 rfl (lv_at hl 2 rfl) ?_
              refine rs_cVL (rest := [.int (nI i), .ref (q2 (3 + a))]) (wr := []) (ws' := fun u_101 => (wC aI aJ aL q d n kn rz ac up ar wk) ++ (wC aI aJ aL q2 d (n - 1) (rs_kout kn kn2 (rs_sp kn d (60 * k) (n - (d + 1))) (n + d + 1)) rz2 ac2 up2 ar2 wk2)) ⟨hx, hb, hml, hown, hts⟩ (c_X1_unblended l D aI aJ aL _ q2 d (n - 1) (rs_kout kn kn2 (rs_sp kn d (60 * k) (n - (d + 1))) (n + d + 1)) rz2 ac2 up2 ar2 wk2 q d n kn rz ac up ar wk a i k hd (by omega) (rs_kout_le hk hk2) (by omega) (by omega) (by omega) (by omega) (by omega)) (cwV 4 hts (rs_gV rw_254 rw_256 rv_6 rw_4 rw_257) rfl rfl rfl (by decide +kernel) ⟨Nat.le_of_ble_eq_true rfl, Nat.le_of_ble_eq_true rfl⟩) hK hN hP hD hS hA [8, 9, 10, 11, 12, 13, 14, 15, 0, 1, 2, 3, 4, 5, 6, 7] [] [8, 9, 10, 11, 12, 13, 14, 15, 0, 1, 2, 3, 4, 5, 6, 7] (by decide) rfl rfl (fun _ => rfl) 8 rfl rfl hl.1 rfl rfl (Nat.le_of_ble_eq_true rfl) dX1_coarsenInto_101 ⟨Nat.le_refl _, Nat.le_refl _⟩ (fun u_101 H locs hP hD hS => ?_)
              have hP : va_P D vwCl ((wC aI aJ aL q d n kn rz ac up ar wk) ++ (wC aI aJ aL q2 d (n - 1) (rs_kout kn kn2 (rs_sp kn d (60 * k) (n - (d + 1))) (n + d + 1)) rz2 ac2 up2 ar2 wk2)) H := hP
              have hD : va_D A ((wC aI aJ aL q d n kn rz ac up ar wk) ++ (wC aI aJ aL q2 d (n - 1) (rs_kout kn kn2 (rs_sp kn d (60 * k) (n - (d + 1))) (n + d + 1)) rz2 ac2 up2 ar2 wk2)) := hD
              refine rs_last hx hb hK hP hD hS (11 + a) 1 (co_3 (P := fun z => ((wC aI aJ aL q d n kn rz ac up ar wk) ++ (wC aI aJ aL q2 d (n - 1) (rs_kout kn kn2 (rs_sp kn d (60 * k) (n - (d + 1))) (n + d + 1)) rz2 ac2 up2 ar2 wk2))[11 + z]? = some (q2 (3 + z), .inl (aJ, 19, .inr (.inl (rz2 z))))) rfl rfl rfl (by omega)) rfl (i := i) (by omega) (by decide) dX1_coarsenInto_104 (ws' := (wC aI aJ aL q d n kn rz ac up ar wk) ++ (wC aI aJ aL q2 d (n - 1) (rs_kout kn kn2 (rs_sp kn d (60 * k) (n - (d + 1))) (n + d + 1)) (rs_upR rz2 a i (rs_unb (rs_kout kn kn2 (rs_sp kn d (60 * k) (n - (d + 1))) (n + d + 1)) d n rz (rs_num rz2 (n - 1) a (nI i - nI 1)) a i k)) ac2 up2 ar2 wk2)) (co_3 (P := fun z => ((wC aI aJ aL q d n kn rz ac up ar wk) ++ (wC aI aJ aL q2 d (n - 1) (rs_kout kn kn2 (rs_sp kn d (60 * k) (n - (d + 1))) (n + d + 1)) rz2 ac2 up2 ar2 wk2)).set (11 + z) (q2 (3 + z), .inl (aJ, 19, .inr (.inl (vp_updL (rz2 z) i (rs_unb (rs_kout kn kn2 (rs_sp kn d (60 * k) (n - (d + 1))) (n + d + 1)) d n rz (rs_num rz2 (n - 1) a (nI i - nI 1)) a i k))))) = ((wC aI aJ aL q d n kn rz ac up ar wk) ++ (wC aI aJ aL q2 d (n - 1) (rs_kout kn kn2 (rs_sp kn d (60 * k) (n - (d + 1))) (n + d + 1)) (rs_upR rz2 z i (rs_unb (rs_kout kn kn2 (rs_sp kn d (60 * k) (n - (d + 1))) (n + d + 1)) d n rz (rs_num rz2 (n - 1) a (nI i - nI 1)) a i k)) ac2 up2 ar2 wk2))) rfl rfl rfl (by omega)) (fun H locs hP hD hS => ?_)
              refine lv_iinc hx hb dX1_coarsenInto_105 hl (k := 4) rfl (v := nI (a + 1)) (rs_inc _ _) (by decide) (lv' := [(5, .int (nI (a + 1))), (0, .ref (q 0)), (1, .ref (q2 0)), (2, .int (nI k)), (4, .int (nI i))]) rfl (fun ls hl => ?_)
              refine lv_goto hx hb dX1_coarsenInto_108 (tgt := 79) rfl ?_
              exact ih_79 (a + 1) _ _ _ _ (by omega) (by omega) (hF.up (rs_coa_st hF (by omega) (by omega) (by omega))) (lv_sub hl [1, 2, 3, 4, 0] rfl) hP hD hS
        exact L_79 ((3 - 0) + 1) 0 rz2 _ _ _ (Nat.lt_succ_self _) (Nat.zero_le _) hF (lv_sub hl [1, 2, 3, 4, 0] rfl) hP hD hS
  exact L_67 ((n - 1 - 0) + 1) 0 rz2 _ _ _ (Nat.lt_succ_self _) (Nat.zero_le _) rs_F.zero (lv_sub hl [2, 3, 4, 0] rfl) hP hD hS

def rm_X1_basisOf : Room := { frames := 2, cells := 0, slots := 0, locals := 151 }
set_option maxHeartbeats 4000000 in
set_option maxRecDepth 100000 in
theorem c_X1_basisOf (l : Launch) (D : va_G) (aI aJ aL : ClassId) (sz : Nat) (q : Nat → Nat) (d : Nat) (n : Nat) (kn : Nat → Nat) (rz : Nat → Nat → Int64) (ac : Int32) (up : Int32) (ar : Nat → Nat) (wk : Nat → Int64) (i : Nat) (u : Nat) (hd : d ≤ 3) (hn : n ≤ 19) (hk : ∀ i, kn i ≤ 6) (hi : i ≤ 18) (hu : u < 1000) : rs_ML (S := Nat → Int64) l yX1_basisOf (Cond.code yX1_basisOf prog_3_method_18_code 8 (some .long) :: rsW) rm_X1_basisOf D vwCl (rs_tys aI aJ aL) rs_nw [.ref (q 0), .int (nI i), .int (nI u)] (wC aI aJ aL q d n kn rz ac up ar wk) sz (rs_p60 (rs_bs kn d i u (rs_sp kn d u (n - (d + 1))) d 0) (3 - d)) (fun uu => wC aI aJ aL q d n kn rz ac up ar uu) := by
  refine rs_ent (cc := cX1_basisOf) (maxL := 8) (ret := some .long) (Qc := rs_QL D vwCl _ _ _) (by decide) rfl (Nat.le_of_ble_eq_true rfl) ?_
  intro p e s m args below meth c ls A Q hx hb hr hml hlk hts hown hin hK hN hP hD hS hA hQ hl
  have hl : lv_has ls 8 [(0, .ref (q 0)), (1, .int (nI i)), (2, .int (nI u))] := hl
  refine lv_aload_n hx hb dX1_basisOf_0 rfl (lv_at hl 0 rfl) ?_
  refine lv_iload_n hx hb dX1_basisOf_1 rfl (lv_at hl 2 rfl) ?_
  refine rs_cVI (rest := []) (wr := []) (ws' := fun u_2 => wC aI aJ aL q d n kn rz ac up ar wk) ⟨hx, hb, hml, hown, hts⟩ (c_X1_spanOf l D aI aJ aL _ q d n kn rz ac up ar wk u hd hn hk hu) (cwV 1 hts (rs_gV rw_205 rw_206 rw_207 rw_4 rw_208) rfl rfl rfl (by decide +kernel) ⟨Nat.le_of_ble_eq_true rfl, Nat.le_of_ble_eq_true rfl⟩) hK hN hP hD hS hA [0, 1, 2, 3, 4, 5, 6, 7] [] [0, 1, 2, 3, 4, 5, 6, 7] (by decide) rfl rfl (fun _ => rfl) 0 rfl rfl hl.1 rfl rfl (Nat.le_of_ble_eq_true rfl) dX1_basisOf_2 ⟨Nat.le_refl _, Nat.le_refl _⟩ (fun u_2 H locs hP hD hS => ?_)
  have hP : va_P D vwCl (wC aI aJ aL q d n kn rz ac up ar wk) H := hP
  have hD : va_D A (wC aI aJ aL q d n kn rz ac up ar wk) := hD
  have hp1 := rs_sp_le kn d u (n - (d + 1))
  refine lv_istore_n hx hb dX1_basisOf_5 rfl hl (lv' := [(3, .int (nI (rs_sp kn d u (n - (d + 1))))), (0, .ref (q 0)), (1, .int (nI i)), (2, .int (nI u))]) (by decide) rfl (fun ls hl => ?_)
  refine lv_iconst hx hb dX1_basisOf_6 (v := nI 0) (by decide) ?_
  refine lv_istore hx hb dX1_basisOf_7 hl (lv' := [(4, .int (nI 0)), (3, .int (nI (rs_sp kn d u (n - (d + 1))))), (0, .ref (q 0)), (1, .int (nI i)), (2, .int (nI u))]) (by decide) rfl (fun ls hl => ?_)
  have L_9 : ∀ (k_9 : Nat) (j : Nat) (wk : Nat → Int64) (H : Heap) (locs : List Loc) (ls : Array Slot), d + 1 - j < k_9 → (j ≤ d + 1) → (∀ k, k < j → wk k = rs_bs kn d i u (rs_sp kn d u (n - (d + 1))) 0 k) → lv_has ls 8 [(0, .ref (q 0)), (1, .int (nI i)), (2, .int (nI u)), (3, .int (nI (rs_sp kn d u (n - (d + 1))))), (4, .int (nI j))] → va_P D vwCl (wC aI aJ aL q d n kn rz ac up ar wk) H → va_D A (wC aI aJ aL q d n kn rz ac up ar wk) → va_S A s.heap H locs → W p l e rm_X1_basisOf s m args below meth c H locs 0 0 Q (F0 m 9 ls []) := by
    intro k_9
    induction k_9 with
    | zero => intro j wk H locs ls hk_9; exact absurd hk_9 (Nat.not_lt_zero _)
    | succ k_9 ih_9 =>
      intro j wk H locs ls hk_9 hj hw hl hP hD hS
      refine lv_iload hx hb dX1_basisOf_9 (lv_at hl 4 rfl) ?_
      refine lv_aload_n hx hb dX1_basisOf_11 rfl (lv_at hl 0 rfl) ?_
      refine va_get hx hb hts inX1 hown hK hP 0 (ci := 1) (C := RX1) (T := TX1) (N := 8) rfl rfl 0 (by decide) (hts _ rw_80) (fun _ h => h) (v := .int (nI d)) rfl dX1_basisOf_12 ?_
      refine lv_icmp_gt hx hb dX1_basisOf_15 (tgt := 44) rfl (fun h_15 => ?_) (fun h_15 => ?_)
      · have h_15 : d < j := (nI_ltI (by omega) (by omega)).1 h_15
        refine lv_iconst hx hb dX1_basisOf_44 (v := nI 1) (by decide) ?_
        refine lv_istore hx hb dX1_basisOf_45 hl (lv' := [(4, .int (nI 1)), (0, .ref (q 0)), (1, .int (nI i)), (2, .int (nI u)), (3, .int (nI (rs_sp kn d u (n - (d + 1)))))]) (by decide) rfl (fun ls hl => ?_)
        have L_47 : ∀ (k_47 : Nat) (v : Nat) (wk : Nat → Int64) (H : Heap) (locs : List Loc) (ls : Array Slot), d - v < k_47 → (v ≤ d) → (∀ k, k ≤ d → wk k = rs_bs kn d i u (rs_sp kn d u (n - (d + 1))) v k) → lv_has ls 8 [(0, .ref (q 0)), (1, .int (nI i)), (2, .int (nI u)), (4, .int (nI (v + 1)))] → va_P D vwCl (wC aI aJ aL q d n kn rz ac up ar wk) H → va_D A (wC aI aJ aL q d n kn rz ac up ar wk) → va_S A s.heap H locs → W p l e rm_X1_basisOf s m args below meth c H locs 0 0 Q (F0 m 47 ls []) := by
          intro k_47
          induction k_47 with
          | zero => intro v wk H locs ls hk_47; exact absurd hk_47 (Nat.not_lt_zero _)
          | succ k_47 ih_47 =>
            intro v wk H locs ls hk_47 hv hw hl hP hD hS
            refine lv_iload hx hb dX1_basisOf_47 (lv_at hl 3 rfl) ?_
            refine lv_aload_n hx hb dX1_basisOf_49 rfl (lv_at hl 0 rfl) ?_
            refine va_get hx hb hts inX1 hown hK hP 0 (ci := 1) (C := RX1) (T := TX1) (N := 8) rfl rfl 0 (by decide) (hts _ rw_80) (fun _ h => h) (v := .int (nI d)) rfl dX1_basisOf_50 ?_
            refine lv_icmp_gt hx hb dX1_basisOf_53 (tgt := 189) rfl (fun h_53 => ?_) (fun h_53 => ?_)
            · have h_53 : d < (v + 1) := (nI_ltI (by omega) (by omega)).1 h_53
              refine lv_aload_n hx hb dX1_basisOf_189 rfl (lv_at hl 0 rfl) ?_
              refine va_get hx hb hts inX1 hown hK hP 0 (ci := 1) (C := RX1) (T := TX1) (N := 8) rfl rfl 7 (by decide) (hts _ rw_101) (fun _ h => h) (v := .ref (q 7)) rfl dX1_basisOf_190 ?_
              refine lv_iconst hx hb dX1_basisOf_193 (v := nI 0) (by decide) ?_
              refine rs_lald hx hb hK hP 7 1 rfl rfl (i := 0) (by omega) (by decide) (v := rs_bs kn d i u (rs_sp kn d u (n - (d + 1))) d 0) (by rw [show v = d by omega] at hw; exact hw 0 (Nat.zero_le _)) dX1_basisOf_194 ?_
              refine lv_lstore hx hb dX1_basisOf_195 hl (lv' := [(4, .long (rs_bs kn d i u (rs_sp kn d u (n - (d + 1))) d 0)), (0, .ref (q 0)), (1, .int (nI i)), (2, .int (nI u))]) (by decide) rfl (fun ls hl => ?_)
              refine lv_aload_n hx hb dX1_basisOf_197 rfl (lv_at hl 1 rfl) ?_
              refine va_get hx hb hts inX1 hown hK hP 0 (ci := 1) (C := RX1) (T := TX1) (N := 8) rfl rfl 0 (by decide) (hts _ rw_80) (fun _ h => h) (v := .int (nI d)) rfl dX1_basisOf_198 ?_
              refine lv_istore hx hb dX1_basisOf_201 hl (lv' := [(6, .int (nI d)), (4, .long (rs_bs kn d i u (rs_sp kn d u (n - (d + 1))) d 0)), (0, .ref (q 0)), (1, .int (nI i)), (2, .int (nI u))]) (by decide) rfl (fun ls hl => ?_)
              have L_203 : ∀ (k_203 : Nat) (w : Nat) (H : Heap) (locs : List Loc) (ls : Array Slot), 3 - d - w < k_203 → (w ≤ 3 - d) → lv_has ls 8 [(0, .ref (q 0)), (4, .long (rs_p60 (rs_bs kn d i u (rs_sp kn d u (n - (d + 1))) d 0) w)), (6, .int (nI (d + w)))] → va_P D vwCl (wC aI aJ aL q d n kn rz ac up ar wk) H → va_D A (wC aI aJ aL q d n kn rz ac up ar wk) → va_S A s.heap H locs → W p l e rm_X1_basisOf s m args below meth c H locs 0 0 Q (F0 m 203 ls []) := by
                intro k_203
                induction k_203 with
                | zero => intro w H locs ls hk_203; exact absurd hk_203 (Nat.not_lt_zero _)
                | succ k_203 ih_203 =>
                  intro w H locs ls hk_203 hw3 hl hP hD hS
                  refine lv_iload hx hb dX1_basisOf_203 (lv_at hl 2 rfl) ?_
                  refine lv_iconst hx hb dX1_basisOf_205 (v := nI 3) (by decide) ?_
                  refine lv_icmp_ge hx hb dX1_basisOf_206 (tgt := 223) rfl (fun h_206 => ?_) (fun h_206 => ?_)
                  · have h_206 : 3 ≤ (d + w) := (nI_leI (by omega) (by omega)).1 h_206
                    refine lv_lload hx hb dX1_basisOf_223 (lv_at hl 1 rfl) ?_
                    exact rs_lret wk hx hb hr hlk hQ hK hP hD hS (by rw [show w = 3 - d by omega]) rfl dX1_basisOf_225
                  · have h_206 : (d + w) < 3 := Nat.lt_of_not_le (fun z => h_206 ((nI_leI (by omega) (by omega)).2 z))
                    refine lv_lload hx hb dX1_basisOf_209 (lv_at hl 1 rfl) ?_
                    refine lv_ldc2 hx hb hown (hts _ rw_290) dX1_basisOf_211 ?_
                    refine lv_lmul hx hb dX1_basisOf_214 ?_
                    refine lv_lstore hx hb dX1_basisOf_215 hl (lv' := [(4, .long ((rs_p60 (rs_bs kn d i u (rs_sp kn d u (n - (d + 1))) d 0) w) * 60)), (0, .ref (q 0)), (6, .int (nI (d + w)))]) (by decide) rfl (fun ls hl => ?_)
                    refine lv_iinc hx hb dX1_basisOf_217 hl (k := 2) rfl (v := nI ((d + w) + 1)) (rs_inc _ _) (by decide) (lv' := [(6, .int (nI ((d + w) + 1))), (4, .long ((rs_p60 (rs_bs kn d i u (rs_sp kn d u (n - (d + 1))) d 0) w) * 60)), (0, .ref (q 0))]) rfl (fun ls hl => ?_)
                    refine lv_goto hx hb dX1_basisOf_220 (tgt := 203) rfl ?_
                    exact ih_203 (w + 1) _ _ _ (by omega) (by omega) (lv_sub hl [2, 1, 0] rfl) hP hD hS
              exact L_203 ((3 - d - 0) + 1) 0 _ _ _ (Nat.lt_succ_self _) (by omega) (lv_sub hl [2, 1, 0] rfl) hP hD hS
            · have h_53 : (v + 1) ≤ d := Nat.le_of_not_lt (fun z => h_53 ((nI_ltI (by omega) (by omega)).2 z))
              refine lv_iconst hx hb dX1_basisOf_56 (v := nI 0) (by decide) ?_
              refine lv_istore hx hb dX1_basisOf_57 hl (lv' := [(5, .int (nI 0)), (0, .ref (q 0)), (1, .int (nI i)), (2, .int (nI u)), (4, .int (nI (v + 1)))]) (by decide) rfl (fun ls hl => ?_)
              have L_59 : ∀ (k_59 : Nat) (j : Nat) (wk : Nat → Int64) (H : Heap) (locs : List Loc) (ls : Array Slot), d + 1 - j < k_59 → (j + (v + 1) ≤ d + 1) → (∀ k, k ≤ d → wk k = if k < j then rs_bs kn d i u (rs_sp kn d u (n - (d + 1))) (v + 1) k else rs_bs kn d i u (rs_sp kn d u (n - (d + 1))) v k) → lv_has ls 8 [(0, .ref (q 0)), (1, .int (nI i)), (2, .int (nI u)), (4, .int (nI (v + 1))), (5, .int (nI j))] → va_P D vwCl (wC aI aJ aL q d n kn rz ac up ar wk) H → va_D A (wC aI aJ aL q d n kn rz ac up ar wk) → va_S A s.heap H locs → W p l e rm_X1_basisOf s m args below meth c H locs 0 0 Q (F0 m 59 ls []) := by
                intro k_59
                induction k_59 with
                | zero => intro j wk H locs ls hk_59; exact absurd hk_59 (Nat.not_lt_zero _)
                | succ k_59 ih_59 =>
                  intro j wk H locs ls hk_59 hj hw hl hP hD hS
                  refine lv_iload hx hb dX1_basisOf_59 (lv_at hl 4 rfl) ?_
                  refine lv_aload_n hx hb dX1_basisOf_61 rfl (lv_at hl 0 rfl) ?_
                  refine va_get hx hb hts inX1 hown hK hP 0 (ci := 1) (C := RX1) (T := TX1) (N := 8) rfl rfl 0 (by decide) (hts _ rw_80) (fun _ h => h) (v := .int (nI d)) rfl dX1_basisOf_62 ?_
                  refine lv_iload hx hb dX1_basisOf_65 (lv_at hl 3 rfl) ?_
                  refine rs_isub hx hb dX1_basisOf_67 (v := nI (d - (v + 1))) (pk_sub (by omega)) ?_
                  refine lv_icmp_gt hx hb dX1_basisOf_68 (tgt := 183) rfl (fun h_68 => ?_) (fun h_68 => ?_)
                  · have h_68 : (d - (v + 1)) < j := (nI_ltI (by omega) (by omega)).1 h_68
                    refine lv_iinc hx hb dX1_basisOf_183 hl (k := 3) rfl (v := nI ((v + 1) + 1)) (rs_inc _ _) (by decide) (lv' := [(4, .int (nI ((v + 1) + 1))), (0, .ref (q 0)), (1, .int (nI i)), (2, .int (nI u)), (5, .int (nI j))]) rfl (fun ls hl => ?_)
                    refine lv_goto hx hb dX1_basisOf_186 (tgt := 47) rfl ?_
                    exact ih_47 (v + 1) wk _ _ _ (by omega) (by omega) (rs_bs_nx (by omega) hw) (lv_sub hl [1, 2, 3, 0] rfl) hP hD hS
                  · have h_68 : j ≤ (d - (v + 1)) := Nat.le_of_not_lt (fun z => h_68 ((nI_ltI (by omega) (by omega)).2 z))
                    refine lv_iload_n hx hb dX1_basisOf_71 rfl (lv_at hl 1 rfl) ?_
                    refine lv_iload hx hb dX1_basisOf_72 (lv_at hl 4 rfl) ?_
                    refine rs_iadd hx hb dX1_basisOf_74 (v := nI (i + j)) (nI_add _ _) ?_
                    refine lv_istore hx hb dX1_basisOf_75 hl (lv' := [(6, .int (nI (i + j))), (0, .ref (q 0)), (1, .int (nI i)), (2, .int (nI u)), (4, .int (nI (v + 1))), (5, .int (nI j))]) (by decide) rfl (fun ls hl => ?_)
                    refine lv_iload hx hb dX1_basisOf_77 (lv_at hl 0 rfl) ?_
                    refine lv_iload hx hb dX1_basisOf_79 (lv_at hl 4 rfl) ?_
                    refine rs_iadd hx hb dX1_basisOf_81 (v := nI ((i + j) + (v + 1))) (nI_add _ _) ?_
                    refine lv_iconst hx hb dX1_basisOf_82 (v := nI 1) (by decide) ?_
                    refine rs_iadd hx hb dX1_basisOf_83 (v := nI (((i + j) + (v + 1)) + 1)) (nI_add _ _) ?_
                    refine lv_istore hx hb dX1_basisOf_84 hl (lv' := [(7, .int (nI (((i + j) + (v + 1)) + 1))), (6, .int (nI (i + j))), (0, .ref (q 0)), (1, .int (nI i)), (2, .int (nI u)), (4, .int (nI (v + 1))), (5, .int (nI j))]) (by decide) rfl (fun ls hl => ?_)
                    refine lv_aload_n hx hb dX1_basisOf_86 rfl (lv_at hl 2 rfl) ?_
                    refine va_get hx hb hts inX1 hown hK hP 0 (ci := 1) (C := RX1) (T := TX1) (N := 8) rfl rfl 7 (by decide) (hts _ rw_101) (fun _ h => h) (v := .ref (q 7)) rfl dX1_basisOf_87 ?_
                    refine lv_iload hx hb dX1_basisOf_90 (lv_at hl 6 rfl) ?_
                    refine lv_iload_n hx hb dX1_basisOf_92 rfl (lv_at hl 4 rfl) ?_
                    refine lv_bipush hx hb dX1_basisOf_93 (v := nI 60) (by decide) ?_
                    refine lv_aload_n hx hb dX1_basisOf_95 rfl (lv_at hl 2 rfl) ?_
                    refine va_get hx hb hts inX1 hown hK hP 0 (ci := 1) (C := RX1) (T := TX1) (N := 8) rfl rfl 2 (by decide) (hts _ rw_88) (fun _ h => h) (v := .ref (q 1)) rfl dX1_basisOf_96 ?_
                    refine lv_iload hx hb dX1_basisOf_99 (lv_at hl 1 rfl) ?_
                    refine rs_iald hx hb hK hP 1 0 rfl rfl (i := (i + j)) (by omega) (by decide) (v := nI (kn (i + j))) rfl dX1_basisOf_101 ?_
                    refine rs_imul hx hb dX1_basisOf_102 (v := nI (60 * (kn (i + j)))) (pk_mul _ _) ?_
                    refine rs_isub hx hb dX1_basisOf_103 (v := (nI u - nI (60 * (kn (i + j))))) rfl ?_
                    refine lv_aload_n hx hb dX1_basisOf_104 rfl (lv_at hl 2 rfl) ?_
                    refine va_get hx hb hts inX1 hown hK hP 0 (ci := 1) (C := RX1) (T := TX1) (N := 8) rfl rfl 2 (by decide) (hts _ rw_88) (fun _ h => h) (v := .ref (q 1)) rfl dX1_basisOf_105 ?_
                    refine lv_iload hx hb dX1_basisOf_108 (lv_at hl 1 rfl) ?_
                    refine lv_iload hx hb dX1_basisOf_110 (lv_at hl 5 rfl) ?_
                    refine rs_iadd hx hb dX1_basisOf_112 (v := nI ((i + j) + (v + 1))) (nI_add _ _) ?_
                    refine rs_iald hx hb hK hP 1 0 rfl rfl (i := ((i + j) + (v + 1))) (by omega) (by decide) (v := nI (kn ((i + j) + (v + 1)))) rfl dX1_basisOf_113 ?_
                    refine lv_aload_n hx hb dX1_basisOf_114 rfl (lv_at hl 2 rfl) ?_
                    refine va_get hx hb hts inX1 hown hK hP 0 (ci := 1) (C := RX1) (T := TX1) (N := 8) rfl rfl 2 (by decide) (hts _ rw_88) (fun _ h => h) (v := .ref (q 1)) rfl dX1_basisOf_115 ?_
                    refine lv_iload hx hb dX1_basisOf_118 (lv_at hl 1 rfl) ?_
                    refine rs_iald hx hb hK hP 1 0 rfl rfl (i := (i + j)) (by omega) (by decide) (v := nI (kn (i + j))) rfl dX1_basisOf_120 ?_
                    refine rs_isub hx hb dX1_basisOf_121 (v := (nI (kn ((i + j) + (v + 1))) - nI (kn (i + j)))) rfl ?_
                    refine rs_cSL (rest := [.int (nI j), .ref (q 7)]) (wr := (wC aI aJ aL q d n kn rz ac up ar wk)) (ws' := fun u_122 => wC aI aJ aL q d n kn rz ac up ar wk) ⟨hx, hb, hml, hown, hts⟩ (c_X1_factor l D aI aJ aL _ (nI u - nI (60 * (kn (i + j)))) (nI (kn ((i + j) + (v + 1))) - nI (kn (i + j))) ) (cwS 2 hts (rs_gS rw_334 rw_335 rw_4 rw_336) rfl rfl rfl (by decide +kernel) ⟨Nat.le_of_ble_eq_true rfl, Nat.le_of_ble_eq_true rfl⟩) hK hN hP hD hS hA [] [0, 1, 2, 3, 4, 5, 6, 7] [0, 1, 2, 3, 4, 5, 6, 7] (by decide) rfl rfl (fun _ => rfl) hl.1 rfl rfl (Nat.le_of_ble_eq_true rfl) dX1_basisOf_122 ⟨Nat.le_refl _, Nat.le_refl _⟩ (fun u_122 H locs hP hD hS => ?_)
                    have hP : va_P D vwCl (wC aI aJ aL q d n kn rz ac up ar wk) H := hP
                    have hD : va_D A (wC aI aJ aL q d n kn rz ac up ar wk) := hD
                    refine lv_aload_n hx hb dX1_basisOf_125 rfl (lv_at hl 2 rfl) ?_
                    refine va_get hx hb hts inX1 hown hK hP 0 (ci := 1) (C := RX1) (T := TX1) (N := 8) rfl rfl 7 (by decide) (hts _ rw_101) (fun _ h => h) (v := .ref (q 7)) rfl dX1_basisOf_126 ?_
                    refine lv_iload hx hb dX1_basisOf_129 (lv_at hl 6 rfl) ?_
                    refine rs_lald hx hb hK hP 7 1 rfl rfl (i := j) (by omega) (by decide) (v := wk j) rfl dX1_basisOf_131 ?_
                    refine lv_lmul hx hb dX1_basisOf_132 ?_
                    refine lv_bipush hx hb dX1_basisOf_133 (v := nI 60) (by decide) ?_
                    refine lv_aload_n hx hb dX1_basisOf_135 rfl (lv_at hl 2 rfl) ?_
                    refine va_get hx hb hts inX1 hown hK hP 0 (ci := 1) (C := RX1) (T := TX1) (N := 8) rfl rfl 2 (by decide) (hts _ rw_88) (fun _ h => h) (v := .ref (q 1)) rfl dX1_basisOf_136 ?_
                    refine lv_iload hx hb dX1_basisOf_139 (lv_at hl 0 rfl) ?_
                    refine rs_iald hx hb hK hP 1 0 rfl rfl (i := (((i + j) + (v + 1)) + 1)) (by omega) (by decide) (v := nI (kn (((i + j) + (v + 1)) + 1))) rfl dX1_basisOf_141 ?_
                    refine rs_imul hx hb dX1_basisOf_142 (v := nI (60 * (kn (((i + j) + (v + 1)) + 1)))) (pk_mul _ _) ?_
                    refine lv_iload_n hx hb dX1_basisOf_143 rfl (lv_at hl 4 rfl) ?_
                    refine rs_isub hx hb dX1_basisOf_144 (v := (nI (60 * (kn (((i + j) + (v + 1)) + 1))) - nI u)) rfl ?_
                    refine lv_aload_n hx hb dX1_basisOf_145 rfl (lv_at hl 2 rfl) ?_
                    refine va_get hx hb hts inX1 hown hK hP 0 (ci := 1) (C := RX1) (T := TX1) (N := 8) rfl rfl 2 (by decide) (hts _ rw_88) (fun _ h => h) (v := .ref (q 1)) rfl dX1_basisOf_146 ?_
                    refine lv_iload hx hb dX1_basisOf_149 (lv_at hl 0 rfl) ?_
                    refine rs_iald hx hb hK hP 1 0 rfl rfl (i := (((i + j) + (v + 1)) + 1)) (by omega) (by decide) (v := nI (kn (((i + j) + (v + 1)) + 1))) rfl dX1_basisOf_151 ?_
                    refine lv_aload_n hx hb dX1_basisOf_152 rfl (lv_at hl 2 rfl) ?_
                    refine va_get hx hb hts inX1 hown hK hP 0 (ci := 1) (C := RX1) (T := TX1) (N := 8) rfl rfl 2 (by decide) (hts _ rw_88) (fun _ h => h) (v := .ref (q 1)) rfl dX1_basisOf_153 ?_
                    refine lv_iload hx hb dX1_basisOf_156 (lv_at hl 1 rfl) ?_
                    refine lv_iconst hx hb dX1_basisOf_158 (v := nI 1) (by decide) ?_
                    refine rs_iadd hx hb dX1_basisOf_159 (v := nI ((i + j) + 1)) (nI_add _ _) ?_
                    refine rs_iald hx hb hK hP 1 0 rfl rfl (i := ((i + j) + 1)) (by omega) (by decide) (v := nI (kn ((i + j) + 1))) rfl dX1_basisOf_160 ?_
                    refine rs_isub hx hb dX1_basisOf_161 (v := (nI (kn (((i + j) + (v + 1)) + 1)) - nI (kn ((i + j) + 1)))) rfl ?_
                    refine rs_cSL (rest := [.long ((rs_fac (nI u - nI (60 * (kn (i + j)))) (nI (kn ((i + j) + (v + 1))) - nI (kn (i + j)))) * (wk j)), .int (nI j), .ref (q 7)]) (wr := (wC aI aJ aL q d n kn rz ac up ar wk)) (ws' := fun u_162 => wC aI aJ aL q d n kn rz ac up ar wk) ⟨hx, hb, hml, hown, hts⟩ (c_X1_factor l D aI aJ aL _ (nI (60 * (kn (((i + j) + (v + 1)) + 1))) - nI u) (nI (kn (((i + j) + (v + 1)) + 1)) - nI (kn ((i + j) + 1))) ) (cwS 2 hts (rs_gS rw_334 rw_335 rw_4 rw_336) rfl rfl rfl (by decide +kernel) ⟨Nat.le_of_ble_eq_true rfl, Nat.le_of_ble_eq_true rfl⟩) hK hN hP hD hS hA [] [0, 1, 2, 3, 4, 5, 6, 7] [0, 1, 2, 3, 4, 5, 6, 7] (by decide) rfl rfl (fun _ => rfl) hl.1 rfl rfl (Nat.le_of_ble_eq_true rfl) dX1_basisOf_162 ⟨Nat.le_refl _, Nat.le_refl _⟩ (fun u_162 H locs hP hD hS => ?_)
                    have hP : va_P D vwCl (wC aI aJ aL q d n kn rz ac up ar wk) H := hP
                    have hD : va_D A (wC aI aJ aL q d n kn rz ac up ar wk) := hD
                    refine lv_aload_n hx hb dX1_basisOf_165 rfl (lv_at hl 2 rfl) ?_
                    refine va_get hx hb hts inX1 hown hK hP 0 (ci := 1) (C := RX1) (T := TX1) (N := 8) rfl rfl 7 (by decide) (hts _ rw_101) (fun _ h => h) (v := .ref (q 7)) rfl dX1_basisOf_166 ?_
                    refine lv_iload hx hb dX1_basisOf_169 (lv_at hl 6 rfl) ?_
                    refine lv_iconst hx hb dX1_basisOf_171 (v := nI 1) (by decide) ?_
                    refine rs_iadd hx hb dX1_basisOf_172 (v := nI (j + 1)) (nI_add _ _) ?_
                    refine rs_lald hx hb hK hP 7 1 rfl rfl (i := (j + 1)) (by omega) (by decide) (v := wk (j + 1)) rfl dX1_basisOf_173 ?_
                    refine lv_lmul hx hb dX1_basisOf_174 ?_
                    refine lv_ladd hx hb dX1_basisOf_175 ?_
                    refine rs_last hx hb hK hP hD hS 7 1 rfl rfl (i := j) (by omega) (by decide) dX1_basisOf_176 (ws' := wC aI aJ aL q d n kn rz ac up ar (vp_updL wk j (((rs_fac (nI u - nI (60 * (kn (i + j)))) (nI (kn ((i + j) + (v + 1))) - nI (kn (i + j)))) * (wk j)) + ((rs_fac (nI (60 * (kn (((i + j) + (v + 1)) + 1))) - nI u) (nI (kn (((i + j) + (v + 1)) + 1)) - nI (kn ((i + j) + 1)))) * (wk (j + 1)))))) rfl (fun H locs hP hD hS => ?_)
                    refine lv_iinc hx hb dX1_basisOf_177 hl (k := 6) rfl (v := nI (j + 1)) (rs_inc _ _) (by decide) (lv' := [(5, .int (nI (j + 1))), (7, .int (nI (((i + j) + (v + 1)) + 1))), (6, .int (nI (i + j))), (0, .ref (q 0)), (1, .int (nI i)), (2, .int (nI u)), (4, .int (nI (v + 1)))]) rfl (fun ls hl => ?_)
                    refine lv_goto hx hb dX1_basisOf_180 (tgt := 59) rfl ?_
                    exact ih_59 (j + 1) _ _ _ _ (by omega) (by omega) (rs_bs_st (by omega) hw) (lv_sub hl [3, 4, 5, 6, 0] rfl) hP hD hS
              exact L_59 ((d + 1 - 0) + 1) 0 wk _ _ _ (Nat.lt_succ_self _) (by omega) (rs_bs_i0 hw) (lv_sub hl [1, 2, 3, 4, 0] rfl) hP hD hS
        exact L_47 ((d - 0) + 1) 0 wk _ _ _ (Nat.lt_succ_self _) (Nat.zero_le _) (fun k hk => hw k (by omega)) (lv_sub hl [1, 2, 3, 0] rfl) hP hD hS
      · have h_15 : j ≤ d := Nat.le_of_not_lt (fun z => h_15 ((nI_ltI (by omega) (by omega)).2 z))
        refine lv_aload_n hx hb dX1_basisOf_18 rfl (lv_at hl 0 rfl) ?_
        refine va_get hx hb hts inX1 hown hK hP 0 (ci := 1) (C := RX1) (T := TX1) (N := 8) rfl rfl 7 (by decide) (hts _ rw_101) (fun _ h => h) (v := .ref (q 7)) rfl dX1_basisOf_19 ?_
        refine lv_iload hx hb dX1_basisOf_22 (lv_at hl 4 rfl) ?_
        refine lv_iload_n hx hb dX1_basisOf_24 rfl (lv_at hl 1 rfl) ?_
        refine lv_iload hx hb dX1_basisOf_25 (lv_at hl 4 rfl) ?_
        refine rs_iadd hx hb dX1_basisOf_27 (v := nI (i + j)) (nI_add _ _) ?_
        refine lv_iload_n hx hb dX1_basisOf_28 rfl (lv_at hl 3 rfl) ?_
        refine lv_icmp_ne hx hb dX1_basisOf_29 (tgt := 36) rfl (fun h_29 => ?_) (fun h_29 => ?_)
        · have h_29 : ¬ (i + j) = (rs_sp kn d u (n - (d + 1))) := fun z => h_29 ((nI_eq (by omega) (by omega)).2 z)
          refine lv_lconst hx hb dX1_basisOf_36 (v := 0) (by decide) ?_
          refine rs_last hx hb hK hP hD hS 7 1 rfl rfl (i := j) (by omega) (by decide) dX1_basisOf_37 (ws' := wC aI aJ aL q d n kn rz ac up ar (vp_updL wk j 0)) rfl (fun H locs hP hD hS => ?_)
          refine lv_iinc hx hb dX1_basisOf_38 hl (k := 4) rfl (v := nI (j + 1)) (rs_inc _ _) (by decide) (lv' := [(4, .int (nI (j + 1))), (0, .ref (q 0)), (1, .int (nI i)), (2, .int (nI u)), (3, .int (nI (rs_sp kn d u (n - (d + 1)))))]) rfl (fun ls hl => ?_)
          refine lv_goto hx hb dX1_basisOf_41 (tgt := 9) rfl ?_
          exact ih_9 (j + 1) _ _ _ _ (by omega) (by omega) (rs_w_up hw (by first | exact (if_pos h_29).symm | exact (if_neg h_29).symm)) (lv_sub hl [1, 2, 3, 4, 0] rfl) hP hD hS
        · have h_29 : (i + j) = (rs_sp kn d u (n - (d + 1))) := (nI_eq (by omega) (by omega)).1 h_29
          refine lv_lconst hx hb dX1_basisOf_32 (v := 1) (by decide) ?_
          refine lv_goto hx hb dX1_basisOf_33 (tgt := 37) rfl ?_
          refine rs_last hx hb hK hP hD hS 7 1 rfl rfl (i := j) (by omega) (by decide) dX1_basisOf_37 (ws' := wC aI aJ aL q d n kn rz ac up ar (vp_updL wk j 1)) rfl (fun H locs hP hD hS => ?_)
          refine lv_iinc hx hb dX1_basisOf_38 hl (k := 4) rfl (v := nI (j + 1)) (rs_inc _ _) (by decide) (lv' := [(4, .int (nI (j + 1))), (0, .ref (q 0)), (1, .int (nI i)), (2, .int (nI u)), (3, .int (nI (rs_sp kn d u (n - (d + 1)))))]) rfl (fun ls hl => ?_)
          refine lv_goto hx hb dX1_basisOf_41 (tgt := 9) rfl ?_
          exact ih_9 (j + 1) _ _ _ _ (by omega) (by omega) (rs_w_up hw (by first | exact (if_pos h_29).symm | exact (if_neg h_29).symm)) (lv_sub hl [1, 2, 3, 4, 0] rfl) hP hD hS
  exact L_9 ((d + 1 - 0) + 1) 0 wk _ _ _ (Nat.lt_succ_self _) (Nat.zero_le _) lt_0 (lv_sub hl [2, 3, 4, 1, 0] rfl) hP hD hS
