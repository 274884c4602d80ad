def rm_X2_copyTo : Room := { frames := 1, cells := 0, slots := 0, locals := 64 }
set_option maxHeartbeats 4000000 in
set_option maxRecDepth 100000 in
theorem c_X2_copyTo (l : Launch) (D : va_G) (aI aJ aL : ClassId) (sz : Nat) (q : Nat → Nat) (dd : Nat) (dc : Nat) (di : Nat) (xs : Nat → Int32) (ys : Nat → Int32) (wt : Nat → Int32) (inn : Nat → Nat) (q2 : Nat → Nat) (d2 : Nat) (n2 : Nat) (kn2 : Nat → Nat) (rz2 : Nat → Nat → Int64) (ac2 : Int32) (up2 : Int32) (ar2 : Nat → Nat) (wk2 : Nat → Int64) (hdd : dd ≤ 3) (hdc : dc ≤ 19) (hdi : di ≤ 15) (hdid : di + dd + 1 = dc) (hin9 : ∀ i, inn i ≤ 6) (hk2 : ∀ i, kn2 i ≤ 6) : rs_MV (S := {x : (Nat → Nat) × (Nat → Nat → Int64) // (∀ j, j ≤ dd → x.1 j = 0) ∧ (∀ j, j ≤ dd → x.1 (dc + j) = 6) ∧ (∀ i, i < di → x.1 (dd + 1 + i) = inn i) ∧ (∀ j, x.1 j ≤ 6) ∧ rs_F (rs_cF xs ys wt) x.2 dc 0}) l yX2_copyTo (Cond.code yX2_copyTo prog_4_method_7_code 5 none :: rsW) rm_X2_copyTo D vwCl (rs_tys aI aJ aL) rs_nw [.ref (q 0), .ref (q2 0)] ((wDr aI aJ aL q dd dc di xs ys wt inn) ++ (wC aI aJ aL q2 d2 n2 kn2 rz2 ac2 up2 ar2 wk2)) sz (fun uu => (wDr aI aJ aL q dd dc di xs ys wt inn) ++ (wC aI aJ aL q2 dd dc uu.1.1 uu.1.2 ac2 up2 ar2 wk2)) := by
  refine rs_ent (cc := cX2_copyTo) (maxL := 5) (ret := none) (Qc := rs_QV D vwCl _ _) (by decide) rfl (Nat.le_of_ble_eq_true rfl) ?_
  intro p e s m args below meth c ls A Q hx hb hr hml hlk hts hown hin hK hN hP hD hS hA hQ hl
  have hl : lv_has ls 5 [(0, .ref (q 0)), (1, .ref (q2 0))] := hl
  refine lv_aload_n hx hb dX2_copyTo_0 rfl (lv_at hl 1 rfl) ?_
  refine lv_aload_n hx hb dX2_copyTo_1 rfl (lv_at hl 0 rfl) ?_
  refine va_get hx hb hts inX2 hown hK hP 0 (ci := 2) (C := RX2) (T := TX2) (N := 7) rfl rfl 0 (by decide) (hts _ rw_22) (fun _ h => h) (v := .int (nI dd)) rfl dX2_copyTo_2 ?_
  refine va_putN hx hb hts inX1 (ty0 := tyX1) tyX1_ok nmX1 hown hK hP hD hS 5 (ci := 1) (C := RX1) (T := TX1) (N := 8) rfl rfl 0 (by decide) (hN.bef (w := .fieldLinkNest RX2 41 "RefinedSpline$Curve" "degree" "I" "RefinedSpline") (by decide +kernel) rfl) (fun _ h => h) rfl (ty := .int) (by decide +kernel) rfl rfl (Nat.le_of_ble_eq_true rfl) dX2_copyTo_5 (fun H locs hP hD hS => ?_)
  have hP : va_P D vwCl ((wDr aI aJ aL q dd dc di xs ys wt inn) ++ (wC aI aJ aL q2 dd n2 kn2 rz2 ac2 up2 ar2 wk2)) H := hP
  have hD : va_D A ((wDr aI aJ aL q dd dc di xs ys wt inn) ++ (wC aI aJ aL q2 dd n2 kn2 rz2 ac2 up2 ar2 wk2)) := hD
  refine lv_aload_n hx hb dX2_copyTo_8 rfl (lv_at hl 1 rfl) ?_
  refine lv_aload_n hx hb dX2_copyTo_9 rfl (lv_at hl 0 rfl) ?_
  refine va_get hx hb hts inX2 hown hK hP 0 (ci := 2) (C := RX2) (T := TX2) (N := 7) rfl rfl 1 (by decide) (hts _ rw_23) (fun _ h => h) (v := .int (nI dc)) rfl dX2_copyTo_10 ?_
  refine va_putN hx hb hts inX1 (ty0 := tyX1) tyX1_ok nmX1 hown hK hP hD hS 5 (ci := 1) (C := RX1) (T := TX1) (N := 8) rfl rfl 1 (by decide) (hN.bef (w := .fieldLinkNest RX2 44 "RefinedSpline$Curve" "count" "I" "RefinedSpline") (by decide +kernel) rfl) (fun _ h => h) rfl (ty := .int) (by decide +kernel) rfl rfl (Nat.le_of_ble_eq_true rfl) dX2_copyTo_13 (fun H locs hP hD hS => ?_)
  have hP : va_P D vwCl ((wDr aI aJ aL q dd dc di xs ys wt inn) ++ (wC aI aJ aL q2 dd dc kn2 rz2 ac2 up2 ar2 wk2)) H := hP
  have hD : va_D A ((wDr aI aJ aL q dd dc di xs ys wt inn) ++ (wC aI aJ aL q2 dd dc kn2 rz2 ac2 up2 ar2 wk2)) := hD
  refine lv_iconst hx hb dX2_copyTo_16 (v := nI 0) (by decide) ?_
  refine lv_istore_n hx hb dX2_copyTo_17 rfl hl (lv' := [(2, .int (nI 0)), (0, .ref (q 0)), (1, .ref (q2 0))]) (by decide) rfl (fun ls hl => ?_)
  have L_18 : ∀ (k_18 : Nat) (j : Nat) (kn2 : Nat → Nat) (H : Heap) (locs : List Loc) (ls : Array Slot), dd + 1 - j < k_18 → (j ≤ dd + 1) → (∀ i, kn2 i ≤ 6) → (∀ i, i < j → kn2 i = 0) → (∀ i, i < j → kn2 (dc + i) = 6) → lv_has ls 5 [(0, .ref (q 0)), (1, .ref (q2 0)), (2, .int (nI j))] → va_P D vwCl ((wDr aI aJ aL q dd dc di xs ys wt inn) ++ (wC aI aJ aL q2 dd dc kn2 rz2 ac2 up2 ar2 wk2)) H → va_D A ((wDr aI aJ aL q dd dc di xs ys wt inn) ++ (wC aI aJ aL q2 dd dc kn2 rz2 ac2 up2 ar2 wk2)) → va_S A s.heap H locs → W p l e rm_X2_copyTo s m args below meth c H locs 0 0 Q (F0 m 18 ls []) := by
    intro k_18
    induction k_18 with
    | zero => intro j kn2 H locs ls hk_18; exact absurd hk_18 (Nat.not_lt_zero _)
    | succ k_18 ih_18 =>
      intro j kn2 H locs ls hk_18 hj hk2 hA hB hl hP hD hS
      refine lv_iload_n hx hb dX2_copyTo_18 rfl (lv_at hl 2 rfl) ?_
      refine lv_aload_n hx hb dX2_copyTo_19 rfl (lv_at hl 0 rfl) ?_
      refine va_get hx hb hts inX2 hown hK hP 0 (ci := 2) (C := RX2) (T := TX2) (N := 7) rfl rfl 0 (by decide) (hts _ rw_22) (fun _ h => h) (v := .int (nI dd)) rfl dX2_copyTo_20 ?_
      refine lv_icmp_gt hx hb dX2_copyTo_23 (tgt := 52) rfl (fun h_23 => ?_) (fun h_23 => ?_)
      · have h_23 : dd < j := (nI_ltI (by omega) (by omega)).1 h_23
        refine lv_iconst hx hb dX2_copyTo_52 (v := nI 0) (by decide) ?_
        refine lv_istore_n hx hb dX2_copyTo_53 rfl hl (lv' := [(2, .int (nI 0)), (0, .ref (q 0)), (1, .ref (q2 0))]) (by decide) rfl (fun ls hl => ?_)
        have L_54 : ∀ (k_54 : Nat) (i : Nat) (kn2 : Nat → Nat) (H : Heap) (locs : List Loc) (ls : Array Slot), di - i < k_54 → (i ≤ di) → (∀ i, kn2 i ≤ 6) → (∀ i, i < dd + 1 → kn2 i = 0) → (∀ i, i < dd + 1 → kn2 (dc + i) = 6) → (∀ x, x < i → kn2 (dd + 1 + x) = inn x) → lv_has ls 5 [(0, .ref (q 0)), (1, .ref (q2 0)), (2, .int (nI i))] → va_P D vwCl ((wDr aI aJ aL q dd dc di xs ys wt inn) ++ (wC aI aJ aL q2 dd dc kn2 rz2 ac2 up2 ar2 wk2)) H → va_D A ((wDr aI aJ aL q dd dc di xs ys wt inn) ++ (wC aI aJ aL q2 dd dc kn2 rz2 ac2 up2 ar2 wk2)) → va_S A s.heap H locs → W p l e rm_X2_copyTo s m args below meth c H locs 0 0 Q (F0 m 54 ls []) := by
          intro k_54
          induction k_54 with
          | zero => intro i kn2 H locs ls hk_54; exact absurd hk_54 (Nat.not_lt_zero _)
          | succ k_54 ih_54 =>
            intro i kn2 H locs ls hk_54 hi hk2 hA hB hC hl hP hD hS
            refine lv_iload_n hx hb dX2_copyTo_54 rfl (lv_at hl 2 rfl) ?_
            refine lv_aload_n hx hb dX2_copyTo_55 rfl (lv_at hl 0 rfl) ?_
            refine va_get hx hb hts inX2 hown hK hP 0 (ci := 2) (C := RX2) (T := TX2) (N := 7) rfl rfl 2 (by decide) (hts _ rw_24) (fun _ h => h) (v := .int (nI di)) rfl dX2_copyTo_56 ?_
            refine lv_icmp_ge hx hb dX2_copyTo_59 (tgt := 87) rfl (fun h_59 => ?_) (fun h_59 => ?_)
            · have h_59 : di ≤ i := (nI_leI (by omega) (by omega)).1 h_59
              refine lv_iconst hx hb dX2_copyTo_87 (v := nI 0) (by decide) ?_
              have hA9 : ∀ j, j ≤ dd → kn2 j = 0 := fun j hj => hA j (by omega)
              have hB9 : ∀ j, j ≤ dd → kn2 (dc + j) = 6 := fun j hj => hB j (by omega)
              have hC9 : ∀ x, x < di → kn2 (dd + 1 + x) = inn x := fun x hx => hC x (by omega)
              refine lv_istore_n hx hb dX2_copyTo_88 rfl hl (lv' := [(2, .int (nI 0)), (0, .ref (q 0)), (1, .ref (q2 0))]) (by decide) rfl (fun ls hl => ?_)
              have L_89 : ∀ (k_89 : Nat) (i : Nat) (rz2 : Nat → Nat → Int64) (H : Heap) (locs : List Loc) (ls : Array Slot), dc - i < k_89 → (i ≤ dc) → (rs_F (rs_cF xs ys wt) rz2 i 0) → lv_has ls 5 [(0, .ref (q 0)), (1, .ref (q2 0)), (2, .int (nI i))] → va_P D vwCl ((wDr aI aJ aL q dd dc di xs ys wt inn) ++ (wC aI aJ aL q2 dd dc kn2 rz2 ac2 up2 ar2 wk2)) H → va_D A ((wDr aI aJ aL q dd dc di xs ys wt inn) ++ (wC aI aJ aL q2 dd dc kn2 rz2 ac2 up2 ar2 wk2)) → va_S A s.heap H locs → W p l e rm_X2_copyTo s m args below meth c H locs 0 0 Q (F0 m 89 ls []) := by
                intro k_89
                induction k_89 with
                | zero => intro i rz2 H locs ls hk_89; exact absurd hk_89 (Nat.not_lt_zero _)
                | succ k_89 ih_89 =>
                  intro i rz2 H locs ls hk_89 hi hF hl hP hD hS
                  refine lv_iload_n hx hb dX2_copyTo_89 rfl (lv_at hl 2 rfl) ?_
                  refine lv_aload_n hx hb dX2_copyTo_90 rfl (lv_at hl 0 rfl) ?_
                  refine va_get hx hb hts inX2 hown hK hP 0 (ci := 2) (C := RX2) (T := TX2) (N := 7) rfl rfl 1 (by decide) (hts _ rw_23) (fun _ h => h) (v := .int (nI dc)) rfl dX2_copyTo_91 ?_
                  refine lv_icmp_ge hx hb dX2_copyTo_94 (tgt := 158) rfl (fun h_94 => ?_) (fun h_94 => ?_)
                  · have h_94 : dc ≤ i := (nI_leI (by omega) (by omega)).1 h_94
                    exact rs_vret ⟨(kn2, rz2), hA9, hB9, hC9, hk2, by have h9 : i = dc := (by omega); subst h9; exact hF⟩ hx hb hr hlk hQ hK hP hD hS rfl dX2_copyTo_158
                  · have h_94 : i < dc := Nat.lt_of_not_le (fun z => h_94 ((nI_leI (by omega) (by omega)).2 z))
                    refine lv_ldc2 hx hb hown (hts _ rw_175) dX2_copyTo_97 ?_
                    refine lv_aload_n hx hb dX2_copyTo_100 rfl (lv_at hl 0 rfl) ?_
                    refine va_get hx hb hts inX2 hown hK hP 0 (ci := 2) (C := RX2) (T := TX2) (N := 7) rfl rfl 5 (by decide) (hts _ rw_27) (fun _ h => h) (v := .ref (q 3)) rfl dX2_copyTo_101 ?_
                    refine lv_iload_n hx hb dX2_copyTo_104 rfl (lv_at hl 2 rfl) ?_
                    refine rs_iald hx hb hK hP 3 0 rfl rfl (i := i) (by omega) (by decide) (v := wt i) rfl dX2_copyTo_105 ?_
                    refine lv_i2l hx hb dX2_copyTo_106 (v := (wt i).toInt64) rfl ?_
                    refine lv_lmul hx hb dX2_copyTo_107 ?_
                    refine lv_topl (fun wv hwv => ?_)
                    refine lv_lstore_n hx hb dX2_copyTo_108 rfl hl (lv' := [(3, .long wv), (0, .ref (q 0)), (1, .ref (q2 0)), (2, .int (nI i))]) (by decide) rfl (fun ls hl => ?_)
                    refine lv_aload_n hx hb dX2_copyTo_109 rfl (lv_at hl 2 rfl) ?_
                    refine va_getN hx hb hts inX1 hown hK hP 5 (ci := 1) (C := RX1) (T := TX1) (N := 8) rfl rfl 3 (by decide) (hN.bef (w := .fieldLinkNest RX2 50 "RefinedSpline$Curve" "rows" "[[J" "RefinedSpline") (by decide +kernel) rfl) (fun _ h => h) (v := .ref (q2 2)) rfl dX2_copyTo_110 ?_
                    refine lv_iconst hx hb dX2_copyTo_113 (v := nI 0) (by decide) ?_
                    refine rs_aald hx hb hK hP 7 2 rfl rfl (i := 0) (by omega) (by decide) (b := q2 (3 + 0)) rfl dX2_copyTo_114 ?_
                    refine lv_iload_n hx hb dX2_copyTo_115 rfl (lv_at hl 3 rfl) ?_
                    refine lv_aload_n hx hb dX2_copyTo_116 rfl (lv_at hl 1 rfl) ?_
                    refine va_get hx hb hts inX2 hown hK hP 0 (ci := 2) (C := RX2) (T := TX2) (N := 7) rfl rfl 3 (by decide) (hts _ rw_25) (fun _ h => h) (v := .ref (q 1)) rfl dX2_copyTo_117 ?_
                    refine lv_iload_n hx hb dX2_copyTo_120 rfl (lv_at hl 3 rfl) ?_
                    refine rs_iald hx hb hK hP 1 0 rfl rfl (i := i) (by omega) (by decide) (v := xs i) rfl dX2_copyTo_121 ?_
                    refine lv_i2l hx hb dX2_copyTo_122 (v := (xs i).toInt64) rfl ?_
                    refine lv_lload_n hx hb dX2_copyTo_123 rfl (lv_at hl 0 rfl) ?_
                    refine lv_lmul hx hb dX2_copyTo_124 ?_
                    refine lv_topl (fun xv hxv => ?_)
                    refine rs_last hx hb hK hP hD hS (8 + 0) 1 (co_3 (P := fun z => ((wDr aI aJ aL q dd dc di xs ys wt inn) ++ (wC aI aJ aL q2 dd dc kn2 rz2 ac2 up2 ar2 wk2))[8 + z]? = some (q2 (3 + z), .inl (aJ, 19, .inr (.inl (rz2 z))))) rfl rfl rfl (by omega)) rfl (i := i) (by omega) (by decide) dX2_copyTo_125 (ws' := (wDr aI aJ aL q dd dc di xs ys wt inn) ++ (wC aI aJ aL q2 dd dc kn2 (rs_upR rz2 0 i xv) ac2 up2 ar2 wk2)) (co_3 (P := fun z => ((wDr aI aJ aL q dd dc di xs ys wt inn) ++ (wC aI aJ aL q2 dd dc kn2 rz2 ac2 up2 ar2 wk2)).set (8 + z) (q2 (3 + z), .inl (aJ, 19, .inr (.inl (vp_updL (rz2 z) i xv)))) = ((wDr aI aJ aL q dd dc di xs ys wt inn) ++ (wC aI aJ aL q2 dd dc kn2 (rs_upR rz2 z i xv) ac2 up2 ar2 wk2))) rfl rfl rfl (by omega)) (fun H locs hP hD hS => ?_)
                    refine lv_aload_n hx hb dX2_copyTo_126 rfl (lv_at hl 2 rfl) ?_
                    refine va_getN hx hb hts inX1 hown hK hP 5 (ci := 1) (C := RX1) (T := TX1) (N := 8) rfl rfl 3 (by decide) (hN.bef (w := .fieldLinkNest RX2 50 "RefinedSpline$Curve" "rows" "[[J" "RefinedSpline") (by decide +kernel) rfl) (fun _ h => h) (v := .ref (q2 2)) rfl dX2_copyTo_127 ?_
                    refine lv_iconst hx hb dX2_copyTo_130 (v := nI 1) (by decide) ?_
                    refine rs_aald hx hb hK hP 7 2 rfl rfl (i := 1) (by omega) (by decide) (b := q2 (3 + 1)) rfl dX2_copyTo_131 ?_
                    refine lv_iload_n hx hb dX2_copyTo_132 rfl (lv_at hl 3 rfl) ?_
                    refine lv_aload_n hx hb dX2_copyTo_133 rfl (lv_at hl 1 rfl) ?_
                    refine va_get hx hb hts inX2 hown hK hP 0 (ci := 2) (C := RX2) (T := TX2) (N := 7) rfl rfl 4 (by decide) (hts _ rw_26) (fun _ h => h) (v := .ref (q 2)) rfl dX2_copyTo_134 ?_
                    refine lv_iload_n hx hb dX2_copyTo_137 rfl (lv_at hl 3 rfl) ?_
                    refine rs_iald hx hb hK hP 2 0 rfl rfl (i := i) (by omega) (by decide) (v := ys i) rfl dX2_copyTo_138 ?_
                    refine lv_i2l hx hb dX2_copyTo_139 (v := (ys i).toInt64) rfl ?_
                    refine lv_lload_n hx hb dX2_copyTo_140 rfl (lv_at hl 0 rfl) ?_
                    refine lv_lmul hx hb dX2_copyTo_141 ?_
                    refine lv_topl (fun yv hyv => ?_)
                    refine rs_last hx hb hK hP hD hS (8 + 1) 1 (co_3 (P := fun z => ((wDr aI aJ aL q dd dc di xs ys wt inn) ++ (wC aI aJ aL q2 dd dc kn2 (rs_upR rz2 0 i xv) ac2 up2 ar2 wk2))[8 + z]? = some (q2 (3 + z), .inl (aJ, 19, .inr (.inl ((rs_upR rz2 0 i xv) z))))) rfl rfl rfl (by omega)) rfl (i := i) (by omega) (by decide) dX2_copyTo_142 (ws' := (wDr aI aJ aL q dd dc di xs ys wt inn) ++ (wC aI aJ aL q2 dd dc kn2 (rs_upR (rs_upR rz2 0 i xv) 1 i yv) ac2 up2 ar2 wk2)) (co_3 (P := fun z => ((wDr aI aJ aL q dd dc di xs ys wt inn) ++ (wC aI aJ aL q2 dd dc kn2 (rs_upR rz2 0 i xv) ac2 up2 ar2 wk2)).set (8 + z) (q2 (3 + z), .inl (aJ, 19, .inr (.inl (vp_updL ((rs_upR rz2 0 i xv) z) i yv)))) = ((wDr aI aJ aL q dd dc di xs ys wt inn) ++ (wC aI aJ aL q2 dd dc kn2 (rs_upR (rs_upR rz2 0 i xv) z i yv) ac2 up2 ar2 wk2))) rfl rfl rfl (by omega)) (fun H locs hP hD hS => ?_)
                    refine lv_aload_n hx hb dX2_copyTo_143 rfl (lv_at hl 2 rfl) ?_
                    refine va_getN hx hb hts inX1 hown hK hP 5 (ci := 1) (C := RX1) (T := TX1) (N := 8) rfl rfl 3 (by decide) (hN.bef (w := .fieldLinkNest RX2 50 "RefinedSpline$Curve" "rows" "[[J" "RefinedSpline") (by decide +kernel) rfl) (fun _ h => h) (v := .ref (q2 2)) rfl dX2_copyTo_144 ?_
                    refine lv_iconst hx hb dX2_copyTo_147 (v := nI 2) (by decide) ?_
                    refine rs_aald hx hb hK hP 7 2 rfl rfl (i := 2) (by omega) (by decide) (b := q2 (3 + 2)) rfl dX2_copyTo_148 ?_
                    refine lv_iload_n hx hb dX2_copyTo_149 rfl (lv_at hl 3 rfl) ?_
                    refine lv_lload_n hx hb dX2_copyTo_150 rfl (lv_at hl 0 rfl) ?_
                    refine rs_last hx hb hK hP hD hS (8 + 2) 1 (co_3 (P := fun z => ((wDr aI aJ aL q dd dc di xs ys wt inn) ++ (wC aI aJ aL q2 dd dc kn2 (rs_upR (rs_upR rz2 0 i xv) 1 i yv) ac2 up2 ar2 wk2))[8 + z]? = some (q2 (3 + z), .inl (aJ, 19, .inr (.inl ((rs_upR (rs_upR rz2 0 i xv) 1 i yv) z))))) rfl rfl rfl (by omega)) rfl (i := i) (by omega) (by decide) dX2_copyTo_151 (ws' := (wDr aI aJ aL q dd dc di xs ys wt inn) ++ (wC aI aJ aL q2 dd dc kn2 (rs_upR (rs_upR (rs_upR rz2 0 i xv) 1 i yv) 2 i wv) ac2 up2 ar2 wk2)) (co_3 (P := fun z => ((wDr aI aJ aL q dd dc di xs ys wt inn) ++ (wC aI aJ aL q2 dd dc kn2 (rs_upR (rs_upR rz2 0 i xv) 1 i yv) ac2 up2 ar2 wk2)).set (8 + z) (q2 (3 + z), .inl (aJ, 19, .inr (.inl (vp_updL ((rs_upR (rs_upR rz2 0 i xv) 1 i yv) z) i wv)))) = ((wDr aI aJ aL q dd dc di xs ys wt inn) ++ (wC aI aJ aL q2 dd dc kn2 (rs_upR (rs_upR (rs_upR rz2 0 i xv) 1 i yv) z i wv) ac2 up2 ar2 wk2))) rfl rfl rfl (by omega)) (fun H locs hP hD hS => ?_)
                    refine lv_iinc hx hb dX2_copyTo_152 hl (k := 3) rfl (v := nI (i + 1)) (rs_inc _ _) (by decide) (lv' := [(2, .int (nI (i + 1))), (3, .long wv), (0, .ref (q 0)), (1, .ref (q2 0))]) rfl (fun ls hl => ?_)
                    refine lv_goto hx hb dX2_copyTo_155 (tgt := 89) rfl ?_
                    exact ih_89 (i + 1) _ _ _ _ (by omega) (by omega) (rs_F.next (rs_F.up (rs_F.up (rs_F.up hF (by rw [hxv, hwv]; exact rs_cF_0 xs ys wt i)) (by rw [hyv, hwv]; exact rs_cF_1 xs ys wt i)) (by rw [hwv]; exact rs_cF_2 xs ys wt i))) (lv_sub hl [2, 3, 0] rfl) hP hD hS
              exact L_89 ((dc - 0) + 1) 0 rz2 _ _ _ (Nat.lt_succ_self _) (Nat.zero_le _) rs_F.zero (lv_sub hl [1, 2, 0] rfl) hP hD hS
            · have h_59 : i < di := Nat.lt_of_not_le (fun z => h_59 ((nI_leI (by omega) (by omega)).2 z))
              refine lv_aload_n hx hb dX2_copyTo_62 rfl (lv_at hl 1 rfl) ?_
              refine va_getN hx hb hts inX1 hown hK hP 5 (ci := 1) (C := RX1) (T := TX1) (N := 8) rfl rfl 2 (by decide) (hN.bef (w := .fieldLinkNest RX2 45 "RefinedSpline$Curve" "knots" "[I" "RefinedSpline") (by decide +kernel) rfl) (fun _ h => h) (v := .ref (q2 1)) rfl dX2_copyTo_63 ?_
              refine lv_aload_n hx hb dX2_copyTo_66 rfl (lv_at hl 0 rfl) ?_
              refine va_get hx hb hts inX2 hown hK hP 0 (ci := 2) (C := RX2) (T := TX2) (N := 7) rfl rfl 0 (by decide) (hts _ rw_22) (fun _ h => h) (v := .int (nI dd)) rfl dX2_copyTo_67 ?_
              refine lv_iconst hx hb dX2_copyTo_70 (v := nI 1) (by decide) ?_
              refine rs_iadd hx hb dX2_copyTo_71 (v := nI (dd + 1)) (nI_add _ _) ?_
              refine lv_iload_n hx hb dX2_copyTo_72 rfl (lv_at hl 2 rfl) ?_
              refine rs_iadd hx hb dX2_copyTo_73 (v := nI ((dd + 1) + i)) (nI_add _ _) ?_
              refine lv_aload_n hx hb dX2_copyTo_74 rfl (lv_at hl 0 rfl) ?_
              refine va_get hx hb hts inX2 hown hK hP 0 (ci := 2) (C := RX2) (T := TX2) (N := 7) rfl rfl 6 (by decide) (hts _ rw_28) (fun _ h => h) (v := .ref (q 4)) rfl dX2_copyTo_75 ?_
              refine lv_iload_n hx hb dX2_copyTo_78 rfl (lv_at hl 2 rfl) ?_
              refine rs_iald hx hb hK hP 4 0 rfl rfl (i := i) (by omega) (by decide) (v := nI (inn i)) rfl dX2_copyTo_79 ?_
              refine rs_iast hx hb hK hP hD hS 6 0 rfl rfl (i := ((dd + 1) + i)) (by omega) (by decide) (rs_upI _ _ _) dX2_copyTo_80 (ws' := (wDr aI aJ aL q dd dc di xs ys wt inn) ++ (wC aI aJ aL q2 dd dc (rs_up kn2 ((dd + 1) + i) (inn i)) rz2 ac2 up2 ar2 wk2)) rfl (fun H locs hP hD hS => ?_)
              refine lv_iinc hx hb dX2_copyTo_81 hl (k := 2) rfl (v := nI (i + 1)) (rs_inc _ _) (by decide) (lv' := [(2, .int (nI (i + 1))), (0, .ref (q 0)), (1, .ref (q2 0))]) rfl (fun ls hl => ?_)
              refine lv_goto hx hb dX2_copyTo_84 (tgt := 54) rfl ?_
              exact ih_54 (i + 1) _ _ _ _ (by omega) (by omega) (rs_up_le hk2 (hin9 _)) (rs_cp3 (by omega) hA) (rs_cp4 (by omega) hB) (rs_cp5 hC) (lv_sub hl [1, 2, 0] rfl) hP hD hS
        exact L_54 ((di - 0) + 1) 0 kn2 _ _ _ (Nat.lt_succ_self _) (Nat.zero_le _) hk2 (fun i hi => hA i (by omega)) (fun i hi => hB i (by omega)) lt_0 (lv_sub hl [1, 2, 0] rfl) hP hD hS
      · have h_23 : j ≤ dd := Nat.le_of_not_lt (fun z => h_23 ((nI_ltI (by omega) (by omega)).2 z))
        refine lv_aload_n hx hb dX2_copyTo_26 rfl (lv_at hl 1 rfl) ?_
        refine va_getN hx hb hts inX1 hown hK hP 5 (ci := 1) (C := RX1) (T := TX1) (N := 8) rfl rfl 2 (by decide) (hN.bef (w := .fieldLinkNest RX2 45 "RefinedSpline$Curve" "knots" "[I" "RefinedSpline") (by decide +kernel) rfl) (fun _ h => h) (v := .ref (q2 1)) rfl dX2_copyTo_27 ?_
        refine lv_iload_n hx hb dX2_copyTo_30 rfl (lv_at hl 2 rfl) ?_
        refine lv_iconst hx hb dX2_copyTo_31 (v := nI 0) (by decide) ?_
        refine rs_iast hx hb hK hP hD hS 6 0 rfl rfl (i := j) (by omega) (by decide) (rs_upI _ _ _) dX2_copyTo_32 (ws' := (wDr aI aJ aL q dd dc di xs ys wt inn) ++ (wC aI aJ aL q2 dd dc (rs_up kn2 j 0) rz2 ac2 up2 ar2 wk2)) rfl (fun H locs hP hD hS => ?_)
        refine lv_aload_n hx hb dX2_copyTo_33 rfl (lv_at hl 1 rfl) ?_
        refine va_getN hx hb hts inX1 hown hK hP 5 (ci := 1) (C := RX1) (T := TX1) (N := 8) rfl rfl 2 (by decide) (hN.bef (w := .fieldLinkNest RX2 45 "RefinedSpline$Curve" "knots" "[I" "RefinedSpline") (by decide +kernel) rfl) (fun _ h => h) (v := .ref (q2 1)) rfl dX2_copyTo_34 ?_
        refine lv_aload_n hx hb dX2_copyTo_37 rfl (lv_at hl 0 rfl) ?_
        refine va_get hx hb hts inX2 hown hK hP 0 (ci := 2) (C := RX2) (T := TX2) (N := 7) rfl rfl 1 (by decide) (hts _ rw_23) (fun _ h => h) (v := .int (nI dc)) rfl dX2_copyTo_38 ?_
        refine lv_iload_n hx hb dX2_copyTo_41 rfl (lv_at hl 2 rfl) ?_
        refine rs_iadd hx hb dX2_copyTo_42 (v := nI (dc + j)) (nI_add _ _) ?_
        refine lv_bipush hx hb dX2_copyTo_43 (v := nI 6) (by decide) ?_
        refine rs_iast hx hb hK hP hD hS 6 0 rfl rfl (i := (dc + j)) (by omega) (by decide) (rs_upI _ _ _) dX2_copyTo_45 (ws' := (wDr aI aJ aL q dd dc di xs ys wt inn) ++ (wC aI aJ aL q2 dd dc (rs_up (rs_up kn2 j 0) (dc + j) 6) rz2 ac2 up2 ar2 wk2)) rfl (fun H locs hP hD hS => ?_)
        refine lv_iinc hx hb dX2_copyTo_46 hl (k := 2) rfl (v := nI (j + 1)) (rs_inc _ _) (by decide) (lv' := [(2, .int (nI (j + 1))), (0, .ref (q 0)), (1, .ref (q2 0))]) rfl (fun ls hl => ?_)
        refine lv_goto hx hb dX2_copyTo_49 (tgt := 18) rfl ?_
        exact ih_18 (j + 1) _ _ _ _ (by omega) (by omega) (rs_up_le (rs_up_le hk2 (by decide)) (by decide)) (rs_cp1 (by omega) hA) (rs_cp2 (by omega) hB) (lv_sub hl [1, 2, 0] rfl) hP hD hS
  exact L_18 ((dd + 1 - 0) + 1) 0 kn2 _ _ _ (Nat.lt_succ_self _) (Nat.zero_le _) hk2 lt_0 lt_0 (lv_sub hl [1, 2, 0] rfl) hP hD hS
