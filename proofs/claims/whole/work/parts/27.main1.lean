def rm_X3_takeSpare : Room := { frames := 1, cells := 0, slots := 0, locals := 64 }
set_option maxHeartbeats 4000000 in
set_option maxRecDepth 100000 in
theorem c_X3_takeSpare (l : Launch) (D : va_G) (aI aJ aL : ClassId) (sz : Nat) (h : Nat) (a1 : Nat) (a2 : Nat) (a3 : Nat) (a4 : Nat)  : rs_MV (S := Unit) l yX3_takeSpare (Cond.code yX3_takeSpare prog_1_method_25_code 2 none :: rsW) rm_X3_takeSpare D vwCl (rs_tys aI aJ aL) rs_nw [.ref h] (wS aI aJ aL h a1 a2 a3 a4) sz (fun uu => wS aI aJ aL h a1 a2 a4 a3) := by
  refine rs_ent (cc := cX3_takeSpare) (maxL := 2) (ret := none) (Qc := rs_QV D vwCl _ _) (by decide) rfl (Nat.le_of_ble_eq_true rfl) ?_
  intro p e s m args below meth c ls A Q hx hb hr hml hlk hts hown hin hK hN hP hD hS hA hQ hl
  have hl : lv_has ls 2 [(0, .ref h)] := hl
  refine lv_aload_n hx hb dX3_takeSpare_0 rfl (lv_at hl 0 rfl) ?_
  refine va_get hx hb hts inX3 hown hK hP 0 (ci := 3) (C := RX3) (T := TX3) (N := 4) rfl rfl 2 (by decide) (hts _ rw_122) (fun _ h => h) (v := .ref a3) rfl dX3_takeSpare_1 ?_
  refine lv_astore_n hx hb dX3_takeSpare_4 rfl hl (lv' := [(1, .ref a3), (0, .ref h)]) (by decide) rfl (fun ls hl => ?_)
  refine lv_aload_n hx hb dX3_takeSpare_5 rfl (lv_at hl 1 rfl) ?_
  refine lv_aload_n hx hb dX3_takeSpare_6 rfl (lv_at hl 1 rfl) ?_
  refine va_get hx hb hts inX3 hown hK hP 0 (ci := 3) (C := RX3) (T := TX3) (N := 4) rfl rfl 3 (by decide) (hts _ rw_123) (fun _ h => h) (v := .ref a4) rfl dX3_takeSpare_7 ?_
  refine va_put hx hb hts inX3 (ty0 := tyX3) tyX3_ok nmX3 hown hK hP hD hS 0 (ci := 3) (C := RX3) (T := TX3) (N := 4) rfl rfl 2 (by decide) (hts _ rw_122) (fun _ h => h) rfl (ty := .object "RefinedSpline$Curve") (by decide +kernel) rfl rfl (Nat.le_of_ble_eq_true rfl) dX3_takeSpare_10 (fun H locs hP hD hS => ?_)
  have hP : va_P D vwCl (wS aI aJ aL h a1 a2 a4 a4) H := hP
  have hD : va_D A (wS aI aJ aL h a1 a2 a4 a4) := hD
  refine lv_aload_n hx hb dX3_takeSpare_13 rfl (lv_at hl 1 rfl) ?_
  refine lv_aload_n hx hb dX3_takeSpare_14 rfl (lv_at hl 0 rfl) ?_
  refine va_put hx hb hts inX3 (ty0 := tyX3) tyX3_ok nmX3 hown hK hP hD hS 0 (ci := 3) (C := RX3) (T := TX3) (N := 4) rfl rfl 3 (by decide) (hts _ rw_123) (fun _ h => h) rfl (ty := .object "RefinedSpline$Curve") (by decide +kernel) rfl rfl (Nat.le_of_ble_eq_true rfl) dX3_takeSpare_15 (fun H locs hP hD hS => ?_)
  have hP : va_P D vwCl (wS aI aJ aL h a1 a2 a4 a3) H := hP
  have hD : va_D A (wS aI aJ aL h a1 a2 a4 a3) := hD
  exact rs_vret () hx hb hr hlk hQ hK hP hD hS rfl dX3_takeSpare_18

def rm_X3_putIn : Room := { frames := 4, cells := 0, slots := 0, locals := 327 }
set_option maxHeartbeats 4000000 in
set_option maxRecDepth 100000 in
theorem c_X3_putIn (l : Launch) (D : va_G) (aI aJ aL : ClassId) (sz : Nat) (h : Nat) (a1 : Nat) (a2 : Nat) (q : Nat → Nat) (d : Nat) (n : Nat) (kn : Nat → Nat) (rz : Nat → Nat → Int64) (ac : Int32) (up : Int32) (ar : Nat → Nat) (wk : Nat → Int64) (q2 : Nat → Nat) (d2 : Nat) (n2 : Nat) (kn2 : Nat → Nat) (rz2 : Nat → Nat → Int64) (ac2 : Int32) (up2 : Int32) (ar2 : Nat → Nat) (wk2 : Nat → Int64) (k : Nat) (hd : d ≤ 3) (hn : n ≤ 18) (hdn : d + 1 ≤ n) (hk : ∀ i, kn i ≤ 6) (hk5 : k ≤ 5) : rs_MV (S := {x : Nat → Nat → Int64 // rs_F (rs_fin kn d n rz k) x (n + 1) 0}) l yX3_putIn (Cond.code yX3_putIn prog_1_method_23_code 2 none :: rsW) rm_X3_putIn D vwCl (rs_tys aI aJ aL) rs_nw [.ref h, .int (nI k)] ((wS aI aJ aL h a1 a2 (q 0) (q2 0)) ++ (wC aI aJ aL q d n kn rz ac up ar wk) ++ (wC aI aJ aL q2 d2 n2 kn2 rz2 ac2 up2 ar2 wk2)) sz (fun uu => (wS aI aJ aL h a1 a2 (q2 0) (q 0)) ++ (wC aI aJ aL q2 d (n + 1) (rs_kin kn kn2 (rs_sp kn d (60 * k) (n - (d + 1)) + 1) k (n + d + 1)) uu.1 ac2 up2 ar2 wk2) ++ (wC aI aJ aL q d n kn rz ac up ar wk)) := by
  refine rs_ent (cc := cX3_putIn) (maxL := 2) (ret := none) (Qc := rs_QV D vwCl _ _) (by decide) rfl (Nat.le_of_ble_eq_true rfl) ?_
  intro p e s m args below meth c ls A Q hx hb hr hml hlk hts hown hin hK hN hP hD hS hA hQ hl
  have hl : lv_has ls 2 [(0, .ref h), (1, .int (nI k))] := hl
  refine lv_aload_n hx hb dX3_putIn_0 rfl (lv_at hl 0 rfl) ?_
  refine va_get hx hb hts inX3 hown hK hP 0 (ci := 3) (C := RX3) (T := TX3) (N := 4) rfl rfl 2 (by decide) (hts _ rw_122) (fun _ h => h) (v := .ref (q 0)) rfl dX3_putIn_1 ?_
  refine lv_aload_n hx hb dX3_putIn_4 rfl (lv_at hl 0 rfl) ?_
  refine va_get hx hb hts inX3 hown hK hP 0 (ci := 3) (C := RX3) (T := TX3) (N := 4) rfl rfl 3 (by decide) (hts _ rw_123) (fun _ h => h) (v := .ref (q2 0)) rfl dX3_putIn_5 ?_
  refine lv_iload_n hx hb dX3_putIn_8 rfl (lv_at hl 1 rfl) ?_
  refine rs_cVV (rest := []) (wr := (wS aI aJ aL h a1 a2 (q 0) (q2 0))) (ws' := fun u_9 => (wS aI aJ aL h a1 a2 (q 0) (q2 0)) ++ (wC aI aJ aL q d n kn rz ac up ar wk) ++ (wC aI aJ aL q2 d (n + 1) (rs_kin kn kn2 (rs_sp kn d (60 * k) (n - (d + 1)) + 1) k (n + d + 1)) u_9.1 ac2 up2 ar2 wk2)) ⟨hx, hb, hml, hown, hts⟩ (c_X1_refineInto l D aI aJ aL _ q d n kn rz ac up ar wk q2 d2 n2 kn2 rz2 ac2 up2 ar2 wk2 k hd hn hdn hk hk5) (cwV 2 hts (rs_gV rw_201 rw_202 rw_203 rw_4 rw_204) rfl rfl rfl (by decide +kernel) ⟨Nat.le_of_ble_eq_true rfl, Nat.le_of_ble_eq_true rfl⟩) hK hN hP hD hS hA [1, 2, 3, 4, 5, 6, 7, 8, 9, 10, 11, 12, 13, 14, 15, 16] [0] [0, 1, 2, 3, 4, 5, 6, 7, 8, 9, 10, 11, 12, 13, 14, 15, 16] (by decide) rfl rfl (fun _ => rfl) 1 rfl rfl hl.1 rfl rfl (Nat.le_of_ble_eq_true rfl) dX3_putIn_9 ⟨Nat.le_refl _, Nat.le_refl _⟩ (fun u_9 H locs hP hD hS => ?_)
  have hP : va_P D vwCl ((wS aI aJ aL h a1 a2 (q 0) (q2 0)) ++ (wC aI aJ aL q d n kn rz ac up ar wk) ++ (wC aI aJ aL q2 d (n + 1) (rs_kin kn kn2 (rs_sp kn d (60 * k) (n - (d + 1)) + 1) k (n + d + 1)) u_9.1 ac2 up2 ar2 wk2)) H := hP
  have hD : va_D A ((wS aI aJ aL h a1 a2 (q 0) (q2 0)) ++ (wC aI aJ aL q d n kn rz ac up ar wk) ++ (wC aI aJ aL q2 d (n + 1) (rs_kin kn kn2 (rs_sp kn d (60 * k) (n - (d + 1)) + 1) k (n + d + 1)) u_9.1 ac2 up2 ar2 wk2)) := hD
  refine lv_aload_n hx hb dX3_putIn_12 rfl (lv_at hl 0 rfl) ?_
  refine rs_cVV (rest := []) (wr := (wC aI aJ aL q d n kn rz ac up ar wk) ++ (wC aI aJ aL q2 d (n + 1) (rs_kin kn kn2 (rs_sp kn d (60 * k) (n - (d + 1)) + 1) k (n + d + 1)) u_9.1 ac2 up2 ar2 wk2)) (ws' := fun u_13 => (wS aI aJ aL h a1 a2 (q2 0) (q 0)) ++ (wC aI aJ aL q d n kn rz ac up ar wk) ++ (wC aI aJ aL q2 d (n + 1) (rs_kin kn kn2 (rs_sp kn d (60 * k) (n - (d + 1)) + 1) k (n + d + 1)) u_9.1 ac2 up2 ar2 wk2)) ⟨hx, hb, hml, hown, hts⟩ (c_X3_takeSpare l D aI aJ aL _ h a1 a2 (q 0) (q2 0) ) (cwV 0 hts (rs_gV rw_238 rw_240 rv_4 rw_1 rw_241) rfl rfl rfl (by decide +kernel) ⟨Nat.le_of_ble_eq_true rfl, Nat.le_of_ble_eq_true rfl⟩) hK hN hP hD hS hA [0] [1, 2, 3, 4, 5, 6, 7, 8, 9, 10, 11, 12, 13, 14, 15, 16] [16, 0, 1, 2, 3, 4, 5, 6, 7, 8, 9, 10, 11, 12, 13, 14, 15] (by decide) rfl rfl (fun _ => rfl) 0 rfl rfl hl.1 rfl rfl (Nat.le_of_ble_eq_true rfl) dX3_putIn_13 ⟨Nat.le_refl _, Nat.le_refl _⟩ (fun u_13 H locs hP hD hS => ?_)
  have hP : va_P D vwCl ((wS aI aJ aL h a1 a2 (q2 0) (q 0)) ++ (wC aI aJ aL q d n kn rz ac up ar wk) ++ (wC aI aJ aL q2 d (n + 1) (rs_kin kn kn2 (rs_sp kn d (60 * k) (n - (d + 1)) + 1) k (n + d + 1)) u_9.1 ac2 up2 ar2 wk2)) H := hP
  have hD : va_D A ((wS aI aJ aL h a1 a2 (q2 0) (q 0)) ++ (wC aI aJ aL q d n kn rz ac up ar wk) ++ (wC aI aJ aL q2 d (n + 1) (rs_kin kn kn2 (rs_sp kn d (60 * k) (n - (d + 1)) + 1) k (n + d + 1)) u_9.1 ac2 up2 ar2 wk2)) := hD
  have hP : va_P D vwCl ((wS aI aJ aL h a1 a2 (q2 0) (q 0)) ++ (wC aI aJ aL q2 d (n + 1) (rs_kin kn kn2 (rs_sp kn d (60 * k) (n - (d + 1)) + 1) k (n + d + 1)) u_9.1 ac2 up2 ar2 wk2) ++ (wC aI aJ aL q d n kn rz ac up ar wk)) H := rs_sub hP [0, 9, 10, 11, 12, 13, 14, 15, 16, 1, 2, 3, 4, 5, 6, 7, 8] rfl
  have hD : va_D A ((wS aI aJ aL h a1 a2 (q2 0) (q 0)) ++ (wC aI aJ aL q2 d (n + 1) (rs_kin kn kn2 (rs_sp kn d (60 * k) (n - (d + 1)) + 1) k (n + d + 1)) u_9.1 ac2 up2 ar2 wk2) ++ (wC aI aJ aL q d n kn rz ac up ar wk)) := hD.sub [0, 9, 10, 11, 12, 13, 14, 15, 16, 1, 2, 3, 4, 5, 6, 7, 8] (by decide) rfl
  exact rs_vret u_9 hx hb hr hlk hQ hK hP hD hS rfl dX3_putIn_16

def rm_X3_takeOut : Room := { frames := 4, cells := 0, slots := 0, locals := 330 }
set_option maxHeartbeats 4000000 in
set_option maxRecDepth 100000 in
theorem c_X3_takeOut (l : Launch) (D : va_G) (aI aJ aL : ClassId) (sz : Nat) (h : Nat) (a1 : Nat) (a2 : Nat) (q : Nat → Nat) (d : Nat) (n : Nat) (kn : Nat → Nat) (rz : Nat → Nat → Int64) (ac : Int32) (up : Int32) (ar : Nat → Nat) (wk : Nat → Int64) (q2 : Nat → Nat) (d2 : Nat) (n2 : Nat) (kn2 : Nat → Nat) (rz2 : Nat → Nat → Int64) (ac2 : Int32) (up2 : Int32) (ar2 : Nat → Nat) (wk2 : Nat → Int64) (k : Nat) (hd : d ≤ 3) (hn : n ≤ 19) (hdn : d + 2 ≤ n) (hk : ∀ i, kn i ≤ 6) (hk2 : ∀ i, kn2 i ≤ 6) (hk5 : k ≤ 5) : rs_MI (S := {x : Nat → Nat → Int64 // rs_F (fun b j => rs_coa (rs_kout kn kn2 (rs_sp kn d (60 * k) (n - (d + 1))) (n + d + 1)) d n rz k b j) x (n - 1) 0}) l yX3_takeOut (Cond.code yX3_takeOut prog_1_method_24_code 2 (some .boolean) :: rsW) rm_X3_takeOut D vwCl (rs_tys aI aJ aL) rs_nw [.ref h, .int (nI k)] ((wS aI aJ aL h a1 a2 (q 0) (q2 0)) ++ (wC aI aJ aL q d n kn rz ac up ar wk) ++ (wC aI aJ aL q2 d2 n2 kn2 rz2 ac2 up2 ar2 wk2)) sz (rs_b (decide (rs_okr kn kn2 d n rz k))) (fun uu => if rs_okr kn kn2 d n rz k then wS aI aJ aL h a1 a2 (q2 0) (q 0) ++ wC aI aJ aL q2 d (n - 1) (rs_kout kn kn2 (rs_sp kn d (60 * k) (n - (d + 1))) (n + d + 1)) uu.1 ac2 up2 ar2 wk2 ++ wC aI aJ aL q d n kn rz ac up ar wk else wS aI aJ aL h a1 a2 (q 0) (q2 0) ++ wC aI aJ aL q d n kn rz ac up ar wk ++ wC aI aJ aL q2 d (n - 1) (rs_kout kn kn2 (rs_sp kn d (60 * k) (n - (d + 1))) (n + d + 1)) uu.1 ac2 up2 ar2 wk2) := by
  refine rs_ent (cc := cX3_takeOut) (maxL := 2) (ret := some .boolean) (Qc := rs_QI D vwCl _ _ _) (by decide) rfl (Nat.le_of_ble_eq_true rfl) ?_
  intro p e s m args below meth c ls A Q hx hb hr hml hlk hts hown hin hK hN hP hD hS hA hQ hl
  have hl : lv_has ls 2 [(0, .ref h), (1, .int (nI k))] := hl
  refine lv_aload_n hx hb dX3_takeOut_0 rfl (lv_at hl 0 rfl) ?_
  refine va_get hx hb hts inX3 hown hK hP 0 (ci := 3) (C := RX3) (T := TX3) (N := 4) rfl rfl 2 (by decide) (hts _ rw_122) (fun _ h => h) (v := .ref (q 0)) rfl dX3_takeOut_1 ?_
  refine lv_aload_n hx hb dX3_takeOut_4 rfl (lv_at hl 0 rfl) ?_
  refine va_get hx hb hts inX3 hown hK hP 0 (ci := 3) (C := RX3) (T := TX3) (N := 4) rfl rfl 3 (by decide) (hts _ rw_123) (fun _ h => h) (v := .ref (q2 0)) rfl dX3_takeOut_5 ?_
  refine lv_iload_n hx hb dX3_takeOut_8 rfl (lv_at hl 1 rfl) ?_
  refine rs_cVV (rest := []) (wr := (wS aI aJ aL h a1 a2 (q 0) (q2 0))) (ws' := fun u_9 => (wS aI aJ aL h a1 a2 (q 0) (q2 0)) ++ (wC aI aJ aL q d n kn rz ac up ar wk) ++ (wC aI aJ aL q2 d (n - 1) (rs_kout kn kn2 (rs_sp kn d (60 * k) (n - (d + 1))) (n + d + 1)) u_9.1 ac2 up2 ar2 wk2)) ⟨hx, hb, hml, hown, hts⟩ (c_X1_coarsenInto l D aI aJ aL _ q d n kn rz ac up ar wk q2 d2 n2 kn2 rz2 ac2 up2 ar2 wk2 k hd hn (by omega) hk hk2 hk5) (cwV 2 hts (rs_gV rw_250 rw_251 rw_252 rw_4 rw_253) rfl rfl rfl (by decide +kernel) ⟨Nat.le_of_ble_eq_true rfl, Nat.le_of_ble_eq_true rfl⟩) hK hN hP hD hS hA [1, 2, 3, 4, 5, 6, 7, 8, 9, 10, 11, 12, 13, 14, 15, 16] [0] [0, 1, 2, 3, 4, 5, 6, 7, 8, 9, 10, 11, 12, 13, 14, 15, 16] (by decide) rfl rfl (fun _ => rfl) 1 rfl rfl hl.1 rfl rfl (Nat.le_of_ble_eq_true rfl) dX3_takeOut_9 ⟨Nat.le_refl _, Nat.le_refl _⟩ (fun u_9 H locs hP hD hS => ?_)
  have hP : va_P D vwCl ((wS aI aJ aL h a1 a2 (q 0) (q2 0)) ++ (wC aI aJ aL q d n kn rz ac up ar wk) ++ (wC aI aJ aL q2 d (n - 1) (rs_kout kn kn2 (rs_sp kn d (60 * k) (n - (d + 1))) (n + d + 1)) u_9.1 ac2 up2 ar2 wk2)) H := hP
  have hD : va_D A ((wS aI aJ aL h a1 a2 (q 0) (q2 0)) ++ (wC aI aJ aL q d n kn rz ac up ar wk) ++ (wC aI aJ aL q2 d (n - 1) (rs_kout kn kn2 (rs_sp kn d (60 * k) (n - (d + 1))) (n + d + 1)) u_9.1 ac2 up2 ar2 wk2)) := hD
  refine lv_aload_n hx hb dX3_takeOut_12 rfl (lv_at hl 0 rfl) ?_
  refine va_get hx hb hts inX3 hown hK hP 0 (ci := 3) (C := RX3) (T := TX3) (N := 4) rfl rfl 3 (by decide) (hts _ rw_123) (fun _ h => h) (v := .ref (q2 0)) rfl dX3_takeOut_13 ?_
  refine rs_cVI (rest := []) (wr := (wS aI aJ aL h a1 a2 (q 0) (q2 0)) ++ (wC aI aJ aL q d n kn rz ac up ar wk)) (ws' := fun u_16 => (wS aI aJ aL h a1 a2 (q 0) (q2 0)) ++ (wC aI aJ aL q d n kn rz ac up ar wk) ++ (wC aI aJ aL q2 d (n - 1) (rs_kout kn kn2 (rs_sp kn d (60 * k) (n - (d + 1))) (n + d + 1)) u_9.1 ac2 up2 ar2 wk2)) ⟨hx, hb, hml, hown, hts⟩ (c_X1_weightsArePositive l D aI aJ aL _ q2 d (n - 1) (rs_kout kn kn2 (rs_sp kn d (60 * k) (n - (d + 1))) (n + d + 1)) u_9.1 ac2 up2 ar2 wk2 hd (by omega)) (cwV 0 hts (rs_gV rw_258 rw_259 rw_260 rw_4 rw_261) rfl rfl rfl (by decide +kernel) ⟨Nat.le_of_ble_eq_true rfl, Nat.le_of_ble_eq_true rfl⟩) hK hN hP hD hS hA [9, 10, 11, 12, 13, 14, 15, 16] [0, 1, 2, 3, 4, 5, 6, 7, 8] [0, 1, 2, 3, 4, 5, 6, 7, 8, 9, 10, 11, 12, 13, 14, 15, 16] (by decide) rfl rfl (fun _ => rfl) 9 rfl rfl hl.1 rfl rfl (Nat.le_of_ble_eq_true rfl) dX3_takeOut_16 ⟨Nat.le_refl _, Nat.le_refl _⟩ (fun u_16 H locs hP hD hS => ?_)
  have hP : va_P D vwCl ((wS aI aJ aL h a1 a2 (q 0) (q2 0)) ++ (wC aI aJ aL q d n kn rz ac up ar wk) ++ (wC aI aJ aL q2 d (n - 1) (rs_kout kn kn2 (rs_sp kn d (60 * k) (n - (d + 1))) (n + d + 1)) u_9.1 ac2 up2 ar2 wk2)) H := hP
  have hD : va_D A ((wS aI aJ aL h a1 a2 (q 0) (q2 0)) ++ (wC aI aJ aL q d n kn rz ac up ar wk) ++ (wC aI aJ aL q2 d (n - 1) (rs_kout kn kn2 (rs_sp kn d (60 * k) (n - (d + 1))) (n + d + 1)) u_9.1 ac2 up2 ar2 wk2)) := hD
  refine lv_if_eq hx hb dX3_takeOut_19 (tgt := 37) rfl (fun h_19 => ?_) (fun h_19 => ?_)
  · have h_19 : (decide (∀ k, k < (n - 1) → 0 < u_9.1 2 k)) = false := rs_bz h_19
    refine lv_iconst hx hb dX3_takeOut_37 (v := nI 0) (by decide) ?_
    have hno : ¬ rs_okr kn kn2 d n rz k := by
        intro z
        first
          | exact of_decide_eq_false h_19 ((rs_okr_w u_9.2).1 z.1)
          | exact of_decide_eq_false h_34 ((rs_okr_r u_9.2 (by omega)).1 z.2)
    exact rs_iret u_9 hx hb hr hlk hQ hK hP hD hS (by decide) (rs_bF hno) (if_neg hno).symm dX3_takeOut_38
  · have h_19 : (decide (∀ k, k < (n - 1) → 0 < u_9.1 2 k)) = true := rs_bn h_19
    refine lv_aload_n hx hb dX3_takeOut_22 rfl (lv_at hl 0 rfl) ?_
    refine va_get hx hb hts inX3 hown hK hP 0 (ci := 3) (C := RX3) (T := TX3) (N := 4) rfl rfl 3 (by decide) (hts _ rw_123) (fun _ h => h) (v := .ref (q2 0)) rfl dX3_takeOut_23 ?_
    refine lv_aload_n hx hb dX3_takeOut_26 rfl (lv_at hl 0 rfl) ?_
    refine va_get hx hb hts inX3 hown hK hP 0 (ci := 3) (C := RX3) (T := TX3) (N := 4) rfl rfl 2 (by decide) (hts _ rw_122) (fun _ h => h) (v := .ref (q 0)) rfl dX3_takeOut_27 ?_
    refine lv_iload_n hx hb dX3_takeOut_30 rfl (lv_at hl 1 rfl) ?_
    refine rs_cVI (rest := []) (wr := (wS aI aJ aL h a1 a2 (q 0) (q2 0))) (ws' := fun u_31 => (wS aI aJ aL h a1 a2 (q 0) (q2 0)) ++ (wC aI aJ aL q d n kn rz ac up ar wk) ++ (wC aI aJ aL q2 d (n - 1) (rs_kout kn kn2 (rs_sp kn d (60 * k) (n - (d + 1))) (n + d + 1)) u_9.1 ac2 up2 ar2 wk2)) ⟨hx, hb, hml, hown, hts⟩ (c_X1_refinesTo l D aI aJ aL _ q2 d (n - 1) (rs_kout kn kn2 (rs_sp kn d (60 * k) (n - (d + 1))) (n + d + 1)) u_9.1 ac2 up2 ar2 wk2 q d n kn rz ac up ar wk k hd (by omega) (rs_kout_le hk hk2) hd hn hk5) (cwV 2 hts (rs_gV rw_262 rw_263 rw_264 rw_4 rw_265) rfl rfl rfl (by decide +kernel) ⟨Nat.le_of_ble_eq_true rfl, Nat.le_of_ble_eq_true rfl⟩) hK hN hP hD hS hA [9, 10, 11, 12, 13, 14, 15, 16, 1, 2, 3, 4, 5, 6, 7, 8] [0] [0, 9, 10, 11, 12, 13, 14, 15, 16, 1, 2, 3, 4, 5, 6, 7, 8] (by decide) rfl rfl (fun _ => rfl) 9 rfl rfl hl.1 rfl rfl (Nat.le_of_ble_eq_true rfl) dX3_takeOut_31 ⟨Nat.le_refl _, Nat.le_refl _⟩ (fun u_31 H locs hP hD hS => ?_)
    have hP : va_P D vwCl ((wS aI aJ aL h a1 a2 (q 0) (q2 0)) ++ (wC aI aJ aL q d n kn rz ac up ar wk) ++ (wC aI aJ aL q2 d (n - 1) (rs_kout kn kn2 (rs_sp kn d (60 * k) (n - (d + 1))) (n + d + 1)) u_9.1 ac2 up2 ar2 wk2)) H := hP
    have hD : va_D A ((wS aI aJ aL h a1 a2 (q 0) (q2 0)) ++ (wC aI aJ aL q d n kn rz ac up ar wk) ++ (wC aI aJ aL q2 d (n - 1) (rs_kout kn kn2 (rs_sp kn d (60 * k) (n - (d + 1))) (n + d + 1)) u_9.1 ac2 up2 ar2 wk2)) := hD
    refine lv_if_ne hx hb dX3_takeOut_34 (tgt := 39) rfl (fun h_34 => ?_) (fun h_34 => ?_)
    · have h_34 : (decide (rs_ref (rs_kout kn kn2 (rs_sp kn d (60 * k) (n - (d + 1))) (n + d + 1)) d (n - 1) u_9.1 n rz k)) = true := rs_bn h_34
      refine lv_aload_n hx hb dX3_takeOut_39 rfl (lv_at hl 0 rfl) ?_
      refine rs_cVV (rest := []) (wr := (wC aI aJ aL q d n kn rz ac up ar wk) ++ (wC aI aJ aL q2 d (n - 1) (rs_kout kn kn2 (rs_sp kn d (60 * k) (n - (d + 1))) (n + d + 1)) u_9.1 ac2 up2 ar2 wk2)) (ws' := fun u_40 => (wS aI aJ aL h a1 a2 (q2 0) (q 0)) ++ (wC aI aJ aL q d n kn rz ac up ar wk) ++ (wC aI aJ aL q2 d (n - 1) (rs_kout kn kn2 (rs_sp kn d (60 * k) (n - (d + 1))) (n + d + 1)) u_9.1 ac2 up2 ar2 wk2)) ⟨hx, hb, hml, hown, hts⟩ (c_X3_takeSpare l D aI aJ aL _ h a1 a2 (q 0) (q2 0) ) (cwV 0 hts (rs_gV rw_238 rw_240 rv_4 rw_1 rw_241) rfl rfl rfl (by decide +kernel) ⟨Nat.le_of_ble_eq_true rfl, Nat.le_of_ble_eq_true rfl⟩) hK hN hP hD hS hA [0] [1, 2, 3, 4, 5, 6, 7, 8, 9, 10, 11, 12, 13, 14, 15, 16] [16, 0, 1, 2, 3, 4, 5, 6, 7, 8, 9, 10, 11, 12, 13, 14, 15] (by decide) rfl rfl (fun _ => rfl) 0 rfl rfl hl.1 rfl rfl (Nat.le_of_ble_eq_true rfl) dX3_takeOut_40 ⟨Nat.le_refl _, Nat.le_refl _⟩ (fun u_40 H locs hP hD hS => ?_)
      have hP : va_P D vwCl ((wS aI aJ aL h a1 a2 (q2 0) (q 0)) ++ (wC aI aJ aL q d n kn rz ac up ar wk) ++ (wC aI aJ aL q2 d (n - 1) (rs_kout kn kn2 (rs_sp kn d (60 * k) (n - (d + 1))) (n + d + 1)) u_9.1 ac2 up2 ar2 wk2)) H := hP
      have hD : va_D A ((wS aI aJ aL h a1 a2 (q2 0) (q 0)) ++ (wC aI aJ aL q d n kn rz ac up ar wk) ++ (wC aI aJ aL q2 d (n - 1) (rs_kout kn kn2 (rs_sp kn d (60 * k) (n - (d + 1))) (n + d + 1)) u_9.1 ac2 up2 ar2 wk2)) := hD
      refine lv_iconst hx hb dX3_takeOut_43 (v := nI 1) (by decide) ?_
      have hP : va_P D vwCl ((wS aI aJ aL h a1 a2 (q2 0) (q 0)) ++ (wC aI aJ aL q2 d (n - 1) (rs_kout kn kn2 (rs_sp kn d (60 * k) (n - (d + 1))) (n + d + 1)) u_9.1 ac2 up2 ar2 wk2) ++ (wC aI aJ aL q d n kn rz ac up ar wk)) H := rs_sub hP [0, 9, 10, 11, 12, 13, 14, 15, 16, 1, 2, 3, 4, 5, 6, 7, 8] rfl
      have hD : va_D A ((wS aI aJ aL h a1 a2 (q2 0) (q 0)) ++ (wC aI aJ aL q2 d (n - 1) (rs_kout kn kn2 (rs_sp kn d (60 * k) (n - (d + 1))) (n + d + 1)) u_9.1 ac2 up2 ar2 wk2) ++ (wC aI aJ aL q d n kn rz ac up ar wk)) := hD.sub [0, 9, 10, 11, 12, 13, 14, 15, 16, 1, 2, 3, 4, 5, 6, 7, 8] (by decide) rfl
      have hok : rs_okr kn kn2 d n rz k := ⟨(rs_okr_w u_9.2).2 (of_decide_eq_true h_19), (rs_okr_r u_9.2 (by omega)).2 (of_decide_eq_true h_34)⟩
      exact rs_iret u_9 hx hb hr hlk hQ hK hP hD hS (by decide) (rs_bT hok) (if_pos hok).symm dX3_takeOut_44
    · have h_34 : (decide (rs_ref (rs_kout kn kn2 (rs_sp kn d (60 * k) (n - (d + 1))) (n + d + 1)) d (n - 1) u_9.1 n rz k)) = false := rs_bz h_34
      refine lv_iconst hx hb dX3_takeOut_37 (v := nI 0) (by decide) ?_
      have hno : ¬ rs_okr kn kn2 d n rz k := by
        intro z
        first
          | exact of_decide_eq_false h_19 ((rs_okr_w u_9.2).1 z.1)
          | exact of_decide_eq_false h_34 ((rs_okr_r u_9.2 (by omega)).1 z.2)
      exact rs_iret u_9 hx hb hr hlk hQ hK hP hD hS (by decide) (rs_bF hno) (if_neg hno).symm dX3_takeOut_38

def rm_X3_degree : Room := { frames := 1, cells := 0, slots := 0, locals := 64 }
set_option maxHeartbeats 4000000 in
set_option maxRecDepth 100000 in
theorem c_X3_degree (l : Launch) (D : va_G) (aI aJ aL : ClassId) (sz : Nat) (h : Nat) (qd : Nat → Nat) (dd : Nat) (dc : Nat) (di : Nat) (xs : Nat → Int32) (ys : Nat → Int32) (wt : Nat → Int32) (inn : Nat → Nat) (qc : Nat → Nat) (cs : Nat) (ho : Int32) (tl : Int32) (vt : Nat → Nat) (xa : Nat → Int32) (ya : Nat → Int32) (q : Nat → Nat) (d : Nat) (n : Nat) (kn : Nat → Nat) (rz : Nat → Nat → Int64) (ac : Int32) (up : Int32) (ar : Nat → Nat) (wk : Nat → Int64) (q2 : Nat → Nat) (d2 : Nat) (n2 : Nat) (kn2 : Nat → Nat) (rz2 : Nat → Nat → Int64) (ac2 : Int32) (up2 : Int32) (ar2 : Nat → Nat) (wk2 : Nat → Int64)  : rs_MI (S := Unit) l yX3_degree (Cond.code yX3_degree prog_1_method_12_code 1 (some .int) :: rsW) rm_X3_degree D vwCl (rs_tys aI aJ aL) rs_nw [.ref h] ((wS aI aJ aL h (qd 0) (qc 0) (q 0) (q2 0)) ++ (wDr aI aJ aL qd dd dc di xs ys wt inn) ++ (wCh aI aJ aL qc cs ho tl vt xa ya) ++ (wC aI aJ aL q d n kn rz ac up ar wk) ++ (wC aI aJ aL q2 d2 n2 kn2 rz2 ac2 up2 ar2 wk2)) sz (nI d) (fun uu => (wS aI aJ aL h (qd 0) (qc 0) (q 0) (q2 0)) ++ (wDr aI aJ aL qd dd dc di xs ys wt inn) ++ (wCh aI aJ aL qc cs ho tl vt xa ya) ++ (wC aI aJ aL q d n kn rz ac up ar wk) ++ (wC aI aJ aL q2 d2 n2 kn2 rz2 ac2 up2 ar2 wk2)) := by
  refine rs_ent (cc := cX3_degree) (maxL := 1) (ret := some .int) (Qc := rs_QI D vwCl _ _ _) (by decide) rfl (Nat.le_of_ble_eq_true rfl) ?_
  intro p e s m args below meth c ls A Q hx hb hr hml hlk hts hown hin hK hN hP hD hS hA hQ hl
  have hl : lv_has ls 1 [(0, .ref h)] := hl
  refine lv_aload_n hx hb dX3_degree_0 rfl (lv_at hl 0 rfl) ?_
  refine va_get hx hb hts inX3 hown hK hP 0 (ci := 3) (C := RX3) (T := TX3) (N := 4) rfl rfl 2 (by decide) (hts _ rw_122) (fun _ h => h) (v := .ref (q 0)) rfl dX3_degree_1 ?_
  refine va_getN hx hb hts inX1 hown hK hP 10 (ci := 1) (C := RX1) (T := TX1) (N := 8) rfl rfl 0 (by decide) (hN.bef (w := .fieldLinkNest RX3 70 "RefinedSpline$Curve" "degree" "I" "RefinedSpline") (by decide +kernel) rfl) (fun _ h => h) (v := .int (nI d)) rfl dX3_degree_4 ?_
  exact rs_iret () hx hb hr hlk hQ hK hP hD hS rfl rfl rfl dX3_degree_7

def rm_X3_points : Room := { frames := 1, cells := 0, slots := 0, locals := 64 }
set_option maxHeartbeats 4000000 in
set_option maxRecDepth 100000 in
theorem c_X3_points (l : Launch) (D : va_G) (aI aJ aL : ClassId) (sz : Nat) (h : Nat) (qd : Nat → Nat) (dd : Nat) (dc : Nat) (di : Nat) (xs : Nat → Int32) (ys : Nat → Int32) (wt : Nat → Int32) (inn : Nat → Nat) (qc : Nat → Nat) (cs : Nat) (ho : Int32) (tl : Int32) (vt : Nat → Nat) (xa : Nat → Int32) (ya : Nat → Int32) (q : Nat → Nat) (d : Nat) (n : Nat) (kn : Nat → Nat) (rz : Nat → Nat → Int64) (ac : Int32) (up : Int32) (ar : Nat → Nat) (wk : Nat → Int64) (q2 : Nat → Nat) (d2 : Nat) (n2 : Nat) (kn2 : Nat → Nat) (rz2 : Nat → Nat → Int64) (ac2 : Int32) (up2 : Int32) (ar2 : Nat → Nat) (wk2 : Nat → Int64)  : rs_MI (S := Unit) l yX3_points (Cond.code yX3_points prog_1_method_13_code 1 (some .int) :: rsW) rm_X3_points D vwCl (rs_tys aI aJ aL) rs_nw [.ref h] ((wS aI aJ aL h (qd 0) (qc 0) (q 0) (q2 0)) ++ (wDr aI aJ aL qd dd dc di xs ys wt inn) ++ (wCh aI aJ aL qc cs ho tl vt xa ya) ++ (wC aI aJ aL q d n kn rz ac up ar wk) ++ (wC aI aJ aL q2 d2 n2 kn2 rz2 ac2 up2 ar2 wk2)) sz (nI n) (fun uu => (wS aI aJ aL h (qd 0) (qc 0) (q 0) (q2 0)) ++ (wDr aI aJ aL qd dd dc di xs ys wt inn) ++ (wCh aI aJ aL qc cs ho tl vt xa ya) ++ (wC aI aJ aL q d n kn rz ac up ar wk) ++ (wC aI aJ aL q2 d2 n2 kn2 rz2 ac2 up2 ar2 wk2)) := by
  refine rs_ent (cc := cX3_points) (maxL := 1) (ret := some .int) (Qc := rs_QI D vwCl _ _ _) (by decide) rfl (Nat.le_of_ble_eq_true rfl) ?_
  intro p e s m args below meth c ls A Q hx hb hr hml hlk hts hown hin hK hN hP hD hS hA hQ hl
  have hl : lv_has ls 1 [(0, .ref h)] := hl
  refine lv_aload_n hx hb dX3_points_0 rfl (lv_at hl 0 rfl) ?_
  refine va_get hx hb hts inX3 hown hK hP 0 (ci := 3) (C := RX3) (T := TX3) (N := 4) rfl rfl 2 (by decide) (hts _ rw_122) (fun _ h => h) (v := .ref (q 0)) rfl dX3_points_1 ?_
  refine va_getN hx hb hts inX1 hown hK hP 10 (ci := 1) (C := RX1) (T := TX1) (N := 8) rfl rfl 1 (by decide) (hN.bef (w := .fieldLinkNest RX3 89 "RefinedSpline$Curve" "count" "I" "RefinedSpline") (by decide +kernel) rfl) (fun _ h => h) (v := .int (nI n)) rfl dX3_points_4 ?_
  exact rs_iret () hx hb hr hlk hQ hK hP hD hS rfl rfl rfl dX3_points_7

def rm_X3_knotAt : Room := { frames := 2, cells := 0, slots := 0, locals := 148 }
set_option maxHeartbeats 4000000 in
set_option maxRecDepth 100000 in
theorem c_X3_knotAt (l : Launch) (D : va_G) (aI aJ aL : ClassId) (sz : Nat) (h : Nat) (qd : Nat → Nat) (dd : Nat) (dc : Nat) (di : Nat) (xs : Nat → Int32) (ys : Nat → Int32) (wt : Nat → Int32) (inn : Nat → Nat) (qc : Nat → Nat) (cs : Nat) (ho : Int32) (tl : Int32) (vt : Nat → Nat) (xa : Nat → Int32) (ya : Nat → Int32) (q : Nat → Nat) (d : Nat) (n : Nat) (kn : Nat → Nat) (rz : Nat → Nat → Int64) (ac : Int32) (up : Int32) (ar : Nat → Nat) (wk : Nat → Int64) (q2 : Nat → Nat) (d2 : Nat) (n2 : Nat) (kn2 : Nat → Nat) (rz2 : Nat → Nat → Int64) (ac2 : Int32) (up2 : Int32) (ar2 : Nat → Nat) (wk2 : Nat → Int64) (i : Int32) (hd : d ≤ 3) (hn : n ≤ 19) : rs_MI (S := Unit) l yX3_knotAt (Cond.code yX3_knotAt prog_1_method_14_code 2 (some .int) :: rsW) rm_X3_knotAt D vwCl (rs_tys aI aJ aL) rs_nw [.ref h, .int i] ((wS aI aJ aL h (qd 0) (qc 0) (q 0) (q2 0)) ++ (wDr aI aJ aL qd dd dc di xs ys wt inn) ++ (wCh aI aJ aL qc cs ho tl vt xa ya) ++ (wC aI aJ aL q d n kn rz ac up ar wk) ++ (wC aI aJ aL q2 d2 n2 kn2 rz2 ac2 up2 ar2 wk2)) sz (rs_kat kn d n i) (fun uu => (wS aI aJ aL h (qd 0) (qc 0) (q 0) (q2 0)) ++ (wDr aI aJ aL qd dd dc di xs ys wt inn) ++ (wCh aI aJ aL qc cs ho tl vt xa ya) ++ (wC aI aJ aL q d n kn rz ac up ar wk) ++ (wC aI aJ aL q2 d2 n2 kn2 rz2 ac2 up2 ar2 wk2)) := by
  refine rs_ent (cc := cX3_knotAt) (maxL := 2) (ret := some .int) (Qc := rs_QI D vwCl _ _ _) (by decide) rfl (Nat.le_of_ble_eq_true rfl) ?_
  intro p e s m args below meth c ls A Q hx hb hr hml hlk hts hown hin hK hN hP hD hS hA hQ hl
  have hl : lv_has ls 2 [(0, .ref h), (1, .int i)] := hl
  refine lv_aload_n hx hb dX3_knotAt_0 rfl (lv_at hl 0 rfl) ?_
  refine va_get hx hb hts inX3 hown hK hP 0 (ci := 3) (C := RX3) (T := TX3) (N := 4) rfl rfl 2 (by decide) (hts _ rw_122) (fun _ h => h) (v := .ref (q 0)) rfl dX3_knotAt_1 ?_
  refine rs_cVI (rest := []) (wr := (wS aI aJ aL h (qd 0) (qc 0) (q 0) (q2 0)) ++ (wDr aI aJ aL qd dd dc di xs ys wt inn) ++ (wCh aI aJ aL qc cs ho tl vt xa ya) ++ (wC aI aJ aL q2 d2 n2 kn2 rz2 ac2 up2 ar2 wk2)) (ws' := fun u_4 => (wS aI aJ aL h (qd 0) (qc 0) (q 0) (q2 0)) ++ (wDr aI aJ aL qd dd dc di xs ys wt inn) ++ (wCh aI aJ aL qc cs ho tl vt xa ya) ++ (wC aI aJ aL q d n kn rz ac up ar wk) ++ (wC aI aJ aL q2 d2 n2 kn2 rz2 ac2 up2 ar2 wk2)) ⟨hx, hb, hml, hown, hts⟩ (c_X1_exists l D aI aJ aL _ q d n kn rz ac up ar wk (by omega) (by omega)) (cwV 0 hts (rs_gV rw_192 rw_193 rw_194 rw_4 rw_195) rfl rfl rfl (by decide +kernel) ⟨Nat.le_of_ble_eq_true rfl, Nat.le_of_ble_eq_true rfl⟩) hK hN hP hD hS hA [10, 11, 12, 13, 14, 15, 16, 17] [0, 1, 2, 3, 4, 5, 6, 7, 8, 9, 18, 19, 20, 21, 22, 23, 24, 25] [0, 1, 2, 3, 4, 5, 6, 7, 8, 9, 18, 19, 20, 21, 22, 23, 24, 25, 10, 11, 12, 13, 14, 15, 16, 17] (by decide) rfl rfl (fun _ => rfl) 10 rfl rfl hl.1 rfl rfl (Nat.le_of_ble_eq_true rfl) dX3_knotAt_4 ⟨Nat.le_refl _, Nat.le_refl _⟩ (fun u_4 H locs hP hD hS => ?_)
  have hP : va_P D vwCl ((wS aI aJ aL h (qd 0) (qc 0) (q 0) (q2 0)) ++ (wDr aI aJ aL qd dd dc di xs ys wt inn) ++ (wCh aI aJ aL qc cs ho tl vt xa ya) ++ (wC aI aJ aL q d n kn rz ac up ar wk) ++ (wC aI aJ aL q2 d2 n2 kn2 rz2 ac2 up2 ar2 wk2)) H := hP
  have hD : va_D A ((wS aI aJ aL h (qd 0) (qc 0) (q 0) (q2 0)) ++ (wDr aI aJ aL qd dd dc di xs ys wt inn) ++ (wCh aI aJ aL qc cs ho tl vt xa ya) ++ (wC aI aJ aL q d n kn rz ac up ar wk) ++ (wC aI aJ aL q2 d2 n2 kn2 rz2 ac2 up2 ar2 wk2)) := hD
  refine lv_if_eq hx hb dX3_knotAt_7 (tgt := 25) rfl (fun h_7 => ?_) (fun h_7 => ?_)
  · have h_7 : (decide (0 < d)) = false := rs_bz h_7
    refine lv_iconst hx hb dX3_knotAt_25 (v := (-1)) (by decide) ?_
    exact rs_iret () hx hb hr hlk hQ hK hP hD hS rfl (by first | exact rs_kat_0 (of_decide_eq_false h_7) | exact rs_kat_1 h_11 | exact rs_kat_2 h_22) rfl dX3_knotAt_26
  · have h_7 : (decide (0 < d)) = true := rs_bn h_7
    refine lv_iload_n hx hb dX3_knotAt_10 rfl (lv_at hl 1 rfl) ?_
    refine lv_if_lt hx hb dX3_knotAt_11 (tgt := 25) rfl (fun h_11 => ?_) (fun h_11 => ?_)
    · skip
      refine lv_iconst hx hb dX3_knotAt_25 (v := (-1)) (by decide) ?_
      exact rs_iret () hx hb hr hlk hQ hK hP hD hS rfl (by first | exact rs_kat_0 (of_decide_eq_false h_7) | exact rs_kat_1 h_11 | exact rs_kat_2 h_22) rfl dX3_knotAt_26
    · skip
      refine lv_iload_n hx hb dX3_knotAt_14 rfl (lv_at hl 1 rfl) ?_
      refine lv_aload_n hx hb dX3_knotAt_15 rfl (lv_at hl 0 rfl) ?_
      refine va_get hx hb hts inX3 hown hK hP 0 (ci := 3) (C := RX3) (T := TX3) (N := 4) rfl rfl 2 (by decide) (hts _ rw_122) (fun _ h => h) (v := .ref (q 0)) rfl dX3_knotAt_16 ?_
      refine rs_cVI (rest := [.int i]) (wr := (wS aI aJ aL h (qd 0) (qc 0) (q 0) (q2 0)) ++ (wDr aI aJ aL qd dd dc di xs ys wt inn) ++ (wCh aI aJ aL qc cs ho tl vt xa ya) ++ (wC aI aJ aL q2 d2 n2 kn2 rz2 ac2 up2 ar2 wk2)) (ws' := fun u_19 => (wS aI aJ aL h (qd 0) (qc 0) (q 0) (q2 0)) ++ (wDr aI aJ aL qd dd dc di xs ys wt inn) ++ (wCh aI aJ aL qc cs ho tl vt xa ya) ++ (wC aI aJ aL q d n kn rz ac up ar wk) ++ (wC aI aJ aL q2 d2 n2 kn2 rz2 ac2 up2 ar2 wk2)) ⟨hx, hb, hml, hown, hts⟩ (c_X1_knotCount l D aI aJ aL _ q d n kn rz ac up ar wk (by omega) (by omega)) (cwV 0 hts (rs_gV rw_311 rw_213 rw_214 rw_4 rw_215) rfl rfl rfl (by decide +kernel) ⟨Nat.le_of_ble_eq_true rfl, Nat.le_of_ble_eq_true rfl⟩) hK hN hP hD hS hA [10, 11, 12, 13, 14, 15, 16, 17] [0, 1, 2, 3, 4, 5, 6, 7, 8, 9, 18, 19, 20, 21, 22, 23, 24, 25] [0, 1, 2, 3, 4, 5, 6, 7, 8, 9, 18, 19, 20, 21, 22, 23, 24, 25, 10, 11, 12, 13, 14, 15, 16, 17] (by decide) rfl rfl (fun _ => rfl) 10 rfl rfl hl.1 rfl rfl (Nat.le_of_ble_eq_true rfl) dX3_knotAt_19 ⟨Nat.le_refl _, Nat.le_refl _⟩ (fun u_19 H locs hP hD hS => ?_)
      have hP : va_P D vwCl ((wS aI aJ aL h (qd 0) (qc 0) (q 0) (q2 0)) ++ (wDr aI aJ aL qd dd dc di xs ys wt inn) ++ (wCh aI aJ aL qc cs ho tl vt xa ya) ++ (wC aI aJ aL q d n kn rz ac up ar wk) ++ (wC aI aJ aL q2 d2 n2 kn2 rz2 ac2 up2 ar2 wk2)) H := hP
      have hD : va_D A ((wS aI aJ aL h (qd 0) (qc 0) (q 0) (q2 0)) ++ (wDr aI aJ aL qd dd dc di xs ys wt inn) ++ (wCh aI aJ aL qc cs ho tl vt xa ya) ++ (wC aI aJ aL q d n kn rz ac up ar wk) ++ (wC aI aJ aL q2 d2 n2 kn2 rz2 ac2 up2 ar2 wk2)) := hD
      refine lv_icmp_lt hx hb dX3_knotAt_22 (tgt := 27) rfl (fun h_22 => ?_) (fun h_22 => ?_)
      · skip
        obtain ⟨a, ha, rfl⟩ := nI_of h_11
        have ha2 : a < n + d + 1 := (nI_ltI ha (by omega)).1 h_22
        refine lv_aload_n hx hb dX3_knotAt_27 rfl (lv_at hl 0 rfl) ?_
        refine va_get hx hb hts inX3 hown hK hP 0 (ci := 3) (C := RX3) (T := TX3) (N := 4) rfl rfl 2 (by decide) (hts _ rw_122) (fun _ h => h) (v := .ref (q 0)) rfl dX3_knotAt_28 ?_
        refine va_getN hx hb hts inX1 hown hK hP 10 (ci := 1) (C := RX1) (T := TX1) (N := 8) rfl rfl 2 (by decide) (hN.bef (w := .fieldLinkNest RX3 95 "RefinedSpline$Curve" "knots" "[I" "RefinedSpline") (by decide +kernel) rfl) (fun _ h => h) (v := .ref (q 1)) rfl dX3_knotAt_31 ?_
        refine lv_iload_n hx hb dX3_knotAt_34 rfl (lv_at hl 1 rfl) ?_
        refine rs_iald hx hb hK hP 11 0 rfl rfl (i := a) (by omega) (by decide) (v := nI (kn a)) rfl dX3_knotAt_35 ?_
        exact rs_iret () hx hb hr hlk hQ hK hP hD hS rfl (rs_kat_3 (of_decide_eq_true h_7) ha2 (by omega)) rfl dX3_knotAt_36
      · skip
        refine lv_iconst hx hb dX3_knotAt_25 (v := (-1)) (by decide) ?_
        exact rs_iret () hx hb hr hlk hQ hK hP hD hS rfl (by first | exact rs_kat_0 (of_decide_eq_false h_7) | exact rs_kat_1 h_11 | exact rs_kat_2 h_22) rfl dX3_knotAt_26

def rm_X3_control : Room := { frames := 2, cells := 0, slots := 0, locals := 150 }
set_option maxHeartbeats 4000000 in
set_option maxRecDepth 100000 in
theorem c_X3_control (l : Launch) (D : va_G) (aI aJ aL : ClassId) (sz : Nat) (h : Nat) (qd : Nat → Nat) (dd : Nat) (dc : Nat) (di : Nat) (xs : Nat → Int32) (ys : Nat → Int32) (wt : Nat → Int32) (inn : Nat → Nat) (qc : Nat → Nat) (cs : Nat) (ho : Int32) (tl : Int32) (vt : Nat → Nat) (xa : Nat → Int32) (ya : Nat → Int32) (q : Nat → Nat) (d : Nat) (n : Nat) (kn : Nat → Nat) (rz : Nat → Nat → Int64) (ac : Int32) (up : Int32) (ar : Nat → Nat) (wk : Nat → Int64) (q2 : Nat → Nat) (d2 : Nat) (n2 : Nat) (kn2 : Nat → Nat) (rz2 : Nat → Nat → Int64) (ac2 : Int32) (up2 : Int32) (ar2 : Nat → Nat) (wk2 : Nat → Int64) (i : Int32) (ax : Nat) (hd : d ≤ 3) (hn : n ≤ 19) (hax : ax < 3) : rs_ML (S := Unit) l yX3_control (Cond.code yX3_control prog_1_method_15_code 3 (some .long) :: rsW) rm_X3_control D vwCl (rs_tys aI aJ aL) rs_nw [.ref h, .int i, .int (nI ax)] ((wS aI aJ aL h (qd 0) (qc 0) (q 0) (q2 0)) ++ (wDr aI aJ aL qd dd dc di xs ys wt inn) ++ (wCh aI aJ aL qc cs ho tl vt xa ya) ++ (wC aI aJ aL q d n kn rz ac up ar wk) ++ (wC aI aJ aL q2 d2 n2 kn2 rz2 ac2 up2 ar2 wk2)) sz (rs_num rz n ax i) (fun uu => (wS aI aJ aL h (qd 0) (qc 0) (q 0) (q2 0)) ++ (wDr aI aJ aL qd dd dc di xs ys wt inn) ++ (wCh aI aJ aL qc cs ho tl vt xa ya) ++ (wC aI aJ aL q d n kn rz ac up ar wk) ++ (wC aI aJ aL q2 d2 n2 kn2 rz2 ac2 up2 ar2 wk2)) := by
  refine rs_ent (cc := cX3_control) (maxL := 3) (ret := some .long) (Qc := rs_QL D vwCl _ _ _) (by decide) rfl (Nat.le_of_ble_eq_true rfl) ?_
  intro p e s m args below meth c ls A Q hx hb hr hml hlk hts hown hin hK hN hP hD hS hA hQ hl
  have hl : lv_has ls 3 [(0, .ref h), (1, .int i), (2, .int (nI ax))] := hl
  refine lv_iload_n hx hb dX3_control_0 rfl (lv_at hl 2 rfl) ?_
  refine lv_if_lt hx hb dX3_control_1 (tgt := 9) rfl (fun h_1 => absurd h_1 (nI_pos (by omega))) (fun _ => ?_)
  refine lv_iload_n hx hb dX3_control_4 rfl (lv_at hl 2 rfl) ?_
  refine lv_iconst hx hb dX3_control_5 (v := nI 3) (by decide) ?_
  refine lv_icmp_lt hx hb dX3_control_6 (tgt := 11) rfl (fun h_6 => ?_) (fun h_6 => ?_)
  · have h_6 : ax < 3 := (nI_ltI (by omega) (by omega)).1 h_6
    refine lv_aload_n hx hb dX3_control_11 rfl (lv_at hl 0 rfl) ?_
    refine va_get hx hb hts inX3 hown hK hP 0 (ci := 3) (C := RX3) (T := TX3) (N := 4) rfl rfl 2 (by decide) (hts _ rw_122) (fun _ h => h) (v := .ref (q 0)) rfl dX3_control_12 ?_
    refine lv_iload_n hx hb dX3_control_15 rfl (lv_at hl 2 rfl) ?_
    refine lv_iload_n hx hb dX3_control_16 rfl (lv_at hl 1 rfl) ?_
    refine rs_cVL (rest := []) (wr := (wS aI aJ aL h (qd 0) (qc 0) (q 0) (q2 0)) ++ (wDr aI aJ aL qd dd dc di xs ys wt inn) ++ (wCh aI aJ aL qc cs ho tl vt xa ya) ++ (wC aI aJ aL q2 d2 n2 kn2 rz2 ac2 up2 ar2 wk2)) (ws' := fun u_17 => (wS aI aJ aL h (qd 0) (qc 0) (q 0) (q2 0)) ++ (wDr aI aJ aL qd dd dc di xs ys wt inn) ++ (wCh aI aJ aL qc cs ho tl vt xa ya) ++ (wC aI aJ aL q d n kn rz ac up ar wk) ++ (wC aI aJ aL q2 d2 n2 kn2 rz2 ac2 up2 ar2 wk2)) ⟨hx, hb, hml, hown, hts⟩ (c_X1_number l D aI aJ aL _ q d n kn rz ac up ar wk ax i hd hn hax) (cwV 2 hts (rs_gV rw_316 rw_232 rw_233 rw_4 rw_234) rfl rfl rfl (by decide +kernel) ⟨Nat.le_of_ble_eq_true rfl, Nat.le_of_ble_eq_true rfl⟩) hK hN hP hD hS hA [10, 11, 12, 13, 14, 15, 16, 17] [0, 1, 2, 3, 4, 5, 6, 7, 8, 9, 18, 19, 20, 21, 22, 23, 24, 25] [0, 1, 2, 3, 4, 5, 6, 7, 8, 9, 18, 19, 20, 21, 22, 23, 24, 25, 10, 11, 12, 13, 14, 15, 16, 17] (by decide) rfl rfl (fun _ => rfl) 10 rfl rfl hl.1 rfl rfl (Nat.le_of_ble_eq_true rfl) dX3_control_17 ⟨Nat.le_refl _, Nat.le_refl _⟩ (fun u_17 H locs hP hD hS => ?_)
    have hP : va_P D vwCl ((wS aI aJ aL h (qd 0) (qc 0) (q 0) (q2 0)) ++ (wDr aI aJ aL qd dd dc di xs ys wt inn) ++ (wCh aI aJ aL qc cs ho tl vt xa ya) ++ (wC aI aJ aL q d n kn rz ac up ar wk) ++ (wC aI aJ aL q2 d2 n2 kn2 rz2 ac2 up2 ar2 wk2)) H := hP
    have hD : va_D A ((wS aI aJ aL h (qd 0) (qc 0) (q 0) (q2 0)) ++ (wDr aI aJ aL qd dd dc di xs ys wt inn) ++ (wCh aI aJ aL qc cs ho tl vt xa ya) ++ (wC aI aJ aL q d n kn rz ac up ar wk) ++ (wC aI aJ aL q2 d2 n2 kn2 rz2 ac2 up2 ar2 wk2)) := hD
    exact rs_lret () hx hb hr hlk hQ hK hP hD hS rfl rfl dX3_control_20
  · have h_6 : 3 ≤ ax := Nat.le_of_not_lt (fun z => h_6 ((nI_ltI (by omega) (by omega)).2 z))
    omega

def rm_X3_controlF : Room := { frames := 2, cells := 0, slots := 0, locals := 150 }
set_option maxHeartbeats 4000000 in
set_option maxRecDepth 100000 in
theorem c_X3_controlF (l : Launch) (D : va_G) (aI aJ aL : ClassId) (sz : Nat) (h : Nat) (qd : Nat → Nat) (dd : Nat) (dc : Nat) (di : Nat) (xs : Nat → Int32) (ys : Nat → Int32) (wt : Nat → Int32) (inn : Nat → Nat) (qc : Nat → Nat) (cs : Nat) (ho : Int32) (tl : Int32) (vt : Nat → Nat) (xa : Nat → Int32) (ya : Nat → Int32) (q : Nat → Nat) (d : Nat) (n : Nat) (kn : Nat → Nat) (rz : Nat → Nat → Int64) (ac : Int32) (up : Int32) (ar : Nat → Nat) (wk : Nat → Int64) (q2 : Nat → Nat) (d2 : Nat) (n2 : Nat) (kn2 : Nat → Nat) (rz2 : Nat → Nat → Int64) (ac2 : Int32) (up2 : Int32) (ar2 : Nat → Nat) (wk2 : Nat → Int64) (i : Int32) (ax : Int32) (hd : d ≤ 3) (hn : n ≤ 19) (hax : ax < 0 ∨ nI 3 ≤ ax) : rs_ML (S := Unit) l yX3_control (Cond.code yX3_control prog_1_method_15_code 3 (some .long) :: rsW) rm_X3_controlF D vwCl (rs_tys aI aJ aL) rs_nw [.ref h, .int i, .int ax] ((wS aI aJ aL h (qd 0) (qc 0) (q 0) (q2 0)) ++ (wDr aI aJ aL qd dd dc di xs ys wt inn) ++ (wCh aI aJ aL qc cs ho tl vt xa ya) ++ (wC aI aJ aL q d n kn rz ac up ar wk) ++ (wC aI aJ aL q2 d2 n2 kn2 rz2 ac2 up2 ar2 wk2)) sz (0) (fun uu => (wS aI aJ aL h (qd 0) (qc 0) (q 0) (q2 0)) ++ (wDr aI aJ aL qd dd dc di xs ys wt inn) ++ (wCh aI aJ aL qc cs ho tl vt xa ya) ++ (wC aI aJ aL q d n kn rz ac up ar wk) ++ (wC aI aJ aL q2 d2 n2 kn2 rz2 ac2 up2 ar2 wk2)) := by
  refine rs_ent (cc := cX3_control) (maxL := 3) (ret := some .long) (Qc := rs_QL D vwCl _ _ _) (by decide) rfl (Nat.le_of_ble_eq_true rfl) ?_
  intro p e s m args below meth c ls A Q hx hb hr hml hlk hts hown hin hK hN hP hD hS hA hQ hl
  have hl : lv_has ls 3 [(0, .ref h), (1, .int i), (2, .int ax)] := hl
  refine lv_iload_n hx hb dX3_control_0 rfl (lv_at hl 2 rfl) ?_
  refine lv_if_lt hx hb dX3_control_1 (tgt := 9) rfl (fun h_1 => ?_) (fun h_1 => ?_)
  · skip
    refine lv_lconst hx hb dX3_control_9 (v := 0) (by decide) ?_
    exact rs_lret () hx hb hr hlk hQ hK hP hD hS rfl rfl dX3_control_10
  · skip
    refine lv_iload_n hx hb dX3_control_4 rfl (lv_at hl 2 rfl) ?_
    refine lv_iconst hx hb dX3_control_5 (v := nI 3) (by decide) ?_
    refine lv_icmp_lt hx hb dX3_control_6 (tgt := 11) rfl (fun h_6 => ?_) (fun h_6 => ?_)
    · skip
      exact absurd hax (fun z => z.elim h_1 (fun z2 => Int32.not_le.mpr h_6 z2))
    · skip
      refine lv_lconst hx hb dX3_control_9 (v := 0) (by decide) ?_
      exact rs_lret () hx hb hr hlk hQ hK hP hD hS rfl rfl dX3_control_10

def rm_X3_span : Room := { frames := 2, cells := 0, slots := 0, locals := 151 }
set_option maxHeartbeats 4000000 in
set_option maxRecDepth 100000 in
theorem c_X3_span (l : Launch) (D : va_G) (aI aJ aL : ClassId) (sz : Nat) (h : Nat) (qd : Nat → Nat) (dd : Nat) (dc : Nat) (di : Nat) (xs : Nat → Int32) (ys : Nat → Int32) (wt : Nat → Int32) (inn : Nat → Nat) (qc : Nat → Nat) (cs : Nat) (ho : Int32) (tl : Int32) (vt : Nat → Nat) (xa : Nat → Int32) (ya : Nat → Int32) (q : Nat → Nat) (d : Nat) (n : Nat) (kn : Nat → Nat) (rz : Nat → Nat → Int64) (ac : Int32) (up : Int32) (ar : Nat → Nat) (wk : Nat → Int64) (q2 : Nat → Nat) (d2 : Nat) (n2 : Nat) (kn2 : Nat → Nat) (rz2 : Nat → Nat → Int64) (ac2 : Int32) (up2 : Int32) (ar2 : Nat → Nat) (wk2 : Nat → Int64) (u : Nat) (hd : d ≤ 3) (hn : n ≤ 19) (hk : ∀ i, kn i ≤ 6) (hd0 : 0 < d) (hu : u ≤ 360) : rs_MI (S := Unit) l yX3_span (Cond.code yX3_span prog_1_method_16_code 2 (some .int) :: rsW) rm_X3_span D vwCl (rs_tys aI aJ aL) rs_nw [.ref h, .int (nI u)] ((wS aI aJ aL h (qd 0) (qc 0) (q 0) (q2 0)) ++ (wDr aI aJ aL qd dd dc di xs ys wt inn) ++ (wCh aI aJ aL qc cs ho tl vt xa ya) ++ (wC aI aJ aL q d n kn rz ac up ar wk) ++ (wC aI aJ aL q2 d2 n2 kn2 rz2 ac2 up2 ar2 wk2)) sz (nI (rs_sp kn d u (n - (d + 1)))) (fun uu => (wS aI aJ aL h (qd 0) (qc 0) (q 0) (q2 0)) ++ (wDr aI aJ aL qd dd dc di xs ys wt inn) ++ (wCh aI aJ aL qc cs ho tl vt xa ya) ++ (wC aI aJ aL q d n kn rz ac up ar wk) ++ (wC aI aJ aL q2 d2 n2 kn2 rz2 ac2 up2 ar2 wk2)) := by
  refine rs_ent (cc := cX3_span) (maxL := 2) (ret := some .int) (Qc := rs_QI D vwCl _ _ _) (by decide) rfl (Nat.le_of_ble_eq_true rfl) ?_
  intro p e s m args below meth c ls A Q hx hb hr hml hlk hts hown hin hK hN hP hD hS hA hQ hl
  have hl : lv_has ls 2 [(0, .ref h), (1, .int (nI u))] := hl
  refine lv_aload_n hx hb dX3_span_0 rfl (lv_at hl 0 rfl) ?_
  refine va_get hx hb hts inX3 hown hK hP 0 (ci := 3) (C := RX3) (T := TX3) (N := 4) rfl rfl 2 (by decide) (hts _ rw_122) (fun _ h => h) (v := .ref (q 0)) rfl dX3_span_1 ?_
  refine rs_cVI (rest := []) (wr := (wS aI aJ aL h (qd 0) (qc 0) (q 0) (q2 0)) ++ (wDr aI aJ aL qd dd dc di xs ys wt inn) ++ (wCh aI aJ aL qc cs ho tl vt xa ya) ++ (wC aI aJ aL q2 d2 n2 kn2 rz2 ac2 up2 ar2 wk2)) (ws' := fun u_4 => (wS aI aJ aL h (qd 0) (qc 0) (q 0) (q2 0)) ++ (wDr aI aJ aL qd dd dc di xs ys wt inn) ++ (wCh aI aJ aL qc cs ho tl vt xa ya) ++ (wC aI aJ aL q d n kn rz ac up ar wk) ++ (wC aI aJ aL q2 d2 n2 kn2 rz2 ac2 up2 ar2 wk2)) ⟨hx, hb, hml, hown, hts⟩ (c_X1_exists l D aI aJ aL _ q d n kn rz ac up ar wk (by omega) (by omega)) (cwV 0 hts (rs_gV rw_192 rw_193 rw_194 rw_4 rw_195) rfl rfl rfl (by decide +kernel) ⟨Nat.le_of_ble_eq_true rfl, Nat.le_of_ble_eq_true rfl⟩) hK hN hP hD hS hA [10, 11, 12, 13, 14, 15, 16, 17] [0, 1, 2, 3, 4, 5, 6, 7, 8, 9, 18, 19, 20, 21, 22, 23, 24, 25] [0, 1, 2, 3, 4, 5, 6, 7, 8, 9, 18, 19, 20, 21, 22, 23, 24, 25, 10, 11, 12, 13, 14, 15, 16, 17] (by decide) rfl rfl (fun _ => rfl) 10 rfl rfl hl.1 rfl rfl (Nat.le_of_ble_eq_true rfl) dX3_span_4 ⟨Nat.le_refl _, Nat.le_refl _⟩ (fun u_4 H locs hP hD hS => ?_)
  have hP : va_P D vwCl ((wS aI aJ aL h (qd 0) (qc 0) (q 0) (q2 0)) ++ (wDr aI aJ aL qd dd dc di xs ys wt inn) ++ (wCh aI aJ aL qc cs ho tl vt xa ya) ++ (wC aI aJ aL q d n kn rz ac up ar wk) ++ (wC aI aJ aL q2 d2 n2 kn2 rz2 ac2 up2 ar2 wk2)) H := hP
  have hD : va_D A ((wS aI aJ aL h (qd 0) (qc 0) (q 0) (q2 0)) ++ (wDr aI aJ aL qd dd dc di xs ys wt inn) ++ (wCh aI aJ aL qc cs ho tl vt xa ya) ++ (wC aI aJ aL q d n kn rz ac up ar wk) ++ (wC aI aJ aL q2 d2 n2 kn2 rz2 ac2 up2 ar2 wk2)) := hD
  refine lv_if_eq hx hb dX3_span_7 (tgt := 17) rfl (fun h_7 => ?_) (fun h_7 => ?_)
  · have h_7 : (decide (0 < d)) = false := rs_bz h_7
    exact absurd hd0 (of_decide_eq_false h_7)
  · have h_7 : (decide (0 < d)) = true := rs_bn h_7
    refine lv_iload_n hx hb dX3_span_10 rfl (lv_at hl 1 rfl) ?_
    refine rs_cSI (rest := []) (wr := (wS aI aJ aL h (qd 0) (qc 0) (q 0) (q2 0)) ++ (wDr aI aJ aL qd dd dc di xs ys wt inn) ++ (wCh aI aJ aL qc cs ho tl vt xa ya) ++ (wC aI aJ aL q d n kn rz ac up ar wk) ++ (wC aI aJ aL q2 d2 n2 kn2 rz2 ac2 up2 ar2 wk2)) (ws' := fun u_11 => (wS aI aJ aL h (qd 0) (qc 0) (q 0) (q2 0)) ++ (wDr aI aJ aL qd dd dc di xs ys wt inn) ++ (wCh aI aJ aL qc cs ho tl vt xa ya) ++ (wC aI aJ aL q d n kn rz ac up ar wk) ++ (wC aI aJ aL q2 d2 n2 kn2 rz2 ac2 up2 ar2 wk2)) ⟨hx, hb, hml, hown, hts⟩ (c_X3_isParameter l D aI aJ aL _ (nI u) ) (cwS 1 hts (rs_gS rw_321 rw_322 rw_1 rw_323) rfl rfl rfl (by decide +kernel) ⟨Nat.le_of_ble_eq_true rfl, Nat.le_of_ble_eq_true rfl⟩) hK hN hP hD hS hA [] [0, 1, 2, 3, 4, 5, 6, 7, 8, 9, 10, 11, 12, 13, 14, 15, 16, 17, 18, 19, 20, 21, 22, 23, 24, 25] [0, 1, 2, 3, 4, 5, 6, 7, 8, 9, 10, 11, 12, 13, 14, 15, 16, 17, 18, 19, 20, 21, 22, 23, 24, 25] (by decide) rfl rfl (fun _ => rfl) hl.1 rfl rfl (Nat.le_of_ble_eq_true rfl) dX3_span_11 ⟨Nat.le_refl _, Nat.le_refl _⟩ (fun u_11 H locs hP hD hS => ?_)
    have hP : va_P D vwCl ((wS aI aJ aL h (qd 0) (qc 0) (q 0) (q2 0)) ++ (wDr aI aJ aL qd dd dc di xs ys wt inn) ++ (wCh aI aJ aL qc cs ho tl vt xa ya) ++ (wC aI aJ aL q d n kn rz ac up ar wk) ++ (wC aI aJ aL q2 d2 n2 kn2 rz2 ac2 up2 ar2 wk2)) H := hP
    have hD : va_D A ((wS aI aJ aL h (qd 0) (qc 0) (q 0) (q2 0)) ++ (wDr aI aJ aL qd dd dc di xs ys wt inn) ++ (wCh aI aJ aL qc cs ho tl vt xa ya) ++ (wC aI aJ aL q d n kn rz ac up ar wk) ++ (wC aI aJ aL q2 d2 n2 kn2 rz2 ac2 up2 ar2 wk2)) := hD
    refine lv_if_ne hx hb dX3_span_14 (tgt := 19) rfl (fun h_14 => ?_) (fun h_14 => ?_)
    · have h_14 : (decide (¬ (nI u) < 0 ∧ ¬ nI 360 < (nI u))) = true := rs_bn h_14
      refine lv_aload_n hx hb dX3_span_19 rfl (lv_at hl 0 rfl) ?_
      refine va_get hx hb hts inX3 hown hK hP 0 (ci := 3) (C := RX3) (T := TX3) (N := 4) rfl rfl 2 (by decide) (hts _ rw_122) (fun _ h => h) (v := .ref (q 0)) rfl dX3_span_20 ?_
      refine lv_iload_n hx hb dX3_span_23 rfl (lv_at hl 1 rfl) ?_
      refine rs_cVI (rest := []) (wr := (wS aI aJ aL h (qd 0) (qc 0) (q 0) (q2 0)) ++ (wDr aI aJ aL qd dd dc di xs ys wt inn) ++ (wCh aI aJ aL qc cs ho tl vt xa ya) ++ (wC aI aJ aL q2 d2 n2 kn2 rz2 ac2 up2 ar2 wk2)) (ws' := fun u_24 => (wS aI aJ aL h (qd 0) (qc 0) (q 0) (q2 0)) ++ (wDr aI aJ aL qd dd dc di xs ys wt inn) ++ (wCh aI aJ aL qc cs ho tl vt xa ya) ++ (wC aI aJ aL q d n kn rz ac up ar wk) ++ (wC aI aJ aL q2 d2 n2 kn2 rz2 ac2 up2 ar2 wk2)) ⟨hx, hb, hml, hown, hts⟩ (c_X1_spanOf l D aI aJ aL _ q d n kn rz ac up ar wk u hd hn hk (by omega)) (cwV 1 hts (rs_gV rw_324 rw_206 rw_207 rw_4 rw_208) rfl rfl rfl (by decide +kernel) ⟨Nat.le_of_ble_eq_true rfl, Nat.le_of_ble_eq_true rfl⟩) hK hN hP hD hS hA [10, 11, 12, 13, 14, 15, 16, 17] [0, 1, 2, 3, 4, 5, 6, 7, 8, 9, 18, 19, 20, 21, 22, 23, 24, 25] [0, 1, 2, 3, 4, 5, 6, 7, 8, 9, 18, 19, 20, 21, 22, 23, 24, 25, 10, 11, 12, 13, 14, 15, 16, 17] (by decide) rfl rfl (fun _ => rfl) 10 rfl rfl hl.1 rfl rfl (Nat.le_of_ble_eq_true rfl) dX3_span_24 ⟨Nat.le_refl _, Nat.le_refl _⟩ (fun u_24 H locs hP hD hS => ?_)
      have hP : va_P D vwCl ((wS aI aJ aL h (qd 0) (qc 0) (q 0) (q2 0)) ++ (wDr aI aJ aL qd dd dc di xs ys wt inn) ++ (wCh aI aJ aL qc cs ho tl vt xa ya) ++ (wC aI aJ aL q d n kn rz ac up ar wk) ++ (wC aI aJ aL q2 d2 n2 kn2 rz2 ac2 up2 ar2 wk2)) H := hP
      have hD : va_D A ((wS aI aJ aL h (qd 0) (qc 0) (q 0) (q2 0)) ++ (wDr aI aJ aL qd dd dc di xs ys wt inn) ++ (wCh aI aJ aL qc cs ho tl vt xa ya) ++ (wC aI aJ aL q d n kn rz ac up ar wk) ++ (wC aI aJ aL q2 d2 n2 kn2 rz2 ac2 up2 ar2 wk2)) := hD
      exact rs_iret () hx hb hr hlk hQ hK hP hD hS rfl rfl rfl dX3_span_27
    · have h_14 : (decide (¬ (nI u) < 0 ∧ ¬ nI 360 < (nI u))) = false := rs_bz h_14
      exact absurd h_14 (by rw [rs_parT hu]; decide)

def rm_X3_spanF : Room := { frames := 2, cells := 0, slots := 0, locals := 151 }
set_option maxHeartbeats 4000000 in
set_option maxRecDepth 100000 in
theorem c_X3_spanF (l : Launch) (D : va_G) (aI aJ aL : ClassId) (sz : Nat) (h : Nat) (qd : Nat → Nat) (dd : Nat) (dc : Nat) (di : Nat) (xs : Nat → Int32) (ys : Nat → Int32) (wt : Nat → Int32) (inn : Nat → Nat) (qc : Nat → Nat) (cs : Nat) (ho : Int32) (tl : Int32) (vt : Nat → Nat) (xa : Nat → Int32) (ya : Nat → Int32) (q : Nat → Nat) (d : Nat) (n : Nat) (kn : Nat → Nat) (rz : Nat → Nat → Int64) (ac : Int32) (up : Int32) (ar : Nat → Nat) (wk : Nat → Int64) (q2 : Nat → Nat) (d2 : Nat) (n2 : Nat) (kn2 : Nat → Nat) (rz2 : Nat → Nat → Int64) (ac2 : Int32) (up2 : Int32) (ar2 : Nat → Nat) (wk2 : Nat → Int64) (u : Int32) (hd : d ≤ 3) (hn : n ≤ 19) (hF : ¬ (0 < d ∧ (¬ u < 0 ∧ ¬ nI 360 < u))) : rs_MI (S := Unit) l yX3_span (Cond.code yX3_span prog_1_method_16_code 2 (some .int) :: rsW) rm_X3_spanF D vwCl (rs_tys aI aJ aL) rs_nw [.ref h, .int u] ((wS aI aJ aL h (qd 0) (qc 0) (q 0) (q2 0)) ++ (wDr aI aJ aL qd dd dc di xs ys wt inn) ++ (wCh aI aJ aL qc cs ho tl vt xa ya) ++ (wC aI aJ aL q d n kn rz ac up ar wk) ++ (wC aI aJ aL q2 d2 n2 kn2 rz2 ac2 up2 ar2 wk2)) sz ((-1)) (fun uu => (wS aI aJ aL h (qd 0) (qc 0) (q 0) (q2 0)) ++ (wDr aI aJ aL qd dd dc di xs ys wt inn) ++ (wCh aI aJ aL qc cs ho tl vt xa ya) ++ (wC aI aJ aL q d n kn rz ac up ar wk) ++ (wC aI aJ aL q2 d2 n2 kn2 rz2 ac2 up2 ar2 wk2)) := by
  refine rs_ent (cc := cX3_span) (maxL := 2) (ret := some .int) (Qc := rs_QI D vwCl _ _ _) (by decide) rfl (Nat.le_of_ble_eq_true rfl) ?_
  intro p e s m args below meth c ls A Q hx hb hr hml hlk hts hown hin hK hN hP hD hS hA hQ hl
  have hl : lv_has ls 2 [(0, .ref h), (1, .int u)] := hl
  refine lv_aload_n hx hb dX3_span_0 rfl (lv_at hl 0 rfl) ?_
  refine va_get hx hb hts inX3 hown hK hP 0 (ci := 3) (C := RX3) (T := TX3) (N := 4) rfl rfl 2 (by decide) (hts _ rw_122) (fun _ h => h) (v := .ref (q 0)) rfl dX3_span_1 ?_
  refine rs_cVI (rest := []) (wr := (wS aI aJ aL h (qd 0) (qc 0) (q 0) (q2 0)) ++ (wDr aI aJ aL qd dd dc di xs ys wt inn) ++ (wCh aI aJ aL qc cs ho tl vt xa ya) ++ (wC aI aJ aL q2 d2 n2 kn2 rz2 ac2 up2 ar2 wk2)) (ws' := fun u_4 => (wS aI aJ aL h (qd 0) (qc 0) (q 0) (q2 0)) ++ (wDr aI aJ aL qd dd dc di xs ys wt inn) ++ (wCh aI aJ aL qc cs ho tl vt xa ya) ++ (wC aI aJ aL q d n kn rz ac up ar wk) ++ (wC aI aJ aL q2 d2 n2 kn2 rz2 ac2 up2 ar2 wk2)) ⟨hx, hb, hml, hown, hts⟩ (c_X1_exists l D aI aJ aL _ q d n kn rz ac up ar wk (by omega) (by omega)) (cwV 0 hts (rs_gV rw_192 rw_193 rw_194 rw_4 rw_195) rfl rfl rfl (by decide +kernel) ⟨Nat.le_of_ble_eq_true rfl, Nat.le_of_ble_eq_true rfl⟩) hK hN hP hD hS hA [10, 11, 12, 13, 14, 15, 16, 17] [0, 1, 2, 3, 4, 5, 6, 7, 8, 9, 18, 19, 20, 21, 22, 23, 24, 25] [0, 1, 2, 3, 4, 5, 6, 7, 8, 9, 18, 19, 20, 21, 22, 23, 24, 25, 10, 11, 12, 13, 14, 15, 16, 17] (by decide) rfl rfl (fun _ => rfl) 10 rfl rfl hl.1 rfl rfl (Nat.le_of_ble_eq_true rfl) dX3_span_4 ⟨Nat.le_refl _, Nat.le_refl _⟩ (fun u_4 H locs hP hD hS => ?_)
  have hP : va_P D vwCl ((wS aI aJ aL h (qd 0) (qc 0) (q 0) (q2 0)) ++ (wDr aI aJ aL qd dd dc di xs ys wt inn) ++ (wCh aI aJ aL qc cs ho tl vt xa ya) ++ (wC aI aJ aL q d n kn rz ac up ar wk) ++ (wC aI aJ aL q2 d2 n2 kn2 rz2 ac2 up2 ar2 wk2)) H := hP
  have hD : va_D A ((wS aI aJ aL h (qd 0) (qc 0) (q 0) (q2 0)) ++ (wDr aI aJ aL qd dd dc di xs ys wt inn) ++ (wCh aI aJ aL qc cs ho tl vt xa ya) ++ (wC aI aJ aL q d n kn rz ac up ar wk) ++ (wC aI aJ aL q2 d2 n2 kn2 rz2 ac2 up2 ar2 wk2)) := hD
  refine lv_if_eq hx hb dX3_span_7 (tgt := 17) rfl (fun h_7 => ?_) (fun h_7 => ?_)
  · have h_7 : (decide (0 < d)) = false := rs_bz h_7
    refine lv_iconst hx hb dX3_span_17 (v := (-1)) (by decide) ?_
    exact rs_iret () hx hb hr hlk hQ hK hP hD hS rfl rfl rfl dX3_span_18
  · have h_7 : (decide (0 < d)) = true := rs_bn h_7
    refine lv_iload_n hx hb dX3_span_10 rfl (lv_at hl 1 rfl) ?_
    refine rs_cSI (rest := []) (wr := (wS aI aJ aL h (qd 0) (qc 0) (q 0) (q2 0)) ++ (wDr aI aJ aL qd dd dc di xs ys wt inn) ++ (wCh aI aJ aL qc cs ho tl vt xa ya) ++ (wC aI aJ aL q d n kn rz ac up ar wk) ++ (wC aI aJ aL q2 d2 n2 kn2 rz2 ac2 up2 ar2 wk2)) (ws' := fun u_11 => (wS aI aJ aL h (qd 0) (qc 0) (q 0) (q2 0)) ++ (wDr aI aJ aL qd dd dc di xs ys wt inn) ++ (wCh aI aJ aL qc cs ho tl vt xa ya) ++ (wC aI aJ aL q d n kn rz ac up ar wk) ++ (wC aI aJ aL q2 d2 n2 kn2 rz2 ac2 up2 ar2 wk2)) ⟨hx, hb, hml, hown, hts⟩ (c_X3_isParameter l D aI aJ aL _ u ) (cwS 1 hts (rs_gS rw_321 rw_322 rw_1 rw_323) rfl rfl rfl (by decide +kernel) ⟨Nat.le_of_ble_eq_true rfl, Nat.le_of_ble_eq_true rfl⟩) hK hN hP hD hS hA [] [0, 1, 2, 3, 4, 5, 6, 7, 8, 9, 10, 11, 12, 13, 14, 15, 16, 17, 18, 19, 20, 21, 22, 23, 24, 25] [0, 1, 2, 3, 4, 5, 6, 7, 8, 9, 10, 11, 12, 13, 14, 15, 16, 17, 18, 19, 20, 21, 22, 23, 24, 25] (by decide) rfl rfl (fun _ => rfl) hl.1 rfl rfl (Nat.le_of_ble_eq_true rfl) dX3_span_11 ⟨Nat.le_refl _, Nat.le_refl _⟩ (fun u_11 H locs hP hD hS => ?_)
    have hP : va_P D vwCl ((wS aI aJ aL h (qd 0) (qc 0) (q 0) (q2 0)) ++ (wDr aI aJ aL qd dd dc di xs ys wt inn) ++ (wCh aI aJ aL qc cs ho tl vt xa ya) ++ (wC aI aJ aL q d n kn rz ac up ar wk) ++ (wC aI aJ aL q2 d2 n2 kn2 rz2 ac2 up2 ar2 wk2)) H := hP
    have hD : va_D A ((wS aI aJ aL h (qd 0) (qc 0) (q 0) (q2 0)) ++ (wDr aI aJ aL qd dd dc di xs ys wt inn) ++ (wCh aI aJ aL qc cs ho tl vt xa ya) ++ (wC aI aJ aL q d n kn rz ac up ar wk) ++ (wC aI aJ aL q2 d2 n2 kn2 rz2 ac2 up2 ar2 wk2)) := hD
    refine lv_if_ne hx hb dX3_span_14 (tgt := 19) rfl (fun h_14 => ?_) (fun h_14 => ?_)
    · have h_14 : (decide (¬ u < 0 ∧ ¬ nI 360 < u)) = true := rs_bn h_14
      exact absurd ⟨of_decide_eq_true h_7, of_decide_eq_true h_14⟩ hF
    · have h_14 : (decide (¬ u < 0 ∧ ¬ nI 360 < u)) = false := rs_bz h_14
      refine lv_iconst hx hb dX3_span_17 (v := (-1)) (by decide) ?_
      exact rs_iret () hx hb hr hlk hQ hK hP hD hS rfl rfl rfl dX3_span_18

def rm_X3_basis : Room := { frames := 3, cells := 0, slots := 0, locals := 242 }
set_option maxHeartbeats 4000000 in
set_option maxRecDepth 100000 in
theorem c_X3_basis (l : Launch) (D : va_G) (aI aJ aL : ClassId) (sz : Nat) (h : Nat) (qd : Nat → Nat) (dd : Nat) (dc : Nat) (di : Nat) (xs : Nat → Int32) (ys : Nat → Int32) (wt : Nat → Int32) (inn : Nat → Nat) (qc : Nat → Nat) (cs : Nat) (ho : Int32) (tl : Int32) (vt : Nat → Nat) (xa : Nat → Int32) (ya : Nat → Int32) (q : Nat → Nat) (d : Nat) (n : Nat) (kn : Nat → Nat) (rz : Nat → Nat → Int64) (ac : Int32) (up : Int32) (ar : Nat → Nat) (wk : Nat → Int64) (q2 : Nat → Nat) (d2 : Nat) (n2 : Nat) (kn2 : Nat → Nat) (rz2 : Nat → Nat → Int64) (ac2 : Int32) (up2 : Int32) (ar2 : Nat → Nat) (wk2 : Nat → Int64) (i : Nat) (u : Nat) (hd : d ≤ 3) (hn : n ≤ 19) (hk : ∀ i, kn i ≤ 6) (hd0 : 0 < d) (hu : u ≤ 360) (hi : i < n) : rs_ML (S := Nat → Int64) l yX3_basis (Cond.code yX3_basis prog_1_method_17_code 3 (some .long) :: rsW) rm_X3_basis D vwCl (rs_tys aI aJ aL) rs_nw [.ref h, .int (nI i), .int (nI u)] ((wS aI aJ aL h (qd 0) (qc 0) (q 0) (q2 0)) ++ (wDr aI aJ aL qd dd dc di xs ys wt inn) ++ (wCh aI aJ aL qc cs ho tl vt xa ya) ++ (wC aI aJ aL q d n kn rz ac up ar wk) ++ (wC aI aJ aL q2 d2 n2 kn2 rz2 ac2 up2 ar2 wk2)) sz (rs_p60 (rs_bs kn d i u (rs_sp kn d u (n - (d + 1))) d 0) (3 - d)) (fun uu => (wS aI aJ aL h (qd 0) (qc 0) (q 0) (q2 0)) ++ (wDr aI aJ aL qd dd dc di xs ys wt inn) ++ (wCh aI aJ aL qc cs ho tl vt xa ya) ++ (wC aI aJ aL q d n kn rz ac up ar uu) ++ (wC aI aJ aL q2 d2 n2 kn2 rz2 ac2 up2 ar2 wk2)) := by
  refine rs_ent (cc := cX3_basis) (maxL := 3) (ret := some .long) (Qc := rs_QL D vwCl _ _ _) (by decide) rfl (Nat.le_of_ble_eq_true rfl) ?_
  intro p e s m args below meth c ls A Q hx hb hr hml hlk hts hown hin hK hN hP hD hS hA hQ hl
  have hl : lv_has ls 3 [(0, .ref h), (1, .int (nI i)), (2, .int (nI u))] := hl
  refine lv_aload_n hx hb dX3_basis_0 rfl (lv_at hl 0 rfl) ?_
  refine va_get hx hb hts inX3 hown hK hP 0 (ci := 3) (C := RX3) (T := TX3) (N := 4) rfl rfl 2 (by decide) (hts _ rw_122) (fun _ h => h) (v := .ref (q 0)) rfl dX3_basis_1 ?_
  refine rs_cVI (rest := []) (wr := (wS aI aJ aL h (qd 0) (qc 0) (q 0) (q2 0)) ++ (wDr aI aJ aL qd dd dc di xs ys wt inn) ++ (wCh aI aJ aL qc cs ho tl vt xa ya) ++ (wC aI aJ aL q2 d2 n2 kn2 rz2 ac2 up2 ar2 wk2)) (ws' := fun u_4 => (wS aI aJ aL h (qd 0) (qc 0) (q 0) (q2 0)) ++ (wDr aI aJ aL qd dd dc di xs ys wt inn) ++ (wCh aI aJ aL qc cs ho tl vt xa ya) ++ (wC aI aJ aL q d n kn rz ac up ar wk) ++ (wC aI aJ aL q2 d2 n2 kn2 rz2 ac2 up2 ar2 wk2)) ⟨hx, hb, hml, hown, hts⟩ (c_X1_exists l D aI aJ aL _ q d n kn rz ac up ar wk (by omega) (by omega)) (cwV 0 hts (rs_gV rw_192 rw_193 rw_194 rw_4 rw_195) rfl rfl rfl (by decide +kernel) ⟨Nat.le_of_ble_eq_true rfl, Nat.le_of_ble_eq_true rfl⟩) hK hN hP hD hS hA [10, 11, 12, 13, 14, 15, 16, 17] [0, 1, 2, 3, 4, 5, 6, 7, 8, 9, 18, 19, 20, 21, 22, 23, 24, 25] [0, 1, 2, 3, 4, 5, 6, 7, 8, 9, 18, 19, 20, 21, 22, 23, 24, 25, 10, 11, 12, 13, 14, 15, 16, 17] (by decide) rfl rfl (fun _ => rfl) 10 rfl rfl hl.1 rfl rfl (Nat.le_of_ble_eq_true rfl) dX3_basis_4 ⟨Nat.le_refl _, Nat.le_refl _⟩ (fun u_4 H locs hP hD hS => ?_)
  have hP : va_P D vwCl ((wS aI aJ aL h (qd 0) (qc 0) (q 0) (q2 0)) ++ (wDr aI aJ aL qd dd dc di xs ys wt inn) ++ (wCh aI aJ aL qc cs ho tl vt xa ya) ++ (wC aI aJ aL q d n kn rz ac up ar wk) ++ (wC aI aJ aL q2 d2 n2 kn2 rz2 ac2 up2 ar2 wk2)) H := hP
  have hD : va_D A ((wS aI aJ aL h (qd 0) (qc 0) (q 0) (q2 0)) ++ (wDr aI aJ aL qd dd dc di xs ys wt inn) ++ (wCh aI aJ aL qc cs ho tl vt xa ya) ++ (wC aI aJ aL q d n kn rz ac up ar wk) ++ (wC aI aJ aL q2 d2 n2 kn2 rz2 ac2 up2 ar2 wk2)) := hD
  refine lv_if_eq hx hb dX3_basis_7 (tgt := 32) rfl (fun h_7 => ?_) (fun h_7 => ?_)
  · have h_7 : (decide (0 < d)) = false := rs_bz h_7
    exact absurd hd0 (of_decide_eq_false h_7)
  · have h_7 : (decide (0 < d)) = true := rs_bn h_7
    refine lv_iload_n hx hb dX3_basis_10 rfl (lv_at hl 2 rfl) ?_
    refine rs_cSI (rest := []) (wr := (wS aI aJ aL h (qd 0) (qc 0) (q 0) (q2 0)) ++ (wDr aI aJ aL qd dd dc di xs ys wt inn) ++ (wCh aI aJ aL qc cs ho tl vt xa ya) ++ (wC aI aJ aL q d n kn rz ac up ar wk) ++ (wC aI aJ aL q2 d2 n2 kn2 rz2 ac2 up2 ar2 wk2)) (ws' := fun u_11 => (wS aI aJ aL h (qd 0) (qc 0) (q 0) (q2 0)) ++ (wDr aI aJ aL qd dd dc di xs ys wt inn) ++ (wCh aI aJ aL qc cs ho tl vt xa ya) ++ (wC aI aJ aL q d n kn rz ac up ar wk) ++ (wC aI aJ aL q2 d2 n2 kn2 rz2 ac2 up2 ar2 wk2)) ⟨hx, hb, hml, hown, hts⟩ (c_X3_isParameter l D aI aJ aL _ (nI u) ) (cwS 1 hts (rs_gS rw_321 rw_322 rw_1 rw_323) rfl rfl rfl (by decide +kernel) ⟨Nat.le_of_ble_eq_true rfl, Nat.le_of_ble_eq_true rfl⟩) hK hN hP hD hS hA [] [0, 1, 2, 3, 4, 5, 6, 7, 8, 9, 10, 11, 12, 13, 14, 15, 16, 17, 18, 19, 20, 21, 22, 23, 24, 25] [0, 1, 2, 3, 4, 5, 6, 7, 8, 9, 10, 11, 12, 13, 14, 15, 16, 17, 18, 19, 20, 21, 22, 23, 24, 25] (by decide) rfl rfl (fun _ => rfl) hl.1 rfl rfl (Nat.le_of_ble_eq_true rfl) dX3_basis_11 ⟨Nat.le_refl _, Nat.le_refl _⟩ (fun u_11 H locs hP hD hS => ?_)
    have hP : va_P D vwCl ((wS aI aJ aL h (qd 0) (qc 0) (q 0) (q2 0)) ++ (wDr aI aJ aL qd dd dc di xs ys wt inn) ++ (wCh aI aJ aL qc cs ho tl vt xa ya) ++ (wC aI aJ aL q d n kn rz ac up ar wk) ++ (wC aI aJ aL q2 d2 n2 kn2 rz2 ac2 up2 ar2 wk2)) H := hP
    have hD : va_D A ((wS aI aJ aL h (qd 0) (qc 0) (q 0) (q2 0)) ++ (wDr aI aJ aL qd dd dc di xs ys wt inn) ++ (wCh aI aJ aL qc cs ho tl vt xa ya) ++ (wC aI aJ aL q d n kn rz ac up ar wk) ++ (wC aI aJ aL q2 d2 n2 kn2 rz2 ac2 up2 ar2 wk2)) := hD
    refine lv_if_eq hx hb dX3_basis_14 (tgt := 32) rfl (fun h_14 => ?_) (fun h_14 => ?_)
    · have h_14 : (decide (¬ (nI u) < 0 ∧ ¬ nI 360 < (nI u))) = false := rs_bz h_14
      exact absurd h_14 (by rw [rs_parT hu]; decide)
    · have h_14 : (decide (¬ (nI u) < 0 ∧ ¬ nI 360 < (nI u))) = true := rs_bn h_14
      refine lv_iload_n hx hb dX3_basis_17 rfl (lv_at hl 1 rfl) ?_
      refine lv_if_lt hx hb dX3_basis_18 (tgt := 32) rfl (fun h_18 => absurd h_18 (nI_pos (by omega))) (fun _ => ?_)
      refine lv_iload_n hx hb dX3_basis_21 rfl (lv_at hl 1 rfl) ?_
      refine lv_aload_n hx hb dX3_basis_22 rfl (lv_at hl 0 rfl) ?_
      refine va_get hx hb hts inX3 hown hK hP 0 (ci := 3) (C := RX3) (T := TX3) (N := 4) rfl rfl 2 (by decide) (hts _ rw_122) (fun _ h => h) (v := .ref (q 0)) rfl dX3_basis_23 ?_
      refine va_getN hx hb hts inX1 hown hK hP 10 (ci := 1) (C := RX1) (T := TX1) (N := 8) rfl rfl 1 (by decide) (hN.bef (w := .fieldLinkNest RX3 89 "RefinedSpline$Curve" "count" "I" "RefinedSpline") (by decide +kernel) rfl) (fun _ h => h) (v := .int (nI n)) rfl dX3_basis_26 ?_
      refine lv_icmp_lt hx hb dX3_basis_29 (tgt := 36) rfl (fun h_29 => ?_) (fun h_29 => ?_)
      · have h_29 : i < n := (nI_ltI (by omega) (by omega)).1 h_29
        refine lv_aload_n hx hb dX3_basis_36 rfl (lv_at hl 0 rfl) ?_
        refine va_get hx hb hts inX3 hown hK hP 0 (ci := 3) (C := RX3) (T := TX3) (N := 4) rfl rfl 2 (by decide) (hts _ rw_122) (fun _ h => h) (v := .ref (q 0)) rfl dX3_basis_37 ?_
        refine lv_iload_n hx hb dX3_basis_40 rfl (lv_at hl 1 rfl) ?_
        refine lv_iload_n hx hb dX3_basis_41 rfl (lv_at hl 2 rfl) ?_
        refine rs_cVL (rest := []) (wr := (wS aI aJ aL h (qd 0) (qc 0) (q 0) (q2 0)) ++ (wDr aI aJ aL qd dd dc di xs ys wt inn) ++ (wCh aI aJ aL qc cs ho tl vt xa ya) ++ (wC aI aJ aL q2 d2 n2 kn2 rz2 ac2 up2 ar2 wk2)) (ws' := fun u_42 => (wS aI aJ aL h (qd 0) (qc 0) (q 0) (q2 0)) ++ (wDr aI aJ aL qd dd dc di xs ys wt inn) ++ (wCh aI aJ aL qc cs ho tl vt xa ya) ++ (wC aI aJ aL q d n kn rz ac up ar u_42) ++ (wC aI aJ aL q2 d2 n2 kn2 rz2 ac2 up2 ar2 wk2)) ⟨hx, hb, hml, hown, hts⟩ (c_X1_basisOf l D aI aJ aL _ q d n kn rz ac up ar wk i u hd hn hk (by omega) (by omega)) (cwV 2 hts (rs_gV rw_330 rw_331 rw_332 rw_4 rw_333) rfl rfl rfl (by decide +kernel) ⟨Nat.le_of_ble_eq_true rfl, Nat.le_of_ble_eq_true rfl⟩) hK hN hP hD hS hA [10, 11, 12, 13, 14, 15, 16, 17] [0, 1, 2, 3, 4, 5, 6, 7, 8, 9, 18, 19, 20, 21, 22, 23, 24, 25] [0, 1, 2, 3, 4, 5, 6, 7, 8, 9, 18, 19, 20, 21, 22, 23, 24, 25, 10, 11, 12, 13, 14, 15, 16, 17] (by decide) rfl rfl (fun _ => rfl) 10 rfl rfl hl.1 rfl rfl (Nat.le_of_ble_eq_true rfl) dX3_basis_42 ⟨Nat.le_refl _, Nat.le_refl _⟩ (fun u_42 H locs hP hD hS => ?_)
        have hP : va_P D vwCl ((wS aI aJ aL h (qd 0) (qc 0) (q 0) (q2 0)) ++ (wDr aI aJ aL qd dd dc di xs ys wt inn) ++ (wCh aI aJ aL qc cs ho tl vt xa ya) ++ (wC aI aJ aL q d n kn rz ac up ar u_42) ++ (wC aI aJ aL q2 d2 n2 kn2 rz2 ac2 up2 ar2 wk2)) H := hP
        have hD : va_D A ((wS aI aJ aL h (qd 0) (qc 0) (q 0) (q2 0)) ++ (wDr aI aJ aL qd dd dc di xs ys wt inn) ++ (wCh aI aJ aL qc cs ho tl vt xa ya) ++ (wC aI aJ aL q d n kn rz ac up ar u_42) ++ (wC aI aJ aL q2 d2 n2 kn2 rz2 ac2 up2 ar2 wk2)) := hD
        exact rs_lret u_42 hx hb hr hlk hQ hK hP hD hS rfl rfl dX3_basis_45
      · have h_29 : n ≤ i := Nat.le_of_not_lt (fun z => h_29 ((nI_ltI (by omega) (by omega)).2 z))
        omega

def rm_X3_basisF : Room := { frames := 3, cells := 0, slots := 0, locals := 242 }
set_option maxHeartbeats 4000000 in
set_option maxRecDepth 100000 in
theorem c_X3_basisF (l : Launch) (D : va_G) (aI aJ aL : ClassId) (sz : Nat) (h : Nat) (qd : Nat → Nat) (dd : Nat) (dc : Nat) (di : Nat) (xs : Nat → Int32) (ys : Nat → Int32) (wt : Nat → Int32) (inn : Nat → Nat) (qc : Nat → Nat) (cs : Nat) (ho : Int32) (tl : Int32) (vt : Nat → Nat) (xa : Nat → Int32) (ya : Nat → Int32) (q : Nat → Nat) (d : Nat) (n : Nat) (kn : Nat → Nat) (rz : Nat → Nat → Int64) (ac : Int32) (up : Int32) (ar : Nat → Nat) (wk : Nat → Int64) (q2 : Nat → Nat) (d2 : Nat) (n2 : Nat) (kn2 : Nat → Nat) (rz2 : Nat → Nat → Int64) (ac2 : Int32) (up2 : Int32) (ar2 : Nat → Nat) (wk2 : Nat → Int64) (i : Int32) (u : Int32) (hd : d ≤ 3) (hn : n ≤ 19) (hF : ¬ (0 < d ∧ (¬ u < 0 ∧ ¬ nI 360 < u) ∧ ¬ i < 0 ∧ i < nI n)) : rs_ML (S := Unit) l yX3_basis (Cond.code yX3_basis prog_1_method_17_code 3 (some .long) :: rsW) rm_X3_basisF D vwCl (rs_tys aI aJ aL) rs_nw [.ref h, .int i, .int u] ((wS aI aJ aL h (qd 0) (qc 0) (q 0) (q2 0)) ++ (wDr aI aJ aL qd dd dc di xs ys wt inn) ++ (wCh aI aJ aL qc cs ho tl vt xa ya) ++ (wC aI aJ aL q d n kn rz ac up ar wk) ++ (wC aI aJ aL q2 d2 n2 kn2 rz2 ac2 up2 ar2 wk2)) sz ((-1)) (fun uu => (wS aI aJ aL h (qd 0) (qc 0) (q 0) (q2 0)) ++ (wDr aI aJ aL qd dd dc di xs ys wt inn) ++ (wCh aI aJ aL qc cs ho tl vt xa ya) ++ (wC aI aJ aL q d n kn rz ac up ar wk) ++ (wC aI aJ aL q2 d2 n2 kn2 rz2 ac2 up2 ar2 wk2)) := by
  refine rs_ent (cc := cX3_basis) (maxL := 3) (ret := some .long) (Qc := rs_QL D vwCl _ _ _) (by decide) rfl (Nat.le_of_ble_eq_true rfl) ?_
  intro p e s m args below meth c ls A Q hx hb hr hml hlk hts hown hin hK hN hP hD hS hA hQ hl
  have hl : lv_has ls 3 [(0, .ref h), (1, .int i), (2, .int u)] := hl
  refine lv_aload_n hx hb dX3_basis_0 rfl (lv_at hl 0 rfl) ?_
  refine va_get hx hb hts inX3 hown hK hP 0 (ci := 3) (C := RX3) (T := TX3) (N := 4) rfl rfl 2 (by decide) (hts _ rw_122) (fun _ h => h) (v := .ref (q 0)) rfl dX3_basis_1 ?_
  refine rs_cVI (rest := []) (wr := (wS aI aJ aL h (qd 0) (qc 0) (q 0) (q2 0)) ++ (wDr aI aJ aL qd dd dc di xs ys wt inn) ++ (wCh aI aJ aL qc cs ho tl vt xa ya) ++ (wC aI aJ aL q2 d2 n2 kn2 rz2 ac2 up2 ar2 wk2)) (ws' := fun u_4 => (wS aI aJ aL h (qd 0) (qc 0) (q 0) (q2 0)) ++ (wDr aI aJ aL qd dd dc di xs ys wt inn) ++ (wCh aI aJ aL qc cs ho tl vt xa ya) ++ (wC aI aJ aL q d n kn rz ac up ar wk) ++ (wC aI aJ aL q2 d2 n2 kn2 rz2 ac2 up2 ar2 wk2)) ⟨hx, hb, hml, hown, hts⟩ (c_X1_exists l D aI aJ aL _ q d n kn rz ac up ar wk (by omega) (by omega)) (cwV 0 hts (rs_gV rw_192 rw_193 rw_194 rw_4 rw_195) rfl rfl rfl (by decide +kernel) ⟨Nat.le_of_ble_eq_true rfl, Nat.le_of_ble_eq_true rfl⟩) hK hN hP hD hS hA [10, 11, 12, 13, 14, 15, 16, 17] [0, 1, 2, 3, 4, 5, 6, 7, 8, 9, 18, 19, 20, 21, 22, 23, 24, 25] [0, 1, 2, 3, 4, 5, 6, 7, 8, 9, 18, 19, 20, 21, 22, 23, 24, 25, 10, 11, 12, 13, 14, 15, 16, 17] (by decide) rfl rfl (fun _ => rfl) 10 rfl rfl hl.1 rfl rfl (Nat.le_of_ble_eq_true rfl) dX3_basis_4 ⟨Nat.le_refl _, Nat.le_refl _⟩ (fun u_4 H locs hP hD hS => ?_)
  have hP : va_P D vwCl ((wS aI aJ aL h (qd 0) (qc 0) (q 0) (q2 0)) ++ (wDr aI aJ aL qd dd dc di xs ys wt inn) ++ (wCh aI aJ aL qc cs ho tl vt xa ya) ++ (wC aI aJ aL q d n kn rz ac up ar wk) ++ (wC aI aJ aL q2 d2 n2 kn2 rz2 ac2 up2 ar2 wk2)) H := hP
  have hD : va_D A ((wS aI aJ aL h (qd 0) (qc 0) (q 0) (q2 0)) ++ (wDr aI aJ aL qd dd dc di xs ys wt inn) ++ (wCh aI aJ aL qc cs ho tl vt xa ya) ++ (wC aI aJ aL q d n kn rz ac up ar wk) ++ (wC aI aJ aL q2 d2 n2 kn2 rz2 ac2 up2 ar2 wk2)) := hD
  refine lv_if_eq hx hb dX3_basis_7 (tgt := 32) rfl (fun h_7 => ?_) (fun h_7 => ?_)
  · have h_7 : (decide (0 < d)) = false := rs_bz h_7
    refine lv_ldc2 hx hb hown (hts _ rw_329) dX3_basis_32 ?_
    exact rs_lret () hx hb hr hlk hQ hK hP hD hS rfl rfl dX3_basis_35
  · have h_7 : (decide (0 < d)) = true := rs_bn h_7
    refine lv_iload_n hx hb dX3_basis_10 rfl (lv_at hl 2 rfl) ?_
    refine rs_cSI (rest := []) (wr := (wS aI aJ aL h (qd 0) (qc 0) (q 0) (q2 0)) ++ (wDr aI aJ aL qd dd dc di xs ys wt inn) ++ (wCh aI aJ aL qc cs ho tl vt xa ya) ++ (wC aI aJ aL q d n kn rz ac up ar wk) ++ (wC aI aJ aL q2 d2 n2 kn2 rz2 ac2 up2 ar2 wk2)) (ws' := fun u_11 => (wS aI aJ aL h (qd 0) (qc 0) (q 0) (q2 0)) ++ (wDr aI aJ aL qd dd dc di xs ys wt inn) ++ (wCh aI aJ aL qc cs ho tl vt xa ya) ++ (wC aI aJ aL q d n kn rz ac up ar wk) ++ (wC aI aJ aL q2 d2 n2 kn2 rz2 ac2 up2 ar2 wk2)) ⟨hx, hb, hml, hown, hts⟩ (c_X3_isParameter l D aI aJ aL _ u ) (cwS 1 hts (rs_gS rw_321 rw_322 rw_1 rw_323) rfl rfl rfl (by decide +kernel) ⟨Nat.le_of_ble_eq_true rfl, Nat.le_of_ble_eq_true rfl⟩) hK hN hP hD hS hA [] [0, 1, 2, 3, 4, 5, 6, 7, 8, 9, 10, 11, 12, 13, 14, 15, 16, 17, 18, 19, 20, 21, 22, 23, 24, 25] [0, 1, 2, 3, 4, 5, 6, 7, 8, 9, 10, 11, 12, 13, 14, 15, 16, 17, 18, 19, 20, 21, 22, 23, 24, 25] (by decide) rfl rfl (fun _ => rfl) hl.1 rfl rfl (Nat.le_of_ble_eq_true rfl) dX3_basis_11 ⟨Nat.le_refl _, Nat.le_refl _⟩ (fun u_11 H locs hP hD hS => ?_)
    have hP : va_P D vwCl ((wS aI aJ aL h (qd 0) (qc 0) (q 0) (q2 0)) ++ (wDr aI aJ aL qd dd dc di xs ys wt inn) ++ (wCh aI aJ aL qc cs ho tl vt xa ya) ++ (wC aI aJ aL q d n kn rz ac up ar wk) ++ (wC aI aJ aL q2 d2 n2 kn2 rz2 ac2 up2 ar2 wk2)) H := hP
    have hD : va_D A ((wS aI aJ aL h (qd 0) (qc 0) (q 0) (q2 0)) ++ (wDr aI aJ aL qd dd dc di xs ys wt inn) ++ (wCh aI aJ aL qc cs ho tl vt xa ya) ++ (wC aI aJ aL q d n kn rz ac up ar wk) ++ (wC aI aJ aL q2 d2 n2 kn2 rz2 ac2 up2 ar2 wk2)) := hD
    refine lv_if_eq hx hb dX3_basis_14 (tgt := 32) rfl (fun h_14 => ?_) (fun h_14 => ?_)
    · have h_14 : (decide (¬ u < 0 ∧ ¬ nI 360 < u)) = false := rs_bz h_14
      refine lv_ldc2 hx hb hown (hts _ rw_329) dX3_basis_32 ?_
      exact rs_lret () hx hb hr hlk hQ hK hP hD hS rfl rfl dX3_basis_35
    · have h_14 : (decide (¬ u < 0 ∧ ¬ nI 360 < u)) = true := rs_bn h_14
      refine lv_iload_n hx hb dX3_basis_17 rfl (lv_at hl 1 rfl) ?_
      refine lv_if_lt hx hb dX3_basis_18 (tgt := 32) rfl (fun h_18 => ?_) (fun h_18 => ?_)
      · skip
        refine lv_ldc2 hx hb hown (hts _ rw_329) dX3_basis_32 ?_
        exact rs_lret () hx hb hr hlk hQ hK hP hD hS rfl rfl dX3_basis_35
      · skip
        refine lv_iload_n hx hb dX3_basis_21 rfl (lv_at hl 1 rfl) ?_
        refine lv_aload_n hx hb dX3_basis_22 rfl (lv_at hl 0 rfl) ?_
        refine va_get hx hb hts inX3 hown hK hP 0 (ci := 3) (C := RX3) (T := TX3) (N := 4) rfl rfl 2 (by decide) (hts _ rw_122) (fun _ h => h) (v := .ref (q 0)) rfl dX3_basis_23 ?_
        refine va_getN hx hb hts inX1 hown hK hP 10 (ci := 1) (C := RX1) (T := TX1) (N := 8) rfl rfl 1 (by decide) (hN.bef (w := .fieldLinkNest RX3 89 "RefinedSpline$Curve" "count" "I" "RefinedSpline") (by decide +kernel) rfl) (fun _ h => h) (v := .int (nI n)) rfl dX3_basis_26 ?_
        refine lv_icmp_lt hx hb dX3_basis_29 (tgt := 36) rfl (fun h_29 => ?_) (fun h_29 => ?_)
        · skip
          exact absurd ⟨of_decide_eq_true h_7, of_decide_eq_true h_14, h_18, h_29⟩ hF
        · skip
          refine lv_ldc2 hx hb hown (hts _ rw_329) dX3_basis_32 ?_
          exact rs_lret () hx hb hr hlk hQ hK hP hD hS rfl rfl dX3_basis_35

def rm_X3_locate : Room := { frames := 4, cells := 0, slots := 0, locals := 330 }
set_option maxHeartbeats 4000000 in
set_option maxRecDepth 100000 in
theorem c_X3_locate (l : Launch) (D : va_G) (aI aJ aL : ClassId) (sz : Nat) (h : Nat) (qd : Nat → Nat) (dd : Nat) (dc : Nat) (di : Nat) (xs : Nat → Int32) (ys : Nat → Int32) (wt : Nat → Int32) (inn : Nat → Nat) (qc : Nat → Nat) (cs : Nat) (ho : Int32) (tl : Int32) (vt : Nat → Nat) (xa : Nat → Int32) (ya : Nat → Int32) (q : Nat → Nat) (d : Nat) (n : Nat) (kn : Nat → Nat) (rz : Nat → Nat → Int64) (ac : Int32) (up : Int32) (ar : Nat → Nat) (wk : Nat → Int64) (q2 : Nat → Nat) (d2 : Nat) (n2 : Nat) (kn2 : Nat → Nat) (rz2 : Nat → Nat → Int64) (ac2 : Int32) (up2 : Int32) (ar2 : Nat → Nat) (wk2 : Nat → Int64) (u : Nat) (ax : Nat) (hd : d ≤ 3) (hn : n ≤ 19) (hk : ∀ i, kn i ≤ 6) (hd0 : 0 < d) (hdn : d + 1 ≤ n) (hu : u ≤ 360) (hax : ax ≤ 1) : rs_MI (S := (Nat → Nat) × (Nat → Int64)) l yX3_locate (Cond.code yX3_locate prog_1_method_18_code 3 (some .int) :: rsW) rm_X3_locate D vwCl (rs_tys aI aJ aL) rs_nw [.ref h, .int (nI u), .int (nI ax)] ((wS aI aJ aL h (qd 0) (qc 0) (q 0) (q2 0)) ++ (wDr aI aJ aL qd dd dc di xs ys wt inn) ++ (wCh aI aJ aL qc cs ho tl vt xa ya) ++ (wC aI aJ aL q d n kn rz ac up ar wk) ++ (wC aI aJ aL q2 d2 n2 kn2 rz2 ac2 up2 ar2 wk2)) sz (rs_th (rs_bl kn d n rz (fun _ => u) ax (rs_sp kn d u (n - (d + 1))) d d) (rs_bl kn d n rz (fun _ => u) 2 (rs_sp kn d u (n - (d + 1))) d d)) (fun uu => (wS aI aJ aL h (qd 0) (qc 0) (q 0) (q2 0)) ++ (wDr aI aJ aL qd dd dc di xs ys wt inn) ++ (wCh aI aJ aL qc cs ho tl vt xa ya) ++ (wC aI aJ aL q d n kn rz (rs_th (rs_bl kn d n rz (fun _ => u) 0 (rs_sp kn d u (n - (d + 1))) d d) (rs_bl kn d n rz (fun _ => u) 2 (rs_sp kn d u (n - (d + 1))) d d)) (rs_th (rs_bl kn d n rz (fun _ => u) 1 (rs_sp kn d u (n - (d + 1))) d d) (rs_bl kn d n rz (fun _ => u) 2 (rs_sp kn d u (n - (d + 1))) d d)) uu.1 uu.2) ++ (wC aI aJ aL q2 d2 n2 kn2 rz2 ac2 up2 ar2 wk2)) := by
  refine rs_ent (cc := cX3_locate) (maxL := 3) (ret := some .int) (Qc := rs_QI D vwCl _ _ _) (by decide) rfl (Nat.le_of_ble_eq_true rfl) ?_
  intro p e s m args below meth c ls A Q hx hb hr hml hlk hts hown hin hK hN hP hD hS hA hQ hl
  have hl : lv_has ls 3 [(0, .ref h), (1, .int (nI u)), (2, .int (nI ax))] := hl
  refine lv_aload_n hx hb dX3_locate_0 rfl (lv_at hl 0 rfl) ?_
  refine va_get hx hb hts inX3 hown hK hP 0 (ci := 3) (C := RX3) (T := TX3) (N := 4) rfl rfl 2 (by decide) (hts _ rw_122) (fun _ h => h) (v := .ref (q 0)) rfl dX3_locate_1 ?_
  refine rs_cVI (rest := []) (wr := (wS aI aJ aL h (qd 0) (qc 0) (q 0) (q2 0)) ++ (wDr aI aJ aL qd dd dc di xs ys wt inn) ++ (wCh aI aJ aL qc cs ho tl vt xa ya) ++ (wC aI aJ aL q2 d2 n2 kn2 rz2 ac2 up2 ar2 wk2)) (ws' := fun u_4 => (wS aI aJ aL h (qd 0) (qc 0) (q 0) (q2 0)) ++ (wDr aI aJ aL qd dd dc di xs ys wt inn) ++ (wCh aI aJ aL qc cs ho tl vt xa ya) ++ (wC aI aJ aL q d n kn rz ac up ar wk) ++ (wC aI aJ aL q2 d2 n2 kn2 rz2 ac2 up2 ar2 wk2)) ⟨hx, hb, hml, hown, hts⟩ (c_X1_exists l D aI aJ aL _ q d n kn rz ac up ar wk (by omega) (by omega)) (cwV 0 hts (rs_gV rw_192 rw_193 rw_194 rw_4 rw_195) rfl rfl rfl (by decide +kernel) ⟨Nat.le_of_ble_eq_true rfl, Nat.le_of_ble_eq_true rfl⟩) hK hN hP hD hS hA [10, 11, 12, 13, 14, 15, 16, 17] [0, 1, 2, 3, 4, 5, 6, 7, 8, 9, 18, 19, 20, 21, 22, 23, 24, 25] [0, 1, 2, 3, 4, 5, 6, 7, 8, 9, 18, 19, 20, 21, 22, 23, 24, 25, 10, 11, 12, 13, 14, 15, 16, 17] (by decide) rfl rfl (fun _ => rfl) 10 rfl rfl hl.1 rfl rfl (Nat.le_of_ble_eq_true rfl) dX3_locate_4 ⟨Nat.le_refl _, Nat.le_refl _⟩ (fun u_4 H locs hP hD hS => ?_)
  have hP : va_P D vwCl ((wS aI aJ aL h (qd 0) (qc 0) (q 0) (q2 0)) ++ (wDr aI aJ aL qd dd dc di xs ys wt inn) ++ (wCh aI aJ aL qc cs ho tl vt xa ya) ++ (wC aI aJ aL q d n kn rz ac up ar wk) ++ (wC aI aJ aL q2 d2 n2 kn2 rz2 ac2 up2 ar2 wk2)) H := hP
  have hD : va_D A ((wS aI aJ aL h (qd 0) (qc 0) (q 0) (q2 0)) ++ (wDr aI aJ aL qd dd dc di xs ys wt inn) ++ (wCh aI aJ aL qc cs ho tl vt xa ya) ++ (wC aI aJ aL q d n kn rz ac up ar wk) ++ (wC aI aJ aL q2 d2 n2 kn2 rz2 ac2 up2 ar2 wk2)) := hD
  refine lv_if_eq hx hb dX3_locate_7 (tgt := 26) rfl (fun h_7 => ?_) (fun h_7 => ?_)
  · have h_7 : (decide (0 < d)) = false := rs_bz h_7
    exact absurd hd0 (of_decide_eq_false h_7)
  · have h_7 : (decide (0 < d)) = true := rs_bn h_7
    refine lv_iload_n hx hb dX3_locate_10 rfl (lv_at hl 1 rfl) ?_
    refine rs_cSI (rest := []) (wr := (wS aI aJ aL h (qd 0) (qc 0) (q 0) (q2 0)) ++ (wDr aI aJ aL qd dd dc di xs ys wt inn) ++ (wCh aI aJ aL qc cs ho tl vt xa ya) ++ (wC aI aJ aL q d n kn rz ac up ar wk) ++ (wC aI aJ aL q2 d2 n2 kn2 rz2 ac2 up2 ar2 wk2)) (ws' := fun u_11 => (wS aI aJ aL h (qd 0) (qc 0) (q 0) (q2 0)) ++ (wDr aI aJ aL qd dd dc di xs ys wt inn) ++ (wCh aI aJ aL qc cs ho tl vt xa ya) ++ (wC aI aJ aL q d n kn rz ac up ar wk) ++ (wC aI aJ aL q2 d2 n2 kn2 rz2 ac2 up2 ar2 wk2)) ⟨hx, hb, hml, hown, hts⟩ (c_X3_isParameter l D aI aJ aL _ (nI u) ) (cwS 1 hts (rs_gS rw_321 rw_322 rw_1 rw_323) rfl rfl rfl (by decide +kernel) ⟨Nat.le_of_ble_eq_true rfl, Nat.le_of_ble_eq_true rfl⟩) hK hN hP hD hS hA [] [0, 1, 2, 3, 4, 5, 6, 7, 8, 9, 10, 11, 12, 13, 14, 15, 16, 17, 18, 19, 20, 21, 22, 23, 24, 25] [0, 1, 2, 3, 4, 5, 6, 7, 8, 9, 10, 11, 12, 13, 14, 15, 16, 17, 18, 19, 20, 21, 22, 23, 24, 25] (by decide) rfl rfl (fun _ => rfl) hl.1 rfl rfl (Nat.le_of_ble_eq_true rfl) dX3_locate_11 ⟨Nat.le_refl _, Nat.le_refl _⟩ (fun u_11 H locs hP hD hS => ?_)
    have hP : va_P D vwCl ((wS aI aJ aL h (qd 0) (qc 0) (q 0) (q2 0)) ++ (wDr aI aJ aL qd dd dc di xs ys wt inn) ++ (wCh aI aJ aL qc cs ho tl vt xa ya) ++ (wC aI aJ aL q d n kn rz ac up ar wk) ++ (wC aI aJ aL q2 d2 n2 kn2 rz2 ac2 up2 ar2 wk2)) H := hP
    have hD : va_D A ((wS aI aJ aL h (qd 0) (qc 0) (q 0) (q2 0)) ++ (wDr aI aJ aL qd dd dc di xs ys wt inn) ++ (wCh aI aJ aL qc cs ho tl vt xa ya) ++ (wC aI aJ aL q d n kn rz ac up ar wk) ++ (wC aI aJ aL q2 d2 n2 kn2 rz2 ac2 up2 ar2 wk2)) := hD
    refine lv_if_eq hx hb dX3_locate_14 (tgt := 26) rfl (fun h_14 => ?_) (fun h_14 => ?_)
    · have h_14 : (decide (¬ (nI u) < 0 ∧ ¬ nI 360 < (nI u))) = false := rs_bz h_14
      exact absurd h_14 (by rw [rs_parT hu]; decide)
    · have h_14 : (decide (¬ (nI u) < 0 ∧ ¬ nI 360 < (nI u))) = true := rs_bn h_14
      refine lv_iload_n hx hb dX3_locate_17 rfl (lv_at hl 2 rfl) ?_
      refine lv_if_eq hx hb dX3_locate_18 (tgt := 29) rfl (fun h_18 => ?_) (fun h_18 => ?_)
      · have h_18 : ax = 0 := rs_z1 (by omega) h_18
        refine lv_aload_n hx hb dX3_locate_29 rfl (lv_at hl 0 rfl) ?_
        refine va_get hx hb hts inX3 hown hK hP 0 (ci := 3) (C := RX3) (T := TX3) (N := 4) rfl rfl 2 (by decide) (hts _ rw_122) (fun _ h => h) (v := .ref (q 0)) rfl dX3_locate_30 ?_
        refine lv_iload_n hx hb dX3_locate_33 rfl (lv_at hl 1 rfl) ?_
        refine rs_cVV (rest := []) (wr := (wS aI aJ aL h (qd 0) (qc 0) (q 0) (q2 0)) ++ (wDr aI aJ aL qd dd dc di xs ys wt inn) ++ (wCh aI aJ aL qc cs ho tl vt xa ya) ++ (wC aI aJ aL q2 d2 n2 kn2 rz2 ac2 up2 ar2 wk2)) (ws' := fun u_34 => (wS aI aJ aL h (qd 0) (qc 0) (q 0) (q2 0)) ++ (wDr aI aJ aL qd dd dc di xs ys wt inn) ++ (wCh aI aJ aL qc cs ho tl vt xa ya) ++ (wC aI aJ aL q d n kn rz (rs_th (rs_bl kn d n rz (fun _ => u) 0 (rs_sp kn d u (n - (d + 1))) d d) (rs_bl kn d n rz (fun _ => u) 2 (rs_sp kn d u (n - (d + 1))) d d)) (rs_th (rs_bl kn d n rz (fun _ => u) 1 (rs_sp kn d u (n - (d + 1))) d d) (rs_bl kn d n rz (fun _ => u) 2 (rs_sp kn d u (n - (d + 1))) d d)) u_34.1 u_34.2) ++ (wC aI aJ aL q2 d2 n2 kn2 rz2 ac2 up2 ar2 wk2)) ⟨hx, hb, hml, hown, hts⟩ (c_X1_goTo l D aI aJ aL _ q d n kn rz ac up ar wk u hd hn hk hdn (by omega)) (cwV 1 hts (rs_gV rw_342 rw_343 rw_344 rw_4 rw_345) rfl rfl rfl (by decide +kernel) ⟨Nat.le_of_ble_eq_true rfl, Nat.le_of_ble_eq_true rfl⟩) hK hN hP hD hS hA [10, 11, 12, 13, 14, 15, 16, 17] [0, 1, 2, 3, 4, 5, 6, 7, 8, 9, 18, 19, 20, 21, 22, 23, 24, 25] [0, 1, 2, 3, 4, 5, 6, 7, 8, 9, 18, 19, 20, 21, 22, 23, 24, 25, 10, 11, 12, 13, 14, 15, 16, 17] (by decide) rfl rfl (fun _ => rfl) 10 rfl rfl hl.1 rfl rfl (Nat.le_of_ble_eq_true rfl) dX3_locate_34 ⟨Nat.le_refl _, Nat.le_refl _⟩ (fun u_34 H locs hP hD hS => ?_)
        have hP : va_P D vwCl ((wS aI aJ aL h (qd 0) (qc 0) (q 0) (q2 0)) ++ (wDr aI aJ aL qd dd dc di xs ys wt inn) ++ (wCh aI aJ aL qc cs ho tl vt xa ya) ++ (wC aI aJ aL q d n kn rz (rs_th (rs_bl kn d n rz (fun _ => u) 0 (rs_sp kn d u (n - (d + 1))) d d) (rs_bl kn d n rz (fun _ => u) 2 (rs_sp kn d u (n - (d + 1))) d d)) (rs_th (rs_bl kn d n rz (fun _ => u) 1 (rs_sp kn d u (n - (d + 1))) d d) (rs_bl kn d n rz (fun _ => u) 2 (rs_sp kn d u (n - (d + 1))) d d)) u_34.1 u_34.2) ++ (wC aI aJ aL q2 d2 n2 kn2 rz2 ac2 up2 ar2 wk2)) H := hP
        have hD : va_D A ((wS aI aJ aL h (qd 0) (qc 0) (q 0) (q2 0)) ++ (wDr aI aJ aL qd dd dc di xs ys wt inn) ++ (wCh aI aJ aL qc cs ho tl vt xa ya) ++ (wC aI aJ aL q d n kn rz (rs_th (rs_bl kn d n rz (fun _ => u) 0 (rs_sp kn d u (n - (d + 1))) d d) (rs_bl kn d n rz (fun _ => u) 2 (rs_sp kn d u (n - (d + 1))) d d)) (rs_th (rs_bl kn d n rz (fun _ => u) 1 (rs_sp kn d u (n - (d + 1))) d d) (rs_bl kn d n rz (fun _ => u) 2 (rs_sp kn d u (n - (d + 1))) d d)) u_34.1 u_34.2) ++ (wC aI aJ aL q2 d2 n2 kn2 rz2 ac2 up2 ar2 wk2)) := hD
        refine lv_iload_n hx hb dX3_locate_37 rfl (lv_at hl 2 rfl) ?_
        refine lv_if_ne hx hb dX3_locate_38 (tgt := 51) rfl (fun h_38 => ?_) (fun h_38 => ?_)
        · have h_38 : 0 < ax := rs_z2 (by omega) h_38
          refine lv_aload_n hx hb dX3_locate_51 rfl (lv_at hl 0 rfl) ?_
          refine va_get hx hb hts inX3 hown hK hP 0 (ci := 3) (C := RX3) (T := TX3) (N := 4) rfl rfl 2 (by decide) (hts _ rw_122) (fun _ h => h) (v := .ref (q 0)) rfl dX3_locate_52 ?_
          refine va_getN hx hb hts inX1 hown hK hP 10 (ci := 1) (C := RX1) (T := TX1) (N := 8) rfl rfl 5 (by decide) (hN.bef (w := .fieldLinkNest RX3 121 "RefinedSpline$Curve" "up" "I" "RefinedSpline") (by decide +kernel) rfl) (fun _ h => h) (v := .int (rs_th (rs_bl kn d n rz (fun _ => u) 1 (rs_sp kn d u (n - (d + 1))) d d) (rs_bl kn d n rz (fun _ => u) 2 (rs_sp kn d u (n - (d + 1))) d d))) rfl dX3_locate_55 ?_
          exact rs_iret u_34 hx hb hr hlk hQ hK hP hD hS rfl (by first | (exfalso; omega) | rw [show ax = 0 by omega] | rw [show ax = 1 by omega]) rfl dX3_locate_58
        · have h_38 : ax = 0 := rs_z1 (by omega) h_38
          refine lv_aload_n hx hb dX3_locate_41 rfl (lv_at hl 0 rfl) ?_
          refine va_get hx hb hts inX3 hown hK hP 0 (ci := 3) (C := RX3) (T := TX3) (N := 4) rfl rfl 2 (by decide) (hts _ rw_122) (fun _ h => h) (v := .ref (q 0)) rfl dX3_locate_42 ?_
          refine va_getN hx hb hts inX1 hown hK hP 10 (ci := 1) (C := RX1) (T := TX1) (N := 8) rfl rfl 4 (by decide) (hN.bef (w := .fieldLinkNest RX3 118 "RefinedSpline$Curve" "across" "I" "RefinedSpline") (by decide +kernel) rfl) (fun _ h => h) (v := .int (rs_th (rs_bl kn d n rz (fun _ => u) 0 (rs_sp kn d u (n - (d + 1))) d d) (rs_bl kn d n rz (fun _ => u) 2 (rs_sp kn d u (n - (d + 1))) d d))) rfl dX3_locate_45 ?_
          refine lv_goto hx hb dX3_locate_48 (tgt := 58) rfl ?_
          exact rs_iret u_34 hx hb hr hlk hQ hK hP hD hS rfl (by first | (exfalso; omega) | rw [show ax = 0 by omega] | rw [show ax = 1 by omega]) rfl dX3_locate_58
      · have h_18 : 0 < ax := rs_z2 (by omega) h_18
        refine lv_iload_n hx hb dX3_locate_21 rfl (lv_at hl 2 rfl) ?_
        refine lv_iconst hx hb dX3_locate_22 (v := nI 1) (by decide) ?_
        refine lv_icmp_eq hx hb dX3_locate_23 (tgt := 29) rfl (fun h_23 => ?_) (fun h_23 => ?_)
        · have h_23 : ax = 1 := (nI_eq (by omega) (by omega)).1 h_23
          refine lv_aload_n hx hb dX3_locate_29 rfl (lv_at hl 0 rfl) ?_
          refine va_get hx hb hts inX3 hown hK hP 0 (ci := 3) (C := RX3) (T := TX3) (N := 4) rfl rfl 2 (by decide) (hts _ rw_122) (fun _ h => h) (v := .ref (q 0)) rfl dX3_locate_30 ?_
          refine lv_iload_n hx hb dX3_locate_33 rfl (lv_at hl 1 rfl) ?_
          refine rs_cVV (rest := []) (wr := (wS aI aJ aL h (qd 0) (qc 0) (q 0) (q2 0)) ++ (wDr aI aJ aL qd dd dc di xs ys wt inn) ++ (wCh aI aJ aL qc cs ho tl vt xa ya) ++ (wC aI aJ aL q2 d2 n2 kn2 rz2 ac2 up2 ar2 wk2)) (ws' := fun u_34 => (wS aI aJ aL h (qd 0) (qc 0) (q 0) (q2 0)) ++ (wDr aI aJ aL qd dd dc di xs ys wt inn) ++ (wCh aI aJ aL qc cs ho tl vt xa ya) ++ (wC aI aJ aL q d n kn rz (rs_th (rs_bl kn d n rz (fun _ => u) 0 (rs_sp kn d u (n - (d + 1))) d d) (rs_bl kn d n rz (fun _ => u) 2 (rs_sp kn d u (n - (d + 1))) d d)) (rs_th (rs_bl kn d n rz (fun _ => u) 1 (rs_sp kn d u (n - (d + 1))) d d) (rs_bl kn d n rz (fun _ => u) 2 (rs_sp kn d u (n - (d + 1))) d d)) u_34.1 u_34.2) ++ (wC aI aJ aL q2 d2 n2 kn2 rz2 ac2 up2 ar2 wk2)) ⟨hx, hb, hml, hown, hts⟩ (c_X1_goTo l D aI aJ aL _ q d n kn rz ac up ar wk u hd hn hk hdn (by omega)) (cwV 1 hts (rs_gV rw_342 rw_343 rw_344 rw_4 rw_345) rfl rfl rfl (by decide +kernel) ⟨Nat.le_of_ble_eq_true rfl, Nat.le_of_ble_eq_true rfl⟩) hK hN hP hD hS hA [10, 11, 12, 13, 14, 15, 16, 17] [0, 1, 2, 3, 4, 5, 6, 7, 8, 9, 18, 19, 20, 21, 22, 23, 24, 25] [0, 1, 2, 3, 4, 5, 6, 7, 8, 9, 18, 19, 20, 21, 22, 23, 24, 25, 10, 11, 12, 13, 14, 15, 16, 17] (by decide) rfl rfl (fun _ => rfl) 10 rfl rfl hl.1 rfl rfl (Nat.le_of_ble_eq_true rfl) dX3_locate_34 ⟨Nat.le_refl _, Nat.le_refl _⟩ (fun u_34 H locs hP hD hS => ?_)
          have hP : va_P D vwCl ((wS aI aJ aL h (qd 0) (qc 0) (q 0) (q2 0)) ++ (wDr aI aJ aL qd dd dc di xs ys wt inn) ++ (wCh aI aJ aL qc cs ho tl vt xa ya) ++ (wC aI aJ aL q d n kn rz (rs_th (rs_bl kn d n rz (fun _ => u) 0 (rs_sp kn d u (n - (d + 1))) d d) (rs_bl kn d n rz (fun _ => u) 2 (rs_sp kn d u (n - (d + 1))) d d)) (rs_th (rs_bl kn d n rz (fun _ => u) 1 (rs_sp kn d u (n - (d + 1))) d d) (rs_bl kn d n rz (fun _ => u) 2 (rs_sp kn d u (n - (d + 1))) d d)) u_34.1 u_34.2) ++ (wC aI aJ aL q2 d2 n2 kn2 rz2 ac2 up2 ar2 wk2)) H := hP
          have hD : va_D A ((wS aI aJ aL h (qd 0) (qc 0) (q 0) (q2 0)) ++ (wDr aI aJ aL qd dd dc di xs ys wt inn) ++ (wCh aI aJ aL qc cs ho tl vt xa ya) ++ (wC aI aJ aL q d n kn rz (rs_th (rs_bl kn d n rz (fun _ => u) 0 (rs_sp kn d u (n - (d + 1))) d d) (rs_bl kn d n rz (fun _ => u) 2 (rs_sp kn d u (n - (d + 1))) d d)) (rs_th (rs_bl kn d n rz (fun _ => u) 1 (rs_sp kn d u (n - (d + 1))) d d) (rs_bl kn d n rz (fun _ => u) 2 (rs_sp kn d u (n - (d + 1))) d d)) u_34.1 u_34.2) ++ (wC aI aJ aL q2 d2 n2 kn2 rz2 ac2 up2 ar2 wk2)) := hD
          refine lv_iload_n hx hb dX3_locate_37 rfl (lv_at hl 2 rfl) ?_
          refine lv_if_ne hx hb dX3_locate_38 (tgt := 51) rfl (fun h_38 => ?_) (fun h_38 => ?_)
          · have h_38 : 0 < ax := rs_z2 (by omega) h_38
            refine lv_aload_n hx hb dX3_locate_51 rfl (lv_at hl 0 rfl) ?_
            refine va_get hx hb hts inX3 hown hK hP 0 (ci := 3) (C := RX3) (T := TX3) (N := 4) rfl rfl 2 (by decide) (hts _ rw_122) (fun _ h => h) (v := .ref (q 0)) rfl dX3_locate_52 ?_
            refine va_getN hx hb hts inX1 hown hK hP 10 (ci := 1) (C := RX1) (T := TX1) (N := 8) rfl rfl 5 (by decide) (hN.bef (w := .fieldLinkNest RX3 121 "RefinedSpline$Curve" "up" "I" "RefinedSpline") (by decide +kernel) rfl) (fun _ h => h) (v := .int (rs_th (rs_bl kn d n rz (fun _ => u) 1 (rs_sp kn d u (n - (d + 1))) d d) (rs_bl kn d n rz (fun _ => u) 2 (rs_sp kn d u (n - (d + 1))) d d))) rfl dX3_locate_55 ?_
            exact rs_iret u_34 hx hb hr hlk hQ hK hP hD hS rfl (by first | (exfalso; omega) | rw [show ax = 0 by omega] | rw [show ax = 1 by omega]) rfl dX3_locate_58
          · have h_38 : ax = 0 := rs_z1 (by omega) h_38
            refine lv_aload_n hx hb dX3_locate_41 rfl (lv_at hl 0 rfl) ?_
            refine va_get hx hb hts inX3 hown hK hP 0 (ci := 3) (C := RX3) (T := TX3) (N := 4) rfl rfl 2 (by decide) (hts _ rw_122) (fun _ h => h) (v := .ref (q 0)) rfl dX3_locate_42 ?_
            refine va_getN hx hb hts inX1 hown hK hP 10 (ci := 1) (C := RX1) (T := TX1) (N := 8) rfl rfl 4 (by decide) (hN.bef (w := .fieldLinkNest RX3 118 "RefinedSpline$Curve" "across" "I" "RefinedSpline") (by decide +kernel) rfl) (fun _ h => h) (v := .int (rs_th (rs_bl kn d n rz (fun _ => u) 0 (rs_sp kn d u (n - (d + 1))) d d) (rs_bl kn d n rz (fun _ => u) 2 (rs_sp kn d u (n - (d + 1))) d d))) rfl dX3_locate_45 ?_
            refine lv_goto hx hb dX3_locate_48 (tgt := 58) rfl ?_
            exact rs_iret u_34 hx hb hr hlk hQ hK hP hD hS rfl (by first | (exfalso; omega) | rw [show ax = 0 by omega] | rw [show ax = 1 by omega]) rfl dX3_locate_58
        · have h_23 : ¬ ax = 1 := fun z => h_23 ((nI_eq (by omega) (by omega)).2 z)
          omega

def rm_X3_locateF : Room := { frames := 4, cells := 0, slots := 0, locals := 330 }
set_option maxHeartbeats 4000000 in
set_option maxRecDepth 100000 in
theorem c_X3_locateF (l : Launch) (D : va_G) (aI aJ aL : ClassId) (sz : Nat) (h : Nat) (qd : Nat → Nat) (dd : Nat) (dc : Nat) (di : Nat) (xs : Nat → Int32) (ys : Nat → Int32) (wt : Nat → Int32) (inn : Nat → Nat) (qc : Nat → Nat) (cs : Nat) (ho : Int32) (tl : Int32) (vt : Nat → Nat) (xa : Nat → Int32) (ya : Nat → Int32) (q : Nat → Nat) (d : Nat) (n : Nat) (kn : Nat → Nat) (rz : Nat → Nat → Int64) (ac : Int32) (up : Int32) (ar : Nat → Nat) (wk : Nat → Int64) (q2 : Nat → Nat) (d2 : Nat) (n2 : Nat) (kn2 : Nat → Nat) (rz2 : Nat → Nat → Int64) (ac2 : Int32) (up2 : Int32) (ar2 : Nat → Nat) (wk2 : Nat → Int64) (u : Int32) (ax : Int32) (hd : d ≤ 3) (hn : n ≤ 19) (hF : ¬ (0 < d ∧ (¬ u < 0 ∧ ¬ nI 360 < u) ∧ (ax = 0 ∨ ax = nI 1))) : rs_MI (S := Unit) l yX3_locate (Cond.code yX3_locate prog_1_method_18_code 3 (some .int) :: rsW) rm_X3_locateF D vwCl (rs_tys aI aJ aL) rs_nw [.ref h, .int u, .int ax] ((wS aI aJ aL h (qd 0) (qc 0) (q 0) (q2 0)) ++ (wDr aI aJ aL qd dd dc di xs ys wt inn) ++ (wCh aI aJ aL qc cs ho tl vt xa ya) ++ (wC aI aJ aL q d n kn rz ac up ar wk) ++ (wC aI aJ aL q2 d2 n2 kn2 rz2 ac2 up2 ar2 wk2)) sz ((-2147483648)) (fun uu => (wS aI aJ aL h (qd 0) (qc 0) (q 0) (q2 0)) ++ (wDr aI aJ aL qd dd dc di xs ys wt inn) ++ (wCh aI aJ aL qc cs ho tl vt xa ya) ++ (wC aI aJ aL q d n kn rz ac up ar wk) ++ (wC aI aJ aL q2 d2 n2 kn2 rz2 ac2 up2 ar2 wk2)) := by
  refine rs_ent (cc := cX3_locate) (maxL := 3) (ret := some .int) (Qc := rs_QI D vwCl _ _ _) (by decide) rfl (Nat.le_of_ble_eq_true rfl) ?_
  intro p e s m args below meth c ls A Q hx hb hr hml hlk hts hown hin hK hN hP hD hS hA hQ hl
  have hl : lv_has ls 3 [(0, .ref h), (1, .int u), (2, .int ax)] := hl
  refine lv_aload_n hx hb dX3_locate_0 rfl (lv_at hl 0 rfl) ?_
  refine va_get hx hb hts inX3 hown hK hP 0 (ci := 3) (C := RX3) (T := TX3) (N := 4) rfl rfl 2 (by decide) (hts _ rw_122) (fun _ h => h) (v := .ref (q 0)) rfl dX3_locate_1 ?_
  refine rs_cVI (rest := []) (wr := (wS aI aJ aL h (qd 0) (qc 0) (q 0) (q2 0)) ++ (wDr aI aJ aL qd dd dc di xs ys wt inn) ++ (wCh aI aJ aL qc cs ho tl vt xa ya) ++ (wC aI aJ aL q2 d2 n2 kn2 rz2 ac2 up2 ar2 wk2)) (ws' := fun u_4 => (wS aI aJ aL h (qd 0) (qc 0) (q 0) (q2 0)) ++ (wDr aI aJ aL qd dd dc di xs ys wt inn) ++ (wCh aI aJ aL qc cs ho tl vt xa ya) ++ (wC aI aJ aL q d n kn rz ac up ar wk) ++ (wC aI aJ aL q2 d2 n2 kn2 rz2 ac2 up2 ar2 wk2)) ⟨hx, hb, hml, hown, hts⟩ (c_X1_exists l D aI aJ aL _ q d n kn rz ac up ar wk (by omega) (by omega)) (cwV 0 hts (rs_gV rw_192 rw_193 rw_194 rw_4 rw_195) rfl rfl rfl (by decide +kernel) ⟨Nat.le_of_ble_eq_true rfl, Nat.le_of_ble_eq_true rfl⟩) hK hN hP hD hS hA [10, 11, 12, 13, 14, 15, 16, 17] [0, 1, 2, 3, 4, 5, 6, 7, 8, 9, 18, 19, 20, 21, 22, 23, 24, 25] [0, 1, 2, 3, 4, 5, 6, 7, 8, 9, 18, 19, 20, 21, 22, 23, 24, 25, 10, 11, 12, 13, 14, 15, 16, 17] (by decide) rfl rfl (fun _ => rfl) 10 rfl rfl hl.1 rfl rfl (Nat.le_of_ble_eq_true rfl) dX3_locate_4 ⟨Nat.le_refl _, Nat.le_refl _⟩ (fun u_4 H locs hP hD hS => ?_)
  have hP : va_P D vwCl ((wS aI aJ aL h (qd 0) (qc 0) (q 0) (q2 0)) ++ (wDr aI aJ aL qd dd dc di xs ys wt inn) ++ (wCh aI aJ aL qc cs ho tl vt xa ya) ++ (wC aI aJ aL q d n kn rz ac up ar wk) ++ (wC aI aJ aL q2 d2 n2 kn2 rz2 ac2 up2 ar2 wk2)) H := hP
  have hD : va_D A ((wS aI aJ aL h (qd 0) (qc 0) (q 0) (q2 0)) ++ (wDr aI aJ aL qd dd dc di xs ys wt inn) ++ (wCh aI aJ aL qc cs ho tl vt xa ya) ++ (wC aI aJ aL q d n kn rz ac up ar wk) ++ (wC aI aJ aL q2 d2 n2 kn2 rz2 ac2 up2 ar2 wk2)) := hD
  refine lv_if_eq hx hb dX3_locate_7 (tgt := 26) rfl (fun h_7 => ?_) (fun h_7 => ?_)
  · have h_7 : (decide (0 < d)) = false := rs_bz h_7
    refine lv_ldc hx hb hown (hts _ rw_341) dX3_locate_26 ?_
    exact rs_iret () hx hb hr hlk hQ hK hP hD hS rfl rfl rfl dX3_locate_28
  · have h_7 : (decide (0 < d)) = true := rs_bn h_7
    refine lv_iload_n hx hb dX3_locate_10 rfl (lv_at hl 1 rfl) ?_
    refine rs_cSI (rest := []) (wr := (wS aI aJ aL h (qd 0) (qc 0) (q 0) (q2 0)) ++ (wDr aI aJ aL qd dd dc di xs ys wt inn) ++ (wCh aI aJ aL qc cs ho tl vt xa ya) ++ (wC aI aJ aL q d n kn rz ac up ar wk) ++ (wC aI aJ aL q2 d2 n2 kn2 rz2 ac2 up2 ar2 wk2)) (ws' := fun u_11 => (wS aI aJ aL h (qd 0) (qc 0) (q 0) (q2 0)) ++ (wDr aI aJ aL qd dd dc di xs ys wt inn) ++ (wCh aI aJ aL qc cs ho tl vt xa ya) ++ (wC aI aJ aL q d n kn rz ac up ar wk) ++ (wC aI aJ aL q2 d2 n2 kn2 rz2 ac2 up2 ar2 wk2)) ⟨hx, hb, hml, hown, hts⟩ (c_X3_isParameter l D aI aJ aL _ u ) (cwS 1 hts (rs_gS rw_321 rw_322 rw_1 rw_323) rfl rfl rfl (by decide +kernel) ⟨Nat.le_of_ble_eq_true rfl, Nat.le_of_ble_eq_true rfl⟩) hK hN hP hD hS hA [] [0, 1, 2, 3, 4, 5, 6, 7, 8, 9, 10, 11, 12, 13, 14, 15, 16, 17, 18, 19, 20, 21, 22, 23, 24, 25] [0, 1, 2, 3, 4, 5, 6, 7, 8, 9, 10, 11, 12, 13, 14, 15, 16, 17, 18, 19, 20, 21, 22, 23, 24, 25] (by decide) rfl rfl (fun _ => rfl) hl.1 rfl rfl (Nat.le_of_ble_eq_true rfl) dX3_locate_11 ⟨Nat.le_refl _, Nat.le_refl _⟩ (fun u_11 H locs hP hD hS => ?_)
    have hP : va_P D vwCl ((wS aI aJ aL h (qd 0) (qc 0) (q 0) (q2 0)) ++ (wDr aI aJ aL qd dd dc di xs ys wt inn) ++ (wCh aI aJ aL qc cs ho tl vt xa ya) ++ (wC aI aJ aL q d n kn rz ac up ar wk) ++ (wC aI aJ aL q2 d2 n2 kn2 rz2 ac2 up2 ar2 wk2)) H := hP
    have hD : va_D A ((wS aI aJ aL h (qd 0) (qc 0) (q 0) (q2 0)) ++ (wDr aI aJ aL qd dd dc di xs ys wt inn) ++ (wCh aI aJ aL qc cs ho tl vt xa ya) ++ (wC aI aJ aL q d n kn rz ac up ar wk) ++ (wC aI aJ aL q2 d2 n2 kn2 rz2 ac2 up2 ar2 wk2)) := hD
    refine lv_if_eq hx hb dX3_locate_14 (tgt := 26) rfl (fun h_14 => ?_) (fun h_14 => ?_)
    · have h_14 : (decide (¬ u < 0 ∧ ¬ nI 360 < u)) = false := rs_bz h_14
      refine lv_ldc hx hb hown (hts _ rw_341) dX3_locate_26 ?_
      exact rs_iret () hx hb hr hlk hQ hK hP hD hS rfl rfl rfl dX3_locate_28
    · have h_14 : (decide (¬ u < 0 ∧ ¬ nI 360 < u)) = true := rs_bn h_14
      refine lv_iload_n hx hb dX3_locate_17 rfl (lv_at hl 2 rfl) ?_
      refine lv_if_eq hx hb dX3_locate_18 (tgt := 29) rfl (fun h_18 => ?_) (fun h_18 => ?_)
      · skip
        exact absurd ⟨of_decide_eq_true h_7, of_decide_eq_true h_14, Or.inl h_18⟩ hF
      · skip
        refine lv_iload_n hx hb dX3_locate_21 rfl (lv_at hl 2 rfl) ?_
        refine lv_iconst hx hb dX3_locate_22 (v := nI 1) (by decide) ?_
        refine lv_icmp_eq hx hb dX3_locate_23 (tgt := 29) rfl (fun h_23 => ?_) (fun h_23 => ?_)
        · skip
          exact absurd ⟨of_decide_eq_true h_7, of_decide_eq_true h_14, Or.inr h_23⟩ hF
        · skip
          refine lv_ldc hx hb hown (hts _ rw_341) dX3_locate_26 ?_
          exact rs_iret () hx hb hr hlk hQ hK hP hD hS rfl rfl rfl dX3_locate_28

def rm_X3_vertex : Room := { frames := 1, cells := 0, slots := 0, locals := 64 }
set_option maxHeartbeats 4000000 in
set_option maxRecDepth 100000 in
theorem c_X3_vertex (l : Launch) (D : va_G) (aI aJ aL : ClassId) (sz : Nat) (h : Nat) (qd : Nat → Nat) (dd : Nat) (dc : Nat) (di : Nat) (xs : Nat → Int32) (ys : Nat → Int32) (wt : Nat → Int32) (inn : Nat → Nat) (qc : Nat → Nat) (cs : Nat) (ho : Int32) (tl : Int32) (vt : Nat → Nat) (xa : Nat → Int32) (ya : Nat → Int32) (q : Nat → Nat) (d : Nat) (n : Nat) (kn : Nat → Nat) (rz : Nat → Nat → Int64) (ac : Int32) (up : Int32) (ar : Nat → Nat) (wk : Nat → Int64) (q2 : Nat → Nat) (d2 : Nat) (n2 : Nat) (kn2 : Nat → Nat) (rz2 : Nat → Nat → Int64) (ac2 : Int32) (up2 : Int32) (ar2 : Nat → Nat) (wk2 : Nat → Int64) (i : Int32) (hcs : cs ≤ 361) : rs_MI (S := Unit) l yX3_vertex (Cond.code yX3_vertex prog_1_method_20_code 2 (some .int) :: rsW) rm_X3_vertex D vwCl (rs_tys aI aJ aL) rs_nw [.ref h, .int i] ((wS aI aJ aL h (qd 0) (qc 0) (q 0) (q2 0)) ++ (wDr aI aJ aL qd dd dc di xs ys wt inn) ++ (wCh aI aJ aL qc cs ho tl vt xa ya) ++ (wC aI aJ aL q d n kn rz ac up ar wk) ++ (wC aI aJ aL q2 d2 n2 kn2 rz2 ac2 up2 ar2 wk2)) sz (rs_vtx vt cs i) (fun uu => (wS aI aJ aL h (qd 0) (qc 0) (q 0) (q2 0)) ++ (wDr aI aJ aL qd dd dc di xs ys wt inn) ++ (wCh aI aJ aL qc cs ho tl vt xa ya) ++ (wC aI aJ aL q d n kn rz ac up ar wk) ++ (wC aI aJ aL q2 d2 n2 kn2 rz2 ac2 up2 ar2 wk2)) := by
  refine rs_ent (cc := cX3_vertex) (maxL := 2) (ret := some .int) (Qc := rs_QI D vwCl _ _ _) (by decide) rfl (Nat.le_of_ble_eq_true rfl) ?_
  intro p e s m args below meth c ls A Q hx hb hr hml hlk hts hown hin hK hN hP hD hS hA hQ hl
  have hl : lv_has ls 2 [(0, .ref h), (1, .int i)] := hl
  refine lv_iload_n hx hb dX3_vertex_0 rfl (lv_at hl 1 rfl) ?_
  refine lv_if_lt hx hb dX3_vertex_1 (tgt := 15) rfl (fun h_1 => ?_) (fun h_1 => ?_)
  · skip
    refine lv_iconst hx hb dX3_vertex_15 (v := (-1)) (by decide) ?_
    exact rs_iret () hx hb hr hlk hQ hK hP hD hS rfl (by first | exact rs_vtx_1 h_1 | exact rs_vtx_2 h_12) rfl dX3_vertex_16
  · skip
    refine lv_iload_n hx hb dX3_vertex_4 rfl (lv_at hl 1 rfl) ?_
    refine lv_aload_n hx hb dX3_vertex_5 rfl (lv_at hl 0 rfl) ?_
    refine va_get hx hb hts inX3 hown hK hP 0 (ci := 3) (C := RX3) (T := TX3) (N := 4) rfl rfl 1 (by decide) (hts _ rw_121) (fun _ h => h) (v := .ref (qc 0)) rfl dX3_vertex_6 ?_
    refine va_getN hx hb hts inX0 hown hK hP 6 (ci := 0) (C := RX0) (T := TX0) (N := 6) rfl rfl 0 (by decide) (hN.bef (w := .fieldLinkNest RX3 128 "RefinedSpline$Chords" "size" "I" "RefinedSpline") (by decide +kernel) rfl) (fun _ h => h) (v := .int (nI cs)) rfl dX3_vertex_9 ?_
    refine lv_icmp_lt hx hb dX3_vertex_12 (tgt := 17) rfl (fun h_12 => ?_) (fun h_12 => ?_)
    · skip
      obtain ⟨a, ha, rfl⟩ := nI_of h_1
      have ha2 : a < cs := (nI_ltI ha (by omega)).1 h_12
      refine lv_aload_n hx hb dX3_vertex_17 rfl (lv_at hl 0 rfl) ?_
      refine va_get hx hb hts inX3 hown hK hP 0 (ci := 3) (C := RX3) (T := TX3) (N := 4) rfl rfl 1 (by decide) (hts _ rw_121) (fun _ h => h) (v := .ref (qc 0)) rfl dX3_vertex_18 ?_
      refine va_getN hx hb hts inX0 hown hK hP 6 (ci := 0) (C := RX0) (T := TX0) (N := 6) rfl rfl 3 (by decide) (hN.bef (w := .fieldLinkNest RX3 131 "RefinedSpline$Chords" "vertices" "[I" "RefinedSpline") (by decide +kernel) rfl) (fun _ h => h) (v := .ref (qc 1)) rfl dX3_vertex_21 ?_
      refine lv_iload_n hx hb dX3_vertex_24 rfl (lv_at hl 1 rfl) ?_
      refine rs_iald hx hb hK hP 7 0 rfl rfl (i := a) (by omega) (by decide) (v := nI (vt a)) rfl dX3_vertex_25 ?_
      exact rs_iret () hx hb hr hlk hQ hK hP hD hS rfl (rs_vtx_3 ha2 (by omega)) rfl dX3_vertex_26
    · skip
      refine lv_iconst hx hb dX3_vertex_15 (v := (-1)) (by decide) ?_
      exact rs_iret () hx hb hr hlk hQ hK hP hD hS rfl (by first | exact rs_vtx_1 h_1 | exact rs_vtx_2 h_12) rfl dX3_vertex_16

def rm_X3_begin : Room := { frames := 2, cells := 0, slots := 0, locals := 149 }
set_option maxHeartbeats 4000000 in
set_option maxRecDepth 100000 in
theorem c_X3_begin (l : Launch) (D : va_G) (aI aJ aL : ClassId) (sz : Nat) (h : Nat) (qd : Nat → Nat) (dd : Nat) (dc : Nat) (di : Nat) (xs : Nat → Int32) (ys : Nat → Int32) (wt : Nat → Int32) (inn : Nat → Nat) (qc : Nat → Nat) (cs : Nat) (ho : Int32) (tl : Int32) (vt : Nat → Nat) (xa : Nat → Int32) (ya : Nat → Int32) (q : Nat → Nat) (d : Nat) (n : Nat) (kn : Nat → Nat) (rz : Nat → Nat → Int64) (ac : Int32) (up : Int32) (ar : Nat → Nat) (wk : Nat → Int64) (q2 : Nat → Nat) (d2 : Nat) (n2 : Nat) (kn2 : Nat → Nat) (rz2 : Nat → Nat → Int64) (ac2 : Int32) (up2 : Int32) (ar2 : Nat → Nat) (wk2 : Nat → Int64) (x : Nat) (hx1 : 1 ≤ x) (hx3 : x ≤ 3) : rs_MI (S := Unit) l yX3_begin (Cond.code yX3_begin prog_1_method_2_code 2 (some .boolean) :: rsW) rm_X3_begin D vwCl (rs_tys aI aJ aL) rs_nw [.ref h, .int (nI x)] ((wS aI aJ aL h (qd 0) (qc 0) (q 0) (q2 0)) ++ (wDr aI aJ aL qd dd dc di xs ys wt inn) ++ (wCh aI aJ aL qc cs ho tl vt xa ya) ++ (wC aI aJ aL q d n kn rz ac up ar wk) ++ (wC aI aJ aL q2 d2 n2 kn2 rz2 ac2 up2 ar2 wk2)) sz (nI 1) (fun uu => (wS aI aJ aL h (qd 0) (qc 0) (q 0) (q2 0)) ++ (wDr aI aJ aL qd x 0 0 xs ys wt inn) ++ (wCh aI aJ aL qc cs ho tl vt xa ya) ++ (wC aI aJ aL q d n kn rz ac up ar wk) ++ (wC aI aJ aL q2 d2 n2 kn2 rz2 ac2 up2 ar2 wk2)) := by
  refine rs_ent (cc := cX3_begin) (maxL := 2) (ret := some .boolean) (Qc := rs_QI D vwCl _ _ _) (by decide) rfl (Nat.le_of_ble_eq_true rfl) ?_
  intro p e s m args below meth c ls A Q hx hb hr hml hlk hts hown hin hK hN hP hD hS hA hQ hl
  have hl : lv_has ls 2 [(0, .ref h), (1, .int (nI x))] := hl
  refine lv_iload_n hx hb dX3_begin_0 rfl (lv_at hl 1 rfl) ?_
  refine lv_iconst hx hb dX3_begin_1 (v := nI 1) (by decide) ?_
  refine lv_icmp_lt hx hb dX3_begin_2 (tgt := 10) rfl (fun h_2 => ?_) (fun h_2 => ?_)
  · have h_2 : x < 1 := (nI_ltI (by omega) (by omega)).1 h_2
    omega
  · have h_2 : 1 ≤ x := Nat.le_of_not_lt (fun z => h_2 ((nI_ltI (by omega) (by omega)).2 z))
    refine lv_iload_n hx hb dX3_begin_5 rfl (lv_at hl 1 rfl) ?_
    refine lv_iconst hx hb dX3_begin_6 (v := nI 3) (by decide) ?_
    refine lv_icmp_le hx hb dX3_begin_7 (tgt := 12) rfl (fun h_7 => ?_) (fun h_7 => ?_)
    · have h_7 : x ≤ 3 := (nI_leI (by omega) (by omega)).1 h_7
      refine lv_aload_n hx hb dX3_begin_12 rfl (lv_at hl 0 rfl) ?_
      refine va_get hx hb hts inX3 hown hK hP 0 (ci := 3) (C := RX3) (T := TX3) (N := 4) rfl rfl 0 (by decide) (hts _ rw_120) (fun _ h => h) (v := .ref (qd 0)) rfl dX3_begin_13 ?_
      refine lv_iload_n hx hb dX3_begin_16 rfl (lv_at hl 1 rfl) ?_
      refine rs_cVV (rest := []) (wr := (wS aI aJ aL h (qd 0) (qc 0) (q 0) (q2 0)) ++ (wCh aI aJ aL qc cs ho tl vt xa ya) ++ (wC aI aJ aL q d n kn rz ac up ar wk) ++ (wC aI aJ aL q2 d2 n2 kn2 rz2 ac2 up2 ar2 wk2)) (ws' := fun u_17 => (wS aI aJ aL h (qd 0) (qc 0) (q 0) (q2 0)) ++ (wDr aI aJ aL qd x 0 0 xs ys wt inn) ++ (wCh aI aJ aL qc cs ho tl vt xa ya) ++ (wC aI aJ aL q d n kn rz ac up ar wk) ++ (wC aI aJ aL q2 d2 n2 kn2 rz2 ac2 up2 ar2 wk2)) ⟨hx, hb, hml, hown, hts⟩ (c_X2_open l D aI aJ aL _ qd dd dc di xs ys wt inn x ) (cwV 1 hts (rs_gV rw_137 rw_138 rw_139 rw_2 rw_140) rfl rfl rfl (by decide +kernel) ⟨Nat.le_of_ble_eq_true rfl, Nat.le_of_ble_eq_true rfl⟩) hK hN hP hD hS hA [1, 2, 3, 4, 5] [0, 6, 7, 8, 9, 10, 11, 12, 13, 14, 15, 16, 17, 18, 19, 20, 21, 22, 23, 24, 25] [0, 21, 22, 23, 24, 25, 1, 2, 3, 4, 5, 6, 7, 8, 9, 10, 11, 12, 13, 14, 15, 16, 17, 18, 19, 20] (by decide) rfl rfl (fun _ => rfl) 1 rfl rfl hl.1 rfl rfl (Nat.le_of_ble_eq_true rfl) dX3_begin_17 ⟨Nat.le_refl _, Nat.le_refl _⟩ (fun u_17 H locs hP hD hS => ?_)
      have hP : va_P D vwCl ((wS aI aJ aL h (qd 0) (qc 0) (q 0) (q2 0)) ++ (wDr aI aJ aL qd x 0 0 xs ys wt inn) ++ (wCh aI aJ aL qc cs ho tl vt xa ya) ++ (wC aI aJ aL q d n kn rz ac up ar wk) ++ (wC aI aJ aL q2 d2 n2 kn2 rz2 ac2 up2 ar2 wk2)) H := hP
      have hD : va_D A ((wS aI aJ aL h (qd 0) (qc 0) (q 0) (q2 0)) ++ (wDr aI aJ aL qd x 0 0 xs ys wt inn) ++ (wCh aI aJ aL qc cs ho tl vt xa ya) ++ (wC aI aJ aL q d n kn rz ac up ar wk) ++ (wC aI aJ aL q2 d2 n2 kn2 rz2 ac2 up2 ar2 wk2)) := hD
      refine lv_iconst hx hb dX3_begin_20 (v := nI 1) (by decide) ?_
      exact rs_iret () hx hb hr hlk hQ hK hP hD hS (by decide) rfl rfl dX3_begin_21
    · have h_7 : 3 < x := Nat.lt_of_not_le (fun z => h_7 ((nI_leI (by omega) (by omega)).2 z))
      omega

def rm_X3_beginF : Room := { frames := 2, cells := 0, slots := 0, locals := 149 }
set_option maxHeartbeats 4000000 in
set_option maxRecDepth 100000 in
theorem c_X3_beginF (l : Launch) (D : va_G) (aI aJ aL : ClassId) (sz : Nat) (h : Nat) (qd : Nat → Nat) (dd : Nat) (dc : Nat) (di : Nat) (xs : Nat → Int32) (ys : Nat → Int32) (wt : Nat → Int32) (inn : Nat → Nat) (qc : Nat → Nat) (cs : Nat) (ho : Int32) (tl : Int32) (vt : Nat → Nat) (xa : Nat → Int32) (ya : Nat → Int32) (q : Nat → Nat) (d : Nat) (n : Nat) (kn : Nat → Nat) (rz : Nat → Nat → Int64) (ac : Int32) (up : Int32) (ar : Nat → Nat) (wk : Nat → Int64) (q2 : Nat → Nat) (d2 : Nat) (n2 : Nat) (kn2 : Nat → Nat) (rz2 : Nat → Nat → Int64) (ac2 : Int32) (up2 : Int32) (ar2 : Nat → Nat) (wk2 : Nat → Int64) (x : Int32) (hF : x < nI 1 ∨ nI 3 < x) : rs_MI (S := Unit) l yX3_begin (Cond.code yX3_begin prog_1_method_2_code 2 (some .boolean) :: rsW) rm_X3_beginF D vwCl (rs_tys aI aJ aL) rs_nw [.ref h, .int x] ((wS aI aJ aL h (qd 0) (qc 0) (q 0) (q2 0)) ++ (wDr aI aJ aL qd dd dc di xs ys wt inn) ++ (wCh aI aJ aL qc cs ho tl vt xa ya) ++ (wC aI aJ aL q d n kn rz ac up ar wk) ++ (wC aI aJ aL q2 d2 n2 kn2 rz2 ac2 up2 ar2 wk2)) sz (nI 0) (fun uu => (wS aI aJ aL h (qd 0) (qc 0) (q 0) (q2 0)) ++ (wDr aI aJ aL qd dd dc di xs ys wt inn) ++ (wCh aI aJ aL qc cs ho tl vt xa ya) ++ (wC aI aJ aL q d n kn rz ac up ar wk) ++ (wC aI aJ aL q2 d2 n2 kn2 rz2 ac2 up2 ar2 wk2)) := by
  refine rs_ent (cc := cX3_begin) (maxL := 2) (ret := some .boolean) (Qc := rs_QI D vwCl _ _ _) (by decide) rfl (Nat.le_of_ble_eq_true rfl) ?_
  intro p e s m args below meth c ls A Q hx hb hr hml hlk hts hown hin hK hN hP hD hS hA hQ hl
  have hl : lv_has ls 2 [(0, .ref h), (1, .int x)] := hl
  refine lv_iload_n hx hb dX3_begin_0 rfl (lv_at hl 1 rfl) ?_
  refine lv_iconst hx hb dX3_begin_1 (v := nI 1) (by decide) ?_
  refine lv_icmp_lt hx hb dX3_begin_2 (tgt := 10) rfl (fun h_2 => ?_) (fun h_2 => ?_)
  · skip
    refine lv_iconst hx hb dX3_begin_10 (v := nI 0) (by decide) ?_
    exact rs_iret () hx hb hr hlk hQ hK hP hD hS (by decide) rfl rfl dX3_begin_11
  · skip
    refine lv_iload_n hx hb dX3_begin_5 rfl (lv_at hl 1 rfl) ?_
    refine lv_iconst hx hb dX3_begin_6 (v := nI 3) (by decide) ?_
    refine lv_icmp_le hx hb dX3_begin_7 (tgt := 12) rfl (fun h_7 => ?_) (fun h_7 => ?_)
    · skip
      exact absurd hF (fun z => z.elim h_2 (fun z2 => Int32.not_le.mpr z2 h_7))
    · skip
      refine lv_iconst hx hb dX3_begin_10 (v := nI 0) (by decide) ?_
      exact rs_iret () hx hb hr hlk hQ hK hP hD hS (by decide) rfl rfl dX3_begin_11
