/-! The law: one turn of its loop, call by call. -/
def rs_LW (D : va_G) (aI aJ aL : ClassId) (A : Nat → Prop) (h hm : Nat) (H : Heap) : Prop :=
  ∃ (dd dc di : Nat) (xs ys wt : Nat → Int32) (inn : Nat → Nat) (cs : Nat) (vf : Nat → Nat) (d : Nat) (tm : Nat → Nat) (a : Nat → Nat → Nat → Int) (x : rs_SC) (z : rs_SM),
    rs_RC dd dc di xs ys wt inn cs vf d tm a x ∧ rs_RM dd dc di xs ys wt inn cs vf d tm a z ∧ va_P D vwCl (rs_wX aI aJ aL h x ++ rs_wN aI aJ aL hm z) H ∧ va_D A (rs_wX aI aJ aL h x ++ rs_wN aI aJ aL hm z)
section RSK
variable {p : Program} {l : Launch} {e : Env} {s : State} {m : MethodId} {below : List Frame} {meth : Method} {c : Code} {H : Heap} {locs : List Loc} {Q : State → Prop} {ls : Array Slot} {D : va_G} {A : Nat → Prop} {aI aJ aL : ClassId} {b L i h hm : Nat} {xs : Nat → Int32}
theorem rs_sld {args : Array Value} {R : Room} {cells slots pc k : Nat} {rest : List Value} {cc : ByteArray} (hx : p.tables.exec = Jvm.exec) (hb : c.code = cc) (hX : va_X b L xs s s.heap) (hbl : b < s.heap.size) (hbA : ¬ A b) (hS : va_S A s.heap H locs) (hL : L ≤ 2048) (hk : k < L) (hdg : decode cc pc = .ok (.iaload, 1))
    (kk : W p l e R s m args below meth c H locs cells slots Q (F0 m (pc + 1) ls (.int (xs k) :: rest))) : W p l e R s m args below meth c H locs cells slots Q (F0 m pc ls (.int (nI k) :: .ref b :: rest)) := by
  refine va_sld hx hb hX hbl hbA hS (vp_in_nI hk (by omega)) hdg ?_
  rw [nI_clamp (by omega)]
  exact kk
set_option maxHeartbeats 4000000 in
set_option maxRecDepth 100000 in
theorem K_begin (hx : p.tables.exec = Jvm.exec) (hb : c.code = code) (hml : c.maxLocals = 4) (hown : s.vm.findClass RL = some m.cls) (hts : ∀ w ∈ rsW, w.before #[Value.ref b] s = true) (hK : va_K D vwCl (rs_tys aI aJ aL) s) (hN : rs_N rs_nw s) (hA : ∀ q, s.heap.size ≤ q → A q) (hX : va_X b L xs s s.heap) (hbl : b < s.heap.size) (hbA : ¬ A b) (hL : L ≤ 2048) (hi : i + 4 ≤ L) (hl : lv_has ls 4 [(0, .ref b), (1, .ref h), (2, .ref hm), (3, .int (nI i))]) (hw : rs_LW D aI aJ aL A h hm H) (hS : va_S A s.heap H locs) (kk : ∀ (H : Heap) (locs : List Loc), rs_LW D aI aJ aL A h hm H → va_S A s.heap H locs → W p l e room_1 s m #[Value.ref b] below meth c H locs 39 2081 Q (F0 m 563 ls [])) : W p l e room_1 s m #[Value.ref b] below meth c H locs 39 2081 Q (F0 m 124 ls []) := by
  obtain ⟨dd, dc, di, ds, es, gs, inn, cs, vf, d, tm, a, x, z, hC, hM, hP, hD⟩ := hw
  obtain ⟨dd', dc', di', ds', es', gs', inn', cs', vf', d', tm', a', r, cC, cM⟩ := O_begin (l := l) (D := D) (aI := aI) (aJ := aJ) (aL := aL) (h := h) (hm := hm) hC hM (xs (i + 1))
  refine lv_aload_n hx hb dL_law_124 rfl (lv_at hl 1 rfl) ?_
  refine lv_aload_n hx hb dL_law_125 rfl (lv_at hl 0 rfl) ?_
  refine lv_iload_n hx hb dL_law_126 rfl (lv_at hl 3 rfl) ?_
  refine lv_iconst hx hb dL_law_127 (v := nI 1) (by decide) ?_
  refine rs_iadd hx hb dL_law_128 (v := nI (i + 1)) (nI_add _ _) ?_
  refine rs_sld hx hb hX hbl hbA hS hL (by omega) dL_law_129 ?_
  refine rs_cVI (rest := []) (wr := rs_wN aI aJ aL hm z) (ws' := fun u => rs_wX aI aJ aL h u.1 ++ rs_wN aI aJ aL hm z) ⟨hx, hb, hml, hown, hts⟩ (cC _) (cwV 1 hts (rs_gV rw_133 rw_134 rw_135 rw_1 rw_136) rfl rfl rfl (by decide +kernel) ⟨Nat.le_of_ble_eq_true rfl, Nat.le_of_ble_eq_true rfl⟩) hK hN hP hD hS hA [0, 1, 2, 3, 4, 5, 6, 7, 8, 9, 10, 11, 12, 13, 14, 15, 16, 17, 18, 19, 20, 21, 22, 23, 24, 25] [26, 27, 28, 29, 30, 31, 32, 33, 34, 35, 36, 37, 38] [13, 14, 15, 16, 17, 18, 19, 20, 21, 22, 23, 24, 25, 26, 27, 28, 29, 30, 31, 32, 33, 34, 35, 36, 37, 38, 0, 1, 2, 3, 4, 5, 6, 7, 8, 9, 10, 11, 12] (by decide) rfl rfl (fun _ => rfl) 0 rfl rfl hl.1 rfl rfl (Nat.le_of_ble_eq_true rfl) dL_law_130 ⟨Nat.le_of_ble_eq_true rfl, Nat.le_of_ble_eq_true rfl⟩ (fun u H locs hP hD hS => ?_)
  have hP : va_P D vwCl (rs_wX aI aJ aL h u.1 ++ rs_wN aI aJ aL hm z) H := hP
  have hD : va_D A (rs_wX aI aJ aL h u.1 ++ rs_wN aI aJ aL hm z) := hD
  refine lv_aload_n hx hb dL_law_133 rfl (lv_at hl 2 rfl) ?_
  refine lv_aload_n hx hb dL_law_134 rfl (lv_at hl 0 rfl) ?_
  refine lv_iload_n hx hb dL_law_135 rfl (lv_at hl 3 rfl) ?_
  refine lv_iconst hx hb dL_law_136 (v := nI 1) (by decide) ?_
  refine rs_iadd hx hb dL_law_137 (v := nI (i + 1)) (nI_add _ _) ?_
  refine rs_sld hx hb hX hbl hbA hS hL (by omega) dL_law_138 ?_
  refine rs_cVI (rest := [.int r]) (wr := rs_wX aI aJ aL h u.1) (ws' := fun v => rs_wX aI aJ aL h u.1 ++ rs_wN aI aJ aL hm v.1) ⟨hx, hb, hml, hown, hts⟩ (cM _) (cwV 1 hts (rs_gV rw_446 rw_447 rw_448 rw_5 rw_449) rfl rfl rfl (by decide +kernel) ⟨Nat.le_of_ble_eq_true rfl, Nat.le_of_ble_eq_true rfl⟩) hK hN hP hD hS hA [26, 27, 28, 29, 30, 31, 32, 33, 34, 35, 36, 37, 38] [0, 1, 2, 3, 4, 5, 6, 7, 8, 9, 10, 11, 12, 13, 14, 15, 16, 17, 18, 19, 20, 21, 22, 23, 24, 25] [0, 1, 2, 3, 4, 5, 6, 7, 8, 9, 10, 11, 12, 13, 14, 15, 16, 17, 18, 19, 20, 21, 22, 23, 24, 25, 26, 27, 28, 29, 30, 31, 32, 33, 34, 35, 36, 37, 38] (by decide) rfl rfl (fun _ => rfl) 26 rfl rfl hl.1 rfl rfl (Nat.le_of_ble_eq_true rfl) dL_law_139 ⟨Nat.le_of_ble_eq_true rfl, Nat.le_of_ble_eq_true rfl⟩ (fun v H locs hP hD hS => ?_)
  refine lv_icmp_eq hx hb dL_law_142 (tgt := 563) rfl (fun _ => ?_) (fun h9 => absurd rfl h9)
  exact kk H locs ⟨dd', dc', di', ds', es', gs', inn', cs', vf', d', tm', a', u.1, v.1, u.2, v.2, hP, hD⟩ hS
set_option maxHeartbeats 4000000 in
set_option maxRecDepth 100000 in
theorem K_point (hx : p.tables.exec = Jvm.exec) (hb : c.code = code) (hml : c.maxLocals = 4) (hown : s.vm.findClass RL = some m.cls) (hts : ∀ w ∈ rsW, w.before #[Value.ref b] s = true) (hK : va_K D vwCl (rs_tys aI aJ aL) s) (hN : rs_N rs_nw s) (hA : ∀ q, s.heap.size ≤ q → A q) (hX : va_X b L xs s s.heap) (hbl : b < s.heap.size) (hbA : ¬ A b) (hL : L ≤ 2048) (hi : i + 4 ≤ L) (hl : lv_has ls 4 [(0, .ref b), (1, .ref h), (2, .ref hm), (3, .int (nI i))]) (hw : rs_LW D aI aJ aL A h hm H) (hS : va_S A s.heap H locs) (kk : ∀ (H : Heap) (locs : List Loc), rs_LW D aI aJ aL A h hm H → va_S A s.heap H locs → W p l e room_1 s m #[Value.ref b] below meth c H locs 39 2081 Q (F0 m 563 ls [])) : W p l e room_1 s m #[Value.ref b] below meth c H locs 39 2081 Q (F0 m 147 ls []) := by
  obtain ⟨dd, dc, di, ds, es, gs, inn, cs, vf, d, tm, a, x, z, hC, hM, hP, hD⟩ := hw
  obtain ⟨dd', dc', di', ds', es', gs', inn', cs', vf', d', tm', a', r, cC, cM⟩ := O_point (l := l) (D := D) (aI := aI) (aJ := aJ) (aL := aL) (h := h) (hm := hm) hC hM (xs (i + 1)) (xs (i + 2)) (xs (i + 3))
  refine lv_aload_n hx hb dL_law_147 rfl (lv_at hl 1 rfl) ?_
  refine lv_aload_n hx hb dL_law_148 rfl (lv_at hl 0 rfl) ?_
  refine lv_iload_n hx hb dL_law_149 rfl (lv_at hl 3 rfl) ?_
  refine lv_iconst hx hb dL_law_150 (v := nI 1) (by decide) ?_
  refine rs_iadd hx hb dL_law_151 (v := nI (i + 1)) (nI_add _ _) ?_
  refine rs_sld hx hb hX hbl hbA hS hL (by omega) dL_law_152 ?_
  refine lv_aload_n hx hb dL_law_153 rfl (lv_at hl 0 rfl) ?_
  refine lv_iload_n hx hb dL_law_154 rfl (lv_at hl 3 rfl) ?_
  refine lv_iconst hx hb dL_law_155 (v := nI 2) (by decide) ?_
  refine rs_iadd hx hb dL_law_156 (v := nI (i + 2)) (nI_add _ _) ?_
  refine rs_sld hx hb hX hbl hbA hS hL (by omega) dL_law_157 ?_
  refine lv_aload_n hx hb dL_law_158 rfl (lv_at hl 0 rfl) ?_
  refine lv_iload_n hx hb dL_law_159 rfl (lv_at hl 3 rfl) ?_
  refine lv_iconst hx hb dL_law_160 (v := nI 3) (by decide) ?_
  refine rs_iadd hx hb dL_law_161 (v := nI (i + 3)) (nI_add _ _) ?_
  refine rs_sld hx hb hX hbl hbA hS hL (by omega) dL_law_162 ?_
  refine rs_cVI (rest := []) (wr := rs_wN aI aJ aL hm z) (ws' := fun u => rs_wX aI aJ aL h u.1 ++ rs_wN aI aJ aL hm z) ⟨hx, hb, hml, hown, hts⟩ (cC _) (cwV 3 hts (rs_gV rw_141 rw_142 rw_143 rw_1 rw_144) rfl rfl rfl (by decide +kernel) ⟨Nat.le_of_ble_eq_true rfl, Nat.le_of_ble_eq_true rfl⟩) hK hN hP hD hS hA [0, 1, 2, 3, 4, 5, 6, 7, 8, 9, 10, 11, 12, 13, 14, 15, 16, 17, 18, 19, 20, 21, 22, 23, 24, 25] [26, 27, 28, 29, 30, 31, 32, 33, 34, 35, 36, 37, 38] [13, 14, 15, 16, 17, 18, 19, 20, 21, 22, 23, 24, 25, 26, 27, 28, 29, 30, 31, 32, 33, 34, 35, 36, 37, 38, 0, 1, 2, 3, 4, 5, 6, 7, 8, 9, 10, 11, 12] (by decide) rfl rfl (fun _ => rfl) 0 rfl rfl hl.1 rfl rfl (Nat.le_of_ble_eq_true rfl) dL_law_163 ⟨Nat.le_of_ble_eq_true rfl, Nat.le_of_ble_eq_true rfl⟩ (fun u H locs hP hD hS => ?_)
  have hP : va_P D vwCl (rs_wX aI aJ aL h u.1 ++ rs_wN aI aJ aL hm z) H := hP
  have hD : va_D A (rs_wX aI aJ aL h u.1 ++ rs_wN aI aJ aL hm z) := hD
  refine lv_aload_n hx hb dL_law_166 rfl (lv_at hl 2 rfl) ?_
  refine lv_aload_n hx hb dL_law_167 rfl (lv_at hl 0 rfl) ?_
  refine lv_iload_n hx hb dL_law_168 rfl (lv_at hl 3 rfl) ?_
  refine lv_iconst hx hb dL_law_169 (v := nI 1) (by decide) ?_
  refine rs_iadd hx hb dL_law_170 (v := nI (i + 1)) (nI_add _ _) ?_
  refine rs_sld hx hb hX hbl hbA hS hL (by omega) dL_law_171 ?_
  refine lv_aload_n hx hb dL_law_172 rfl (lv_at hl 0 rfl) ?_
  refine lv_iload_n hx hb dL_law_173 rfl (lv_at hl 3 rfl) ?_
  refine lv_iconst hx hb dL_law_174 (v := nI 2) (by decide) ?_
  refine rs_iadd hx hb dL_law_175 (v := nI (i + 2)) (nI_add _ _) ?_
  refine rs_sld hx hb hX hbl hbA hS hL (by omega) dL_law_176 ?_
  refine lv_aload_n hx hb dL_law_177 rfl (lv_at hl 0 rfl) ?_
  refine lv_iload_n hx hb dL_law_178 rfl (lv_at hl 3 rfl) ?_
  refine lv_iconst hx hb dL_law_179 (v := nI 3) (by decide) ?_
  refine rs_iadd hx hb dL_law_180 (v := nI (i + 3)) (nI_add _ _) ?_
  refine rs_sld hx hb hX hbl hbA hS hL (by omega) dL_law_181 ?_
  refine rs_cVI (rest := [.int r]) (wr := rs_wX aI aJ aL h u.1) (ws' := fun v => rs_wX aI aJ aL h u.1 ++ rs_wN aI aJ aL hm v.1) ⟨hx, hb, hml, hown, hts⟩ (cM _) (cwV 3 hts (rs_gV rw_450 rw_451 rw_452 rw_5 rw_453) rfl rfl rfl (by decide +kernel) ⟨Nat.le_of_ble_eq_true rfl, Nat.le_of_ble_eq_true rfl⟩) hK hN hP hD hS hA [26, 27, 28, 29, 30, 31, 32, 33, 34, 35, 36, 37, 38] [0, 1, 2, 3, 4, 5, 6, 7, 8, 9, 10, 11, 12, 13, 14, 15, 16, 17, 18, 19, 20, 21, 22, 23, 24, 25] [0, 1, 2, 3, 4, 5, 6, 7, 8, 9, 10, 11, 12, 13, 14, 15, 16, 17, 18, 19, 20, 21, 22, 23, 24, 25, 26, 27, 28, 29, 30, 31, 32, 33, 34, 35, 36, 37, 38] (by decide) rfl rfl (fun _ => rfl) 26 rfl rfl hl.1 rfl rfl (Nat.le_of_ble_eq_true rfl) dL_law_182 ⟨Nat.le_of_ble_eq_true rfl, Nat.le_of_ble_eq_true rfl⟩ (fun v H locs hP hD hS => ?_)
  refine lv_icmp_eq hx hb dL_law_185 (tgt := 563) rfl (fun _ => ?_) (fun h9 => absurd rfl h9)
  exact kk H locs ⟨dd', dc', di', ds', es', gs', inn', cs', vf', d', tm', a', u.1, v.1, u.2, v.2, hP, hD⟩ hS
set_option maxHeartbeats 4000000 in
set_option maxRecDepth 100000 in
theorem K_knot (hx : p.tables.exec = Jvm.exec) (hb : c.code = code) (hml : c.maxLocals = 4) (hown : s.vm.findClass RL = some m.cls) (hts : ∀ w ∈ rsW, w.before #[Value.ref b] s = true) (hK : va_K D vwCl (rs_tys aI aJ aL) s) (hN : rs_N rs_nw s) (hA : ∀ q, s.heap.size ≤ q → A q) (hX : va_X b L xs s s.heap) (hbl : b < s.heap.size) (hbA : ¬ A b) (hL : L ≤ 2048) (hi : i + 4 ≤ L) (hl : lv_has ls 4 [(0, .ref b), (1, .ref h), (2, .ref hm), (3, .int (nI i))]) (hw : rs_LW D aI aJ aL A h hm H) (hS : va_S A s.heap H locs) (kk : ∀ (H : Heap) (locs : List Loc), rs_LW D aI aJ aL A h hm H → va_S A s.heap H locs → W p l e room_1 s m #[Value.ref b] below meth c H locs 39 2081 Q (F0 m 563 ls [])) : W p l e room_1 s m #[Value.ref b] below meth c H locs 39 2081 Q (F0 m 190 ls []) := by
  obtain ⟨dd, dc, di, ds, es, gs, inn, cs, vf, d, tm, a, x, z, hC, hM, hP, hD⟩ := hw
  obtain ⟨dd', dc', di', ds', es', gs', inn', cs', vf', d', tm', a', r, cC, cM⟩ := O_knot (l := l) (D := D) (aI := aI) (aJ := aJ) (aL := aL) (h := h) (hm := hm) hC hM (xs (i + 1))
  refine lv_aload_n hx hb dL_law_190 rfl (lv_at hl 1 rfl) ?_
  refine lv_aload_n hx hb dL_law_191 rfl (lv_at hl 0 rfl) ?_
  refine lv_iload_n hx hb dL_law_192 rfl (lv_at hl 3 rfl) ?_
  refine lv_iconst hx hb dL_law_193 (v := nI 1) (by decide) ?_
  refine rs_iadd hx hb dL_law_194 (v := nI (i + 1)) (nI_add _ _) ?_
  refine rs_sld hx hb hX hbl hbA hS hL (by omega) dL_law_195 ?_
  refine rs_cVI (rest := []) (wr := rs_wN aI aJ aL hm z) (ws' := fun u => rs_wX aI aJ aL h u.1 ++ rs_wN aI aJ aL hm z) ⟨hx, hb, hml, hown, hts⟩ (cC _) (cwV 1 hts (rs_gV rw_152 rw_153 rw_154 rw_1 rw_155) rfl rfl rfl (by decide +kernel) ⟨Nat.le_of_ble_eq_true rfl, Nat.le_of_ble_eq_true rfl⟩) hK hN hP hD hS hA [0, 1, 2, 3, 4, 5, 6, 7, 8, 9, 10, 11, 12, 13, 14, 15, 16, 17, 18, 19, 20, 21, 22, 23, 24, 25] [26, 27, 28, 29, 30, 31, 32, 33, 34, 35, 36, 37, 38] [13, 14, 15, 16, 17, 18, 19, 20, 21, 22, 23, 24, 25, 26, 27, 28, 29, 30, 31, 32, 33, 34, 35, 36, 37, 38, 0, 1, 2, 3, 4, 5, 6, 7, 8, 9, 10, 11, 12] (by decide) rfl rfl (fun _ => rfl) 0 rfl rfl hl.1 rfl rfl (Nat.le_of_ble_eq_true rfl) dL_law_196 ⟨Nat.le_of_ble_eq_true rfl, Nat.le_of_ble_eq_true rfl⟩ (fun u H locs hP hD hS => ?_)
  have hP : va_P D vwCl (rs_wX aI aJ aL h u.1 ++ rs_wN aI aJ aL hm z) H := hP
  have hD : va_D A (rs_wX aI aJ aL h u.1 ++ rs_wN aI aJ aL hm z) := hD
  refine lv_aload_n hx hb dL_law_199 rfl (lv_at hl 2 rfl) ?_
  refine lv_aload_n hx hb dL_law_200 rfl (lv_at hl 0 rfl) ?_
  refine lv_iload_n hx hb dL_law_201 rfl (lv_at hl 3 rfl) ?_
  refine lv_iconst hx hb dL_law_202 (v := nI 1) (by decide) ?_
  refine rs_iadd hx hb dL_law_203 (v := nI (i + 1)) (nI_add _ _) ?_
  refine rs_sld hx hb hX hbl hbA hS hL (by omega) dL_law_204 ?_
  refine rs_cVI (rest := [.int r]) (wr := rs_wX aI aJ aL h u.1) (ws' := fun v => rs_wX aI aJ aL h u.1 ++ rs_wN aI aJ aL hm v.1) ⟨hx, hb, hml, hown, hts⟩ (cM _) (cwV 1 hts (rs_gV rw_454 rw_455 rw_456 rw_5 rw_457) rfl rfl rfl (by decide +kernel) ⟨Nat.le_of_ble_eq_true rfl, Nat.le_of_ble_eq_true rfl⟩) hK hN hP hD hS hA [26, 27, 28, 29, 30, 31, 32, 33, 34, 35, 36, 37, 38] [0, 1, 2, 3, 4, 5, 6, 7, 8, 9, 10, 11, 12, 13, 14, 15, 16, 17, 18, 19, 20, 21, 22, 23, 24, 25] [0, 1, 2, 3, 4, 5, 6, 7, 8, 9, 10, 11, 12, 13, 14, 15, 16, 17, 18, 19, 20, 21, 22, 23, 24, 25, 26, 27, 28, 29, 30, 31, 32, 33, 34, 35, 36, 37, 38] (by decide) rfl rfl (fun _ => rfl) 26 rfl rfl hl.1 rfl rfl (Nat.le_of_ble_eq_true rfl) dL_law_205 ⟨Nat.le_of_ble_eq_true rfl, Nat.le_of_ble_eq_true rfl⟩ (fun v H locs hP hD hS => ?_)
  refine lv_icmp_eq hx hb dL_law_208 (tgt := 563) rfl (fun _ => ?_) (fun h9 => absurd rfl h9)
  exact kk H locs ⟨dd', dc', di', ds', es', gs', inn', cs', vf', d', tm', a', u.1, v.1, u.2, v.2, hP, hD⟩ hS
set_option maxHeartbeats 4000000 in
set_option maxRecDepth 100000 in
theorem K_finish (hx : p.tables.exec = Jvm.exec) (hb : c.code = code) (hml : c.maxLocals = 4) (hown : s.vm.findClass RL = some m.cls) (hts : ∀ w ∈ rsW, w.before #[Value.ref b] s = true) (hK : va_K D vwCl (rs_tys aI aJ aL) s) (hN : rs_N rs_nw s) (hA : ∀ q, s.heap.size ≤ q → A q) (hX : va_X b L xs s s.heap) (hbl : b < s.heap.size) (hbA : ¬ A b) (hL : L ≤ 2048) (hi : i + 4 ≤ L) (hl : lv_has ls 4 [(0, .ref b), (1, .ref h), (2, .ref hm), (3, .int (nI i))]) (hw : rs_LW D aI aJ aL A h hm H) (hS : va_S A s.heap H locs) (kk : ∀ (H : Heap) (locs : List Loc), rs_LW D aI aJ aL A h hm H → va_S A s.heap H locs → W p l e room_1 s m #[Value.ref b] below meth c H locs 39 2081 Q (F0 m 563 ls [])) : W p l e room_1 s m #[Value.ref b] below meth c H locs 39 2081 Q (F0 m 213 ls []) := by
  obtain ⟨dd, dc, di, ds, es, gs, inn, cs, vf, d, tm, a, x, z, hC, hM, hP, hD⟩ := hw
  obtain ⟨dd', dc', di', ds', es', gs', inn', cs', vf', d', tm', a', r, cC, cM⟩ := O_finish (l := l) (D := D) (aI := aI) (aJ := aJ) (aL := aL) (h := h) (hm := hm) hC hM 
  refine lv_aload_n hx hb dL_law_213 rfl (lv_at hl 1 rfl) ?_
  refine rs_cVI (rest := []) (wr := rs_wN aI aJ aL hm z) (ws' := fun u => rs_wX aI aJ aL h u.1 ++ rs_wN aI aJ aL hm z) ⟨hx, hb, hml, hown, hts⟩ (cC _) (cwV 0 hts (rs_gV rw_163 rw_164 rw_165 rw_1 rw_166) rfl rfl rfl (by decide +kernel) ⟨Nat.le_of_ble_eq_true rfl, Nat.le_of_ble_eq_true rfl⟩) hK hN hP hD hS hA [0, 1, 2, 3, 4, 5, 6, 7, 8, 9, 10, 11, 12, 13, 14, 15, 16, 17, 18, 19, 20, 21, 22, 23, 24, 25] [26, 27, 28, 29, 30, 31, 32, 33, 34, 35, 36, 37, 38] [13, 14, 15, 16, 17, 18, 19, 20, 21, 22, 23, 24, 25, 26, 27, 28, 29, 30, 31, 32, 33, 34, 35, 36, 37, 38, 0, 1, 2, 3, 4, 5, 6, 7, 8, 9, 10, 11, 12] (by decide) rfl rfl (fun _ => rfl) 0 rfl rfl hl.1 rfl rfl (Nat.le_of_ble_eq_true rfl) dL_law_214 ⟨Nat.le_of_ble_eq_true rfl, Nat.le_of_ble_eq_true rfl⟩ (fun u H locs hP hD hS => ?_)
  have hP : va_P D vwCl (rs_wX aI aJ aL h u.1 ++ rs_wN aI aJ aL hm z) H := hP
  have hD : va_D A (rs_wX aI aJ aL h u.1 ++ rs_wN aI aJ aL hm z) := hD
  refine lv_aload_n hx hb dL_law_217 rfl (lv_at hl 2 rfl) ?_
  refine rs_cVI (rest := [.int r]) (wr := rs_wX aI aJ aL h u.1) (ws' := fun v => rs_wX aI aJ aL h u.1 ++ rs_wN aI aJ aL hm v.1) ⟨hx, hb, hml, hown, hts⟩ (cM _) (cwV 0 hts (rs_gV rw_458 rw_459 rw_460 rw_5 rw_461) rfl rfl rfl (by decide +kernel) ⟨Nat.le_of_ble_eq_true rfl, Nat.le_of_ble_eq_true rfl⟩) hK hN hP hD hS hA [26, 27, 28, 29, 30, 31, 32, 33, 34, 35, 36, 37, 38] [0, 1, 2, 3, 4, 5, 6, 7, 8, 9, 10, 11, 12, 13, 14, 15, 16, 17, 18, 19, 20, 21, 22, 23, 24, 25] [0, 1, 2, 3, 4, 5, 6, 7, 8, 9, 10, 11, 12, 13, 14, 15, 16, 17, 18, 19, 20, 21, 22, 23, 24, 25, 26, 27, 28, 29, 30, 31, 32, 33, 34, 35, 36, 37, 38] (by decide) rfl rfl (fun _ => rfl) 26 rfl rfl hl.1 rfl rfl (Nat.le_of_ble_eq_true rfl) dL_law_218 ⟨Nat.le_of_ble_eq_true rfl, Nat.le_of_ble_eq_true rfl⟩ (fun v H locs hP hD hS => ?_)
  refine lv_icmp_eq hx hb dL_law_221 (tgt := 563) rfl (fun _ => ?_) (fun h9 => absurd rfl h9)
  exact kk H locs ⟨dd', dc', di', ds', es', gs', inn', cs', vf', d', tm', a', u.1, v.1, u.2, v.2, hP, hD⟩ hS
set_option maxHeartbeats 4000000 in
set_option maxRecDepth 100000 in
theorem K_insert (hx : p.tables.exec = Jvm.exec) (hb : c.code = code) (hml : c.maxLocals = 4) (hown : s.vm.findClass RL = some m.cls) (hts : ∀ w ∈ rsW, w.before #[Value.ref b] s = true) (hK : va_K D vwCl (rs_tys aI aJ aL) s) (hN : rs_N rs_nw s) (hA : ∀ q, s.heap.size ≤ q → A q) (hX : va_X b L xs s s.heap) (hbl : b < s.heap.size) (hbA : ¬ A b) (hL : L ≤ 2048) (hi : i + 4 ≤ L) (hl : lv_has ls 4 [(0, .ref b), (1, .ref h), (2, .ref hm), (3, .int (nI i))]) (hw : rs_LW D aI aJ aL A h hm H) (hS : va_S A s.heap H locs) (kk : ∀ (H : Heap) (locs : List Loc), rs_LW D aI aJ aL A h hm H → va_S A s.heap H locs → W p l e room_1 s m #[Value.ref b] below meth c H locs 39 2081 Q (F0 m 563 ls [])) : W p l e room_1 s m #[Value.ref b] below meth c H locs 39 2081 Q (F0 m 226 ls []) := by
  obtain ⟨dd, dc, di, ds, es, gs, inn, cs, vf, d, tm, a, x, z, hC, hM, hP, hD⟩ := hw
  obtain ⟨dd', dc', di', ds', es', gs', inn', cs', vf', d', tm', a', r, cC, cM⟩ := O_insert (l := l) (D := D) (aI := aI) (aJ := aJ) (aL := aL) (h := h) (hm := hm) hC hM (xs (i + 1))
  refine lv_aload_n hx hb dL_law_226 rfl (lv_at hl 1 rfl) ?_
  refine lv_aload_n hx hb dL_law_227 rfl (lv_at hl 0 rfl) ?_
  refine lv_iload_n hx hb dL_law_228 rfl (lv_at hl 3 rfl) ?_
  refine lv_iconst hx hb dL_law_229 (v := nI 1) (by decide) ?_
  refine rs_iadd hx hb dL_law_230 (v := nI (i + 1)) (nI_add _ _) ?_
  refine rs_sld hx hb hX hbl hbA hS hL (by omega) dL_law_231 ?_
  refine rs_cVI (rest := []) (wr := rs_wN aI aJ aL hm z) (ws' := fun u => rs_wX aI aJ aL h u.1 ++ rs_wN aI aJ aL hm z) ⟨hx, hb, hml, hown, hts⟩ (cC _) (cwV 1 hts (rs_gV rw_184 rw_185 rw_186 rw_1 rw_187) rfl rfl rfl (by decide +kernel) ⟨Nat.le_of_ble_eq_true rfl, Nat.le_of_ble_eq_true rfl⟩) hK hN hP hD hS hA [0, 1, 2, 3, 4, 5, 6, 7, 8, 9, 10, 11, 12, 13, 14, 15, 16, 17, 18, 19, 20, 21, 22, 23, 24, 25] [26, 27, 28, 29, 30, 31, 32, 33, 34, 35, 36, 37, 38] [13, 14, 15, 16, 17, 18, 19, 20, 21, 22, 23, 24, 25, 26, 27, 28, 29, 30, 31, 32, 33, 34, 35, 36, 37, 38, 0, 1, 2, 3, 4, 5, 6, 7, 8, 9, 10, 11, 12] (by decide) rfl rfl (fun _ => rfl) 0 rfl rfl hl.1 rfl rfl (Nat.le_of_ble_eq_true rfl) dL_law_232 ⟨Nat.le_of_ble_eq_true rfl, Nat.le_of_ble_eq_true rfl⟩ (fun u H locs hP hD hS => ?_)
  have hP : va_P D vwCl (rs_wX aI aJ aL h u.1 ++ rs_wN aI aJ aL hm z) H := hP
  have hD : va_D A (rs_wX aI aJ aL h u.1 ++ rs_wN aI aJ aL hm z) := hD
  refine lv_aload_n hx hb dL_law_235 rfl (lv_at hl 2 rfl) ?_
  refine lv_aload_n hx hb dL_law_236 rfl (lv_at hl 0 rfl) ?_
  refine lv_iload_n hx hb dL_law_237 rfl (lv_at hl 3 rfl) ?_
  refine lv_iconst hx hb dL_law_238 (v := nI 1) (by decide) ?_
  refine rs_iadd hx hb dL_law_239 (v := nI (i + 1)) (nI_add _ _) ?_
  refine rs_sld hx hb hX hbl hbA hS hL (by omega) dL_law_240 ?_
  refine rs_cVI (rest := [.int r]) (wr := rs_wX aI aJ aL h u.1) (ws' := fun v => rs_wX aI aJ aL h u.1 ++ rs_wN aI aJ aL hm v.1) ⟨hx, hb, hml, hown, hts⟩ (cM _) (cwV 1 hts (rs_gV rw_484 rw_485 rw_486 rw_5 rw_487) rfl rfl rfl (by decide +kernel) ⟨Nat.le_of_ble_eq_true rfl, Nat.le_of_ble_eq_true rfl⟩) hK hN hP hD hS hA [26, 27, 28, 29, 30, 31, 32, 33, 34, 35, 36, 37, 38] [0, 1, 2, 3, 4, 5, 6, 7, 8, 9, 10, 11, 12, 13, 14, 15, 16, 17, 18, 19, 20, 21, 22, 23, 24, 25] [0, 1, 2, 3, 4, 5, 6, 7, 8, 9, 10, 11, 12, 13, 14, 15, 16, 17, 18, 19, 20, 21, 22, 23, 24, 25, 26, 27, 28, 29, 30, 31, 32, 33, 34, 35, 36, 37, 38] (by decide) rfl rfl (fun _ => rfl) 26 rfl rfl hl.1 rfl rfl (Nat.le_of_ble_eq_true rfl) dL_law_241 ⟨Nat.le_of_ble_eq_true rfl, Nat.le_of_ble_eq_true rfl⟩ (fun v H locs hP hD hS => ?_)
  refine lv_icmp_eq hx hb dL_law_244 (tgt := 563) rfl (fun _ => ?_) (fun h9 => absurd rfl h9)
  exact kk H locs ⟨dd', dc', di', ds', es', gs', inn', cs', vf', d', tm', a', u.1, v.1, u.2, v.2, hP, hD⟩ hS
set_option maxHeartbeats 4000000 in
set_option maxRecDepth 100000 in
theorem K_remove (hx : p.tables.exec = Jvm.exec) (hb : c.code = code) (hml : c.maxLocals = 4) (hown : s.vm.findClass RL = some m.cls) (hts : ∀ w ∈ rsW, w.before #[Value.ref b] s = true) (hK : va_K D vwCl (rs_tys aI aJ aL) s) (hN : rs_N rs_nw s) (hA : ∀ q, s.heap.size ≤ q → A q) (hX : va_X b L xs s s.heap) (hbl : b < s.heap.size) (hbA : ¬ A b) (hL : L ≤ 2048) (hi : i + 4 ≤ L) (hl : lv_has ls 4 [(0, .ref b), (1, .ref h), (2, .ref hm), (3, .int (nI i))]) (hw : rs_LW D aI aJ aL A h hm H) (hS : va_S A s.heap H locs) (kk : ∀ (H : Heap) (locs : List Loc), rs_LW D aI aJ aL A h hm H → va_S A s.heap H locs → W p l e room_1 s m #[Value.ref b] below meth c H locs 39 2081 Q (F0 m 563 ls [])) : W p l e room_1 s m #[Value.ref b] below meth c H locs 39 2081 Q (F0 m 249 ls []) := by
  obtain ⟨dd, dc, di, ds, es, gs, inn, cs, vf, d, tm, a, x, z, hC, hM, hP, hD⟩ := hw
  obtain ⟨dd', dc', di', ds', es', gs', inn', cs', vf', d', tm', a', r, cC, cM⟩ := O_remove (l := l) (D := D) (aI := aI) (aJ := aJ) (aL := aL) (h := h) (hm := hm) hC hM (xs (i + 1))
  refine lv_aload_n hx hb dL_law_249 rfl (lv_at hl 1 rfl) ?_
  refine lv_aload_n hx hb dL_law_250 rfl (lv_at hl 0 rfl) ?_
  refine lv_iload_n hx hb dL_law_251 rfl (lv_at hl 3 rfl) ?_
  refine lv_iconst hx hb dL_law_252 (v := nI 1) (by decide) ?_
  refine rs_iadd hx hb dL_law_253 (v := nI (i + 1)) (nI_add _ _) ?_
  refine rs_sld hx hb hX hbl hbA hS hL (by omega) dL_law_254 ?_
  refine rs_cVI (rest := []) (wr := rs_wN aI aJ aL hm z) (ws' := fun u => rs_wX aI aJ aL h u.1 ++ rs_wN aI aJ aL hm z) ⟨hx, hb, hml, hown, hts⟩ (cC _) (cwV 1 hts (rs_gV rw_242 rw_243 rw_244 rw_1 rw_245) rfl rfl rfl (by decide +kernel) ⟨Nat.le_of_ble_eq_true rfl, Nat.le_of_ble_eq_true rfl⟩) hK hN hP hD hS hA [0, 1, 2, 3, 4, 5, 6, 7, 8, 9, 10, 11, 12, 13, 14, 15, 16, 17, 18, 19, 20, 21, 22, 23, 24, 25] [26, 27, 28, 29, 30, 31, 32, 33, 34, 35, 36, 37, 38] [13, 14, 15, 16, 17, 18, 19, 20, 21, 22, 23, 24, 25, 26, 27, 28, 29, 30, 31, 32, 33, 34, 35, 36, 37, 38, 0, 1, 2, 3, 4, 5, 6, 7, 8, 9, 10, 11, 12] (by decide) rfl rfl (fun _ => rfl) 0 rfl rfl hl.1 rfl rfl (Nat.le_of_ble_eq_true rfl) dL_law_255 ⟨Nat.le_of_ble_eq_true rfl, Nat.le_of_ble_eq_true rfl⟩ (fun u H locs hP hD hS => ?_)
  have hP : va_P D vwCl (rs_wX aI aJ aL h u.1 ++ rs_wN aI aJ aL hm z) H := hP
  have hD : va_D A (rs_wX aI aJ aL h u.1 ++ rs_wN aI aJ aL hm z) := hD
  refine lv_aload_n hx hb dL_law_258 rfl (lv_at hl 2 rfl) ?_
  refine lv_aload_n hx hb dL_law_259 rfl (lv_at hl 0 rfl) ?_
  refine lv_iload_n hx hb dL_law_260 rfl (lv_at hl 3 rfl) ?_
  refine lv_iconst hx hb dL_law_261 (v := nI 1) (by decide) ?_
  refine rs_iadd hx hb dL_law_262 (v := nI (i + 1)) (nI_add _ _) ?_
  refine rs_sld hx hb hX hbl hbA hS hL (by omega) dL_law_263 ?_
  refine rs_cVI (rest := [.int r]) (wr := rs_wX aI aJ aL h u.1) (ws' := fun v => rs_wX aI aJ aL h u.1 ++ rs_wN aI aJ aL hm v.1) ⟨hx, hb, hml, hown, hts⟩ (cM _) (cwV 1 hts (rs_gV rw_488 rw_489 rw_490 rw_5 rw_491) rfl rfl rfl (by decide +kernel) ⟨Nat.le_of_ble_eq_true rfl, Nat.le_of_ble_eq_true rfl⟩) hK hN hP hD hS hA [26, 27, 28, 29, 30, 31, 32, 33, 34, 35, 36, 37, 38] [0, 1, 2, 3, 4, 5, 6, 7, 8, 9, 10, 11, 12, 13, 14, 15, 16, 17, 18, 19, 20, 21, 22, 23, 24, 25] [0, 1, 2, 3, 4, 5, 6, 7, 8, 9, 10, 11, 12, 13, 14, 15, 16, 17, 18, 19, 20, 21, 22, 23, 24, 25, 26, 27, 28, 29, 30, 31, 32, 33, 34, 35, 36, 37, 38] (by decide) rfl rfl (fun _ => rfl) 26 rfl rfl hl.1 rfl rfl (Nat.le_of_ble_eq_true rfl) dL_law_264 ⟨Nat.le_of_ble_eq_true rfl, Nat.le_of_ble_eq_true rfl⟩ (fun v H locs hP hD hS => ?_)
  refine lv_icmp_eq hx hb dL_law_267 (tgt := 563) rfl (fun _ => ?_) (fun h9 => absurd rfl h9)
  exact kk H locs ⟨dd', dc', di', ds', es', gs', inn', cs', vf', d', tm', a', u.1, v.1, u.2, v.2, hP, hD⟩ hS
set_option maxHeartbeats 4000000 in
set_option maxRecDepth 100000 in
theorem K_decompose (hx : p.tables.exec = Jvm.exec) (hb : c.code = code) (hml : c.maxLocals = 4) (hown : s.vm.findClass RL = some m.cls) (hts : ∀ w ∈ rsW, w.before #[Value.ref b] s = true) (hK : va_K D vwCl (rs_tys aI aJ aL) s) (hN : rs_N rs_nw s) (hA : ∀ q, s.heap.size ≤ q → A q) (hX : va_X b L xs s s.heap) (hbl : b < s.heap.size) (hbA : ¬ A b) (hL : L ≤ 2048) (hi : i + 4 ≤ L) (hl : lv_has ls 4 [(0, .ref b), (1, .ref h), (2, .ref hm), (3, .int (nI i))]) (hw : rs_LW D aI aJ aL A h hm H) (hS : va_S A s.heap H locs) (kk : ∀ (H : Heap) (locs : List Loc), rs_LW D aI aJ aL A h hm H → va_S A s.heap H locs → W p l e room_1 s m #[Value.ref b] below meth c H locs 39 2081 Q (F0 m 563 ls [])) : W p l e room_1 s m #[Value.ref b] below meth c H locs 39 2081 Q (F0 m 272 ls []) := by
  obtain ⟨dd, dc, di, ds, es, gs, inn, cs, vf, d, tm, a, x, z, hC, hM, hP, hD⟩ := hw
  obtain ⟨dd', dc', di', ds', es', gs', inn', cs', vf', d', tm', a', r, cC, cM⟩ := O_decompose (l := l) (D := D) (aI := aI) (aJ := aJ) (aL := aL) (h := h) (hm := hm) hC hM 
  refine lv_aload_n hx hb dL_law_272 rfl (lv_at hl 1 rfl) ?_
  refine rs_cVI (rest := []) (wr := rs_wN aI aJ aL hm z) (ws' := fun u => rs_wX aI aJ aL h u.1 ++ rs_wN aI aJ aL hm z) ⟨hx, hb, hml, hown, hts⟩ (cC _) (cwV 0 hts (rs_gV rw_266 rw_267 rw_268 rw_1 rw_269) rfl rfl rfl (by decide +kernel) ⟨Nat.le_of_ble_eq_true rfl, Nat.le_of_ble_eq_true rfl⟩) hK hN hP hD hS hA [0, 1, 2, 3, 4, 5, 6, 7, 8, 9, 10, 11, 12, 13, 14, 15, 16, 17, 18, 19, 20, 21, 22, 23, 24, 25] [26, 27, 28, 29, 30, 31, 32, 33, 34, 35, 36, 37, 38] [13, 14, 15, 16, 17, 18, 19, 20, 21, 22, 23, 24, 25, 26, 27, 28, 29, 30, 31, 32, 33, 34, 35, 36, 37, 38, 0, 1, 2, 3, 4, 5, 6, 7, 8, 9, 10, 11, 12] (by decide) rfl rfl (fun _ => rfl) 0 rfl rfl hl.1 rfl rfl (Nat.le_of_ble_eq_true rfl) dL_law_273 ⟨Nat.le_of_ble_eq_true rfl, Nat.le_of_ble_eq_true rfl⟩ (fun u H locs hP hD hS => ?_)
  have hP : va_P D vwCl (rs_wX aI aJ aL h u.1 ++ rs_wN aI aJ aL hm z) H := hP
  have hD : va_D A (rs_wX aI aJ aL h u.1 ++ rs_wN aI aJ aL hm z) := hD
  refine lv_aload_n hx hb dL_law_276 rfl (lv_at hl 2 rfl) ?_
  refine rs_cVI (rest := [.int r]) (wr := rs_wX aI aJ aL h u.1) (ws' := fun v => rs_wX aI aJ aL h u.1 ++ rs_wN aI aJ aL hm v.1) ⟨hx, hb, hml, hown, hts⟩ (cM _) (cwV 0 hts (rs_gV rw_509 rw_510 rw_511 rw_5 rw_512) rfl rfl rfl (by decide +kernel) ⟨Nat.le_of_ble_eq_true rfl, Nat.le_of_ble_eq_true rfl⟩) hK hN hP hD hS hA [26, 27, 28, 29, 30, 31, 32, 33, 34, 35, 36, 37, 38] [0, 1, 2, 3, 4, 5, 6, 7, 8, 9, 10, 11, 12, 13, 14, 15, 16, 17, 18, 19, 20, 21, 22, 23, 24, 25] [0, 1, 2, 3, 4, 5, 6, 7, 8, 9, 10, 11, 12, 13, 14, 15, 16, 17, 18, 19, 20, 21, 22, 23, 24, 25, 26, 27, 28, 29, 30, 31, 32, 33, 34, 35, 36, 37, 38] (by decide) rfl rfl (fun _ => rfl) 26 rfl rfl hl.1 rfl rfl (Nat.le_of_ble_eq_true rfl) dL_law_277 ⟨Nat.le_of_ble_eq_true rfl, Nat.le_of_ble_eq_true rfl⟩ (fun v H locs hP hD hS => ?_)
  refine lv_icmp_eq hx hb dL_law_280 (tgt := 563) rfl (fun _ => ?_) (fun h9 => absurd rfl h9)
  exact kk H locs ⟨dd', dc', di', ds', es', gs', inn', cs', vf', d', tm', a', u.1, v.1, u.2, v.2, hP, hD⟩ hS
set_option maxHeartbeats 4000000 in
set_option maxRecDepth 100000 in
theorem K_thin (hx : p.tables.exec = Jvm.exec) (hb : c.code = code) (hml : c.maxLocals = 4) (hown : s.vm.findClass RL = some m.cls) (hts : ∀ w ∈ rsW, w.before #[Value.ref b] s = true) (hK : va_K D vwCl (rs_tys aI aJ aL) s) (hN : rs_N rs_nw s) (hA : ∀ q, s.heap.size ≤ q → A q) (hX : va_X b L xs s s.heap) (hbl : b < s.heap.size) (hbA : ¬ A b) (hL : L ≤ 2048) (hi : i + 4 ≤ L) (hl : lv_has ls 4 [(0, .ref b), (1, .ref h), (2, .ref hm), (3, .int (nI i))]) (hw : rs_LW D aI aJ aL A h hm H) (hS : va_S A s.heap H locs) (kk : ∀ (H : Heap) (locs : List Loc), rs_LW D aI aJ aL A h hm H → va_S A s.heap H locs → W p l e room_1 s m #[Value.ref b] below meth c H locs 39 2081 Q (F0 m 563 ls [])) : W p l e room_1 s m #[Value.ref b] below meth c H locs 39 2081 Q (F0 m 285 ls []) := by
  obtain ⟨dd, dc, di, ds, es, gs, inn, cs, vf, d, tm, a, x, z, hC, hM, hP, hD⟩ := hw
  obtain ⟨dd', dc', di', ds', es', gs', inn', cs', vf', d', tm', a', r, cC, cM⟩ := O_thin (l := l) (D := D) (aI := aI) (aJ := aJ) (aL := aL) (h := h) (hm := hm) hC hM 
  refine lv_aload_n hx hb dL_law_285 rfl (lv_at hl 1 rfl) ?_
  refine rs_cVI (rest := []) (wr := rs_wN aI aJ aL hm z) (ws' := fun u => rs_wX aI aJ aL h u.1 ++ rs_wN aI aJ aL hm z) ⟨hx, hb, hml, hown, hts⟩ (cC _) (cwV 0 hts (rs_gV rw_270 rw_271 rw_272 rw_1 rw_273) rfl rfl rfl (by decide +kernel) ⟨Nat.le_of_ble_eq_true rfl, Nat.le_of_ble_eq_true rfl⟩) hK hN hP hD hS hA [0, 1, 2, 3, 4, 5, 6, 7, 8, 9, 10, 11, 12, 13, 14, 15, 16, 17, 18, 19, 20, 21, 22, 23, 24, 25] [26, 27, 28, 29, 30, 31, 32, 33, 34, 35, 36, 37, 38] [13, 14, 15, 16, 17, 18, 19, 20, 21, 22, 23, 24, 25, 26, 27, 28, 29, 30, 31, 32, 33, 34, 35, 36, 37, 38, 0, 1, 2, 3, 4, 5, 6, 7, 8, 9, 10, 11, 12] (by decide) rfl rfl (fun _ => rfl) 0 rfl rfl hl.1 rfl rfl (Nat.le_of_ble_eq_true rfl) dL_law_286 ⟨Nat.le_of_ble_eq_true rfl, Nat.le_of_ble_eq_true rfl⟩ (fun u H locs hP hD hS => ?_)
  have hP : va_P D vwCl (rs_wX aI aJ aL h u.1 ++ rs_wN aI aJ aL hm z) H := hP
  have hD : va_D A (rs_wX aI aJ aL h u.1 ++ rs_wN aI aJ aL hm z) := hD
  refine lv_aload_n hx hb dL_law_289 rfl (lv_at hl 2 rfl) ?_
  refine rs_cVI (rest := [.int r]) (wr := rs_wX aI aJ aL h u.1) (ws' := fun v => rs_wX aI aJ aL h u.1 ++ rs_wN aI aJ aL hm v.1) ⟨hx, hb, hml, hown, hts⟩ (cM _) (cwV 0 hts (rs_gV rw_513 rw_514 rw_515 rw_5 rw_516) rfl rfl rfl (by decide +kernel) ⟨Nat.le_of_ble_eq_true rfl, Nat.le_of_ble_eq_true rfl⟩) hK hN hP hD hS hA [26, 27, 28, 29, 30, 31, 32, 33, 34, 35, 36, 37, 38] [0, 1, 2, 3, 4, 5, 6, 7, 8, 9, 10, 11, 12, 13, 14, 15, 16, 17, 18, 19, 20, 21, 22, 23, 24, 25] [0, 1, 2, 3, 4, 5, 6, 7, 8, 9, 10, 11, 12, 13, 14, 15, 16, 17, 18, 19, 20, 21, 22, 23, 24, 25, 26, 27, 28, 29, 30, 31, 32, 33, 34, 35, 36, 37, 38] (by decide) rfl rfl (fun _ => rfl) 26 rfl rfl hl.1 rfl rfl (Nat.le_of_ble_eq_true rfl) dL_law_290 ⟨Nat.le_of_ble_eq_true rfl, Nat.le_of_ble_eq_true rfl⟩ (fun v H locs hP hD hS => ?_)
  refine lv_icmp_eq hx hb dL_law_293 (tgt := 563) rfl (fun _ => ?_) (fun h9 => absurd rfl h9)
  exact kk H locs ⟨dd', dc', di', ds', es', gs', inn', cs', vf', d', tm', a', u.1, v.1, u.2, v.2, hP, hD⟩ hS
set_option maxHeartbeats 4000000 in
set_option maxRecDepth 100000 in
theorem K_elevate (hx : p.tables.exec = Jvm.exec) (hb : c.code = code) (hml : c.maxLocals = 4) (hown : s.vm.findClass RL = some m.cls) (hts : ∀ w ∈ rsW, w.before #[Value.ref b] s = true) (hK : va_K D vwCl (rs_tys aI aJ aL) s) (hN : rs_N rs_nw s) (hA : ∀ q, s.heap.size ≤ q → A q) (hX : va_X b L xs s s.heap) (hbl : b < s.heap.size) (hbA : ¬ A b) (hL : L ≤ 2048) (hi : i + 4 ≤ L) (hl : lv_has ls 4 [(0, .ref b), (1, .ref h), (2, .ref hm), (3, .int (nI i))]) (hw : rs_LW D aI aJ aL A h hm H) (hS : va_S A s.heap H locs) (kk : ∀ (H : Heap) (locs : List Loc), rs_LW D aI aJ aL A h hm H → va_S A s.heap H locs → W p l e room_1 s m #[Value.ref b] below meth c H locs 39 2081 Q (F0 m 563 ls [])) : W p l e room_1 s m #[Value.ref b] below meth c H locs 39 2081 Q (F0 m 298 ls []) := by
  obtain ⟨dd, dc, di, ds, es, gs, inn, cs, vf, d, tm, a, x, z, hC, hM, hP, hD⟩ := hw
  obtain ⟨dd', dc', di', ds', es', gs', inn', cs', vf', d', tm', a', r, cC, cM⟩ := O_elevate (l := l) (D := D) (aI := aI) (aJ := aJ) (aL := aL) (h := h) (hm := hm) hC hM 
  refine lv_aload_n hx hb dL_law_298 rfl (lv_at hl 1 rfl) ?_
  refine rs_cVI (rest := []) (wr := rs_wN aI aJ aL hm z) (ws' := fun u => rs_wX aI aJ aL h u.1 ++ rs_wN aI aJ aL hm z) ⟨hx, hb, hml, hown, hts⟩ (cC _) (cwV 0 hts (rs_gV rw_274 rw_275 rw_276 rw_1 rw_277) rfl rfl rfl (by decide +kernel) ⟨Nat.le_of_ble_eq_true rfl, Nat.le_of_ble_eq_true rfl⟩) hK hN hP hD hS hA [0, 1, 2, 3, 4, 5, 6, 7, 8, 9, 10, 11, 12, 13, 14, 15, 16, 17, 18, 19, 20, 21, 22, 23, 24, 25] [26, 27, 28, 29, 30, 31, 32, 33, 34, 35, 36, 37, 38] [13, 14, 15, 16, 17, 18, 19, 20, 21, 22, 23, 24, 25, 26, 27, 28, 29, 30, 31, 32, 33, 34, 35, 36, 37, 38, 0, 1, 2, 3, 4, 5, 6, 7, 8, 9, 10, 11, 12] (by decide) rfl rfl (fun _ => rfl) 0 rfl rfl hl.1 rfl rfl (Nat.le_of_ble_eq_true rfl) dL_law_299 ⟨Nat.le_of_ble_eq_true rfl, Nat.le_of_ble_eq_true rfl⟩ (fun u H locs hP hD hS => ?_)
  have hP : va_P D vwCl (rs_wX aI aJ aL h u.1 ++ rs_wN aI aJ aL hm z) H := hP
  have hD : va_D A (rs_wX aI aJ aL h u.1 ++ rs_wN aI aJ aL hm z) := hD
  refine lv_aload_n hx hb dL_law_302 rfl (lv_at hl 2 rfl) ?_
  refine rs_cVI (rest := [.int r]) (wr := rs_wX aI aJ aL h u.1) (ws' := fun v => rs_wX aI aJ aL h u.1 ++ rs_wN aI aJ aL hm v.1) ⟨hx, hb, hml, hown, hts⟩ (cM _) (cwV 0 hts (rs_gV rw_518 rw_519 rw_520 rw_5 rw_521) rfl rfl rfl (by decide +kernel) ⟨Nat.le_of_ble_eq_true rfl, Nat.le_of_ble_eq_true rfl⟩) hK hN hP hD hS hA [26, 27, 28, 29, 30, 31, 32, 33, 34, 35, 36, 37, 38] [0, 1, 2, 3, 4, 5, 6, 7, 8, 9, 10, 11, 12, 13, 14, 15, 16, 17, 18, 19, 20, 21, 22, 23, 24, 25] [0, 1, 2, 3, 4, 5, 6, 7, 8, 9, 10, 11, 12, 13, 14, 15, 16, 17, 18, 19, 20, 21, 22, 23, 24, 25, 26, 27, 28, 29, 30, 31, 32, 33, 34, 35, 36, 37, 38] (by decide) rfl rfl (fun _ => rfl) 26 rfl rfl hl.1 rfl rfl (Nat.le_of_ble_eq_true rfl) dL_law_303 ⟨Nat.le_of_ble_eq_true rfl, Nat.le_of_ble_eq_true rfl⟩ (fun v H locs hP hD hS => ?_)
  refine lv_icmp_eq hx hb dL_law_306 (tgt := 563) rfl (fun _ => ?_) (fun h9 => absurd rfl h9)
  exact kk H locs ⟨dd', dc', di', ds', es', gs', inn', cs', vf', d', tm', a', u.1, v.1, u.2, v.2, hP, hD⟩ hS
set_option maxHeartbeats 4000000 in
set_option maxRecDepth 100000 in
theorem K_reverse (hx : p.tables.exec = Jvm.exec) (hb : c.code = code) (hml : c.maxLocals = 4) (hown : s.vm.findClass RL = some m.cls) (hts : ∀ w ∈ rsW, w.before #[Value.ref b] s = true) (hK : va_K D vwCl (rs_tys aI aJ aL) s) (hN : rs_N rs_nw s) (hA : ∀ q, s.heap.size ≤ q → A q) (hX : va_X b L xs s s.heap) (hbl : b < s.heap.size) (hbA : ¬ A b) (hL : L ≤ 2048) (hi : i + 4 ≤ L) (hl : lv_has ls 4 [(0, .ref b), (1, .ref h), (2, .ref hm), (3, .int (nI i))]) (hw : rs_LW D aI aJ aL A h hm H) (hS : va_S A s.heap H locs) (kk : ∀ (H : Heap) (locs : List Loc), rs_LW D aI aJ aL A h hm H → va_S A s.heap H locs → W p l e room_1 s m #[Value.ref b] below meth c H locs 39 2081 Q (F0 m 563 ls [])) : W p l e room_1 s m #[Value.ref b] below meth c H locs 39 2081 Q (F0 m 311 ls []) := by
  obtain ⟨dd, dc, di, ds, es, gs, inn, cs, vf, d, tm, a, x, z, hC, hM, hP, hD⟩ := hw
  obtain ⟨dd', dc', di', ds', es', gs', inn', cs', vf', d', tm', a', r, cC, cM⟩ := O_reverse (l := l) (D := D) (aI := aI) (aJ := aJ) (aL := aL) (h := h) (hm := hm) hC hM 
  refine lv_aload_n hx hb dL_law_311 rfl (lv_at hl 1 rfl) ?_
  refine rs_cVI (rest := []) (wr := rs_wN aI aJ aL hm z) (ws' := fun u => rs_wX aI aJ aL h u.1 ++ rs_wN aI aJ aL hm z) ⟨hx, hb, hml, hown, hts⟩ (cC _) (cwV 0 hts (rs_gV rw_291 rw_292 rw_293 rw_1 rw_294) rfl rfl rfl (by decide +kernel) ⟨Nat.le_of_ble_eq_true rfl, Nat.le_of_ble_eq_true rfl⟩) hK hN hP hD hS hA [0, 1, 2, 3, 4, 5, 6, 7, 8, 9, 10, 11, 12, 13, 14, 15, 16, 17, 18, 19, 20, 21, 22, 23, 24, 25] [26, 27, 28, 29, 30, 31, 32, 33, 34, 35, 36, 37, 38] [13, 14, 15, 16, 17, 18, 19, 20, 21, 22, 23, 24, 25, 26, 27, 28, 29, 30, 31, 32, 33, 34, 35, 36, 37, 38, 0, 1, 2, 3, 4, 5, 6, 7, 8, 9, 10, 11, 12] (by decide) rfl rfl (fun _ => rfl) 0 rfl rfl hl.1 rfl rfl (Nat.le_of_ble_eq_true rfl) dL_law_312 ⟨Nat.le_of_ble_eq_true rfl, Nat.le_of_ble_eq_true rfl⟩ (fun u H locs hP hD hS => ?_)
  have hP : va_P D vwCl (rs_wX aI aJ aL h u.1 ++ rs_wN aI aJ aL hm z) H := hP
  have hD : va_D A (rs_wX aI aJ aL h u.1 ++ rs_wN aI aJ aL hm z) := hD
  refine lv_aload_n hx hb dL_law_315 rfl (lv_at hl 2 rfl) ?_
  refine rs_cVI (rest := [.int r]) (wr := rs_wX aI aJ aL h u.1) (ws' := fun v => rs_wX aI aJ aL h u.1 ++ rs_wN aI aJ aL hm v.1) ⟨hx, hb, hml, hown, hts⟩ (cM _) (cwV 0 hts (rs_gV rw_522 rw_523 rw_524 rw_5 rw_525) rfl rfl rfl (by decide +kernel) ⟨Nat.le_of_ble_eq_true rfl, Nat.le_of_ble_eq_true rfl⟩) hK hN hP hD hS hA [26, 27, 28, 29, 30, 31, 32, 33, 34, 35, 36, 37, 38] [0, 1, 2, 3, 4, 5, 6, 7, 8, 9, 10, 11, 12, 13, 14, 15, 16, 17, 18, 19, 20, 21, 22, 23, 24, 25] [0, 1, 2, 3, 4, 5, 6, 7, 8, 9, 10, 11, 12, 13, 14, 15, 16, 17, 18, 19, 20, 21, 22, 23, 24, 25, 26, 27, 28, 29, 30, 31, 32, 33, 34, 35, 36, 37, 38] (by decide) rfl rfl (fun _ => rfl) 26 rfl rfl hl.1 rfl rfl (Nat.le_of_ble_eq_true rfl) dL_law_316 ⟨Nat.le_of_ble_eq_true rfl, Nat.le_of_ble_eq_true rfl⟩ (fun v H locs hP hD hS => ?_)
  refine lv_icmp_eq hx hb dL_law_319 (tgt := 563) rfl (fun _ => ?_) (fun h9 => absurd rfl h9)
  exact kk H locs ⟨dd', dc', di', ds', es', gs', inn', cs', vf', d', tm', a', u.1, v.1, u.2, v.2, hP, hD⟩ hS
set_option maxHeartbeats 4000000 in
set_option maxRecDepth 100000 in
theorem K_degree (hx : p.tables.exec = Jvm.exec) (hb : c.code = code) (hml : c.maxLocals = 4) (hown : s.vm.findClass RL = some m.cls) (hts : ∀ w ∈ rsW, w.before #[Value.ref b] s = true) (hK : va_K D vwCl (rs_tys aI aJ aL) s) (hN : rs_N rs_nw s) (hA : ∀ q, s.heap.size ≤ q → A q) (hX : va_X b L xs s s.heap) (hbl : b < s.heap.size) (hbA : ¬ A b) (hL : L ≤ 2048) (hi : i + 4 ≤ L) (hl : lv_has ls 4 [(0, .ref b), (1, .ref h), (2, .ref hm), (3, .int (nI i))]) (hw : rs_LW D aI aJ aL A h hm H) (hS : va_S A s.heap H locs) (kk : ∀ (H : Heap) (locs : List Loc), rs_LW D aI aJ aL A h hm H → va_S A s.heap H locs → W p l e room_1 s m #[Value.ref b] below meth c H locs 39 2081 Q (F0 m 563 ls [])) : W p l e room_1 s m #[Value.ref b] below meth c H locs 39 2081 Q (F0 m 324 ls []) := by
  obtain ⟨dd, dc, di, ds, es, gs, inn, cs, vf, d, tm, a, x, z, hC, hM, hP, hD⟩ := hw
  obtain ⟨dd', dc', di', ds', es', gs', inn', cs', vf', d', tm', a', r, cC, cM⟩ := O_degree (l := l) (D := D) (aI := aI) (aJ := aJ) (aL := aL) (h := h) (hm := hm) hC hM 
  refine lv_aload_n hx hb dL_law_324 rfl (lv_at hl 1 rfl) ?_
  refine rs_cVI (rest := []) (wr := rs_wN aI aJ aL hm z) (ws' := fun u => rs_wX aI aJ aL h u.1 ++ rs_wN aI aJ aL hm z) ⟨hx, hb, hml, hown, hts⟩ (cC _) (cwV 0 hts (rs_gV rw_299 rw_300 rw_301 rw_1 rw_302) rfl rfl rfl (by decide +kernel) ⟨Nat.le_of_ble_eq_true rfl, Nat.le_of_ble_eq_true rfl⟩) hK hN hP hD hS hA [0, 1, 2, 3, 4, 5, 6, 7, 8, 9, 10, 11, 12, 13, 14, 15, 16, 17, 18, 19, 20, 21, 22, 23, 24, 25] [26, 27, 28, 29, 30, 31, 32, 33, 34, 35, 36, 37, 38] [13, 14, 15, 16, 17, 18, 19, 20, 21, 22, 23, 24, 25, 26, 27, 28, 29, 30, 31, 32, 33, 34, 35, 36, 37, 38, 0, 1, 2, 3, 4, 5, 6, 7, 8, 9, 10, 11, 12] (by decide) rfl rfl (fun _ => rfl) 0 rfl rfl hl.1 rfl rfl (Nat.le_of_ble_eq_true rfl) dL_law_325 ⟨Nat.le_of_ble_eq_true rfl, Nat.le_of_ble_eq_true rfl⟩ (fun u H locs hP hD hS => ?_)
  have hP : va_P D vwCl (rs_wX aI aJ aL h u.1 ++ rs_wN aI aJ aL hm z) H := hP
  have hD : va_D A (rs_wX aI aJ aL h u.1 ++ rs_wN aI aJ aL hm z) := hD
  refine lv_aload_n hx hb dL_law_328 rfl (lv_at hl 2 rfl) ?_
  refine rs_cVI (rest := [.int r]) (wr := rs_wX aI aJ aL h u.1) (ws' := fun v => rs_wX aI aJ aL h u.1 ++ rs_wN aI aJ aL hm v.1) ⟨hx, hb, hml, hown, hts⟩ (cM _) (cwV 0 hts (rs_gV rw_526 rw_527 rw_528 rw_5 rw_529) rfl rfl rfl (by decide +kernel) ⟨Nat.le_of_ble_eq_true rfl, Nat.le_of_ble_eq_true rfl⟩) hK hN hP hD hS hA [26, 27, 28, 29, 30, 31, 32, 33, 34, 35, 36, 37, 38] [0, 1, 2, 3, 4, 5, 6, 7, 8, 9, 10, 11, 12, 13, 14, 15, 16, 17, 18, 19, 20, 21, 22, 23, 24, 25] [0, 1, 2, 3, 4, 5, 6, 7, 8, 9, 10, 11, 12, 13, 14, 15, 16, 17, 18, 19, 20, 21, 22, 23, 24, 25, 26, 27, 28, 29, 30, 31, 32, 33, 34, 35, 36, 37, 38] (by decide) rfl rfl (fun _ => rfl) 26 rfl rfl hl.1 rfl rfl (Nat.le_of_ble_eq_true rfl) dL_law_329 ⟨Nat.le_of_ble_eq_true rfl, Nat.le_of_ble_eq_true rfl⟩ (fun v H locs hP hD hS => ?_)
  refine lv_icmp_eq hx hb dL_law_332 (tgt := 563) rfl (fun _ => ?_) (fun h9 => absurd rfl h9)
  exact kk H locs ⟨dd', dc', di', ds', es', gs', inn', cs', vf', d', tm', a', u.1, v.1, u.2, v.2, hP, hD⟩ hS
set_option maxHeartbeats 4000000 in
set_option maxRecDepth 100000 in
theorem K_points (hx : p.tables.exec = Jvm.exec) (hb : c.code = code) (hml : c.maxLocals = 4) (hown : s.vm.findClass RL = some m.cls) (hts : ∀ w ∈ rsW, w.before #[Value.ref b] s = true) (hK : va_K D vwCl (rs_tys aI aJ aL) s) (hN : rs_N rs_nw s) (hA : ∀ q, s.heap.size ≤ q → A q) (hX : va_X b L xs s s.heap) (hbl : b < s.heap.size) (hbA : ¬ A b) (hL : L ≤ 2048) (hi : i + 4 ≤ L) (hl : lv_has ls 4 [(0, .ref b), (1, .ref h), (2, .ref hm), (3, .int (nI i))]) (hw : rs_LW D aI aJ aL A h hm H) (hS : va_S A s.heap H locs) (kk : ∀ (H : Heap) (locs : List Loc), rs_LW D aI aJ aL A h hm H → va_S A s.heap H locs → W p l e room_1 s m #[Value.ref b] below meth c H locs 39 2081 Q (F0 m 563 ls [])) : W p l e room_1 s m #[Value.ref b] below meth c H locs 39 2081 Q (F0 m 337 ls []) := by
  obtain ⟨dd, dc, di, ds, es, gs, inn, cs, vf, d, tm, a, x, z, hC, hM, hP, hD⟩ := hw
  obtain ⟨dd', dc', di', ds', es', gs', inn', cs', vf', d', tm', a', r, cC, cM⟩ := O_points (l := l) (D := D) (aI := aI) (aJ := aJ) (aL := aL) (h := h) (hm := hm) hC hM 
  refine lv_aload_n hx hb dL_law_337 rfl (lv_at hl 1 rfl) ?_
  refine rs_cVI (rest := []) (wr := rs_wN aI aJ aL hm z) (ws' := fun u => rs_wX aI aJ aL h u.1 ++ rs_wN aI aJ aL hm z) ⟨hx, hb, hml, hown, hts⟩ (cC _) (cwV 0 hts (rs_gV rw_303 rw_304 rw_305 rw_1 rw_306) rfl rfl rfl (by decide +kernel) ⟨Nat.le_of_ble_eq_true rfl, Nat.le_of_ble_eq_true rfl⟩) hK hN hP hD hS hA [0, 1, 2, 3, 4, 5, 6, 7, 8, 9, 10, 11, 12, 13, 14, 15, 16, 17, 18, 19, 20, 21, 22, 23, 24, 25] [26, 27, 28, 29, 30, 31, 32, 33, 34, 35, 36, 37, 38] [13, 14, 15, 16, 17, 18, 19, 20, 21, 22, 23, 24, 25, 26, 27, 28, 29, 30, 31, 32, 33, 34, 35, 36, 37, 38, 0, 1, 2, 3, 4, 5, 6, 7, 8, 9, 10, 11, 12] (by decide) rfl rfl (fun _ => rfl) 0 rfl rfl hl.1 rfl rfl (Nat.le_of_ble_eq_true rfl) dL_law_338 ⟨Nat.le_of_ble_eq_true rfl, Nat.le_of_ble_eq_true rfl⟩ (fun u H locs hP hD hS => ?_)
  have hP : va_P D vwCl (rs_wX aI aJ aL h u.1 ++ rs_wN aI aJ aL hm z) H := hP
  have hD : va_D A (rs_wX aI aJ aL h u.1 ++ rs_wN aI aJ aL hm z) := hD
  refine lv_aload_n hx hb dL_law_341 rfl (lv_at hl 2 rfl) ?_
  refine rs_cVI (rest := [.int r]) (wr := rs_wX aI aJ aL h u.1) (ws' := fun v => rs_wX aI aJ aL h u.1 ++ rs_wN aI aJ aL hm v.1) ⟨hx, hb, hml, hown, hts⟩ (cM _) (cwV 0 hts (rs_gV rw_530 rw_531 rw_532 rw_5 rw_533) rfl rfl rfl (by decide +kernel) ⟨Nat.le_of_ble_eq_true rfl, Nat.le_of_ble_eq_true rfl⟩) hK hN hP hD hS hA [26, 27, 28, 29, 30, 31, 32, 33, 34, 35, 36, 37, 38] [0, 1, 2, 3, 4, 5, 6, 7, 8, 9, 10, 11, 12, 13, 14, 15, 16, 17, 18, 19, 20, 21, 22, 23, 24, 25] [0, 1, 2, 3, 4, 5, 6, 7, 8, 9, 10, 11, 12, 13, 14, 15, 16, 17, 18, 19, 20, 21, 22, 23, 24, 25, 26, 27, 28, 29, 30, 31, 32, 33, 34, 35, 36, 37, 38] (by decide) rfl rfl (fun _ => rfl) 26 rfl rfl hl.1 rfl rfl (Nat.le_of_ble_eq_true rfl) dL_law_342 ⟨Nat.le_of_ble_eq_true rfl, Nat.le_of_ble_eq_true rfl⟩ (fun v H locs hP hD hS => ?_)
  refine lv_icmp_eq hx hb dL_law_345 (tgt := 563) rfl (fun _ => ?_) (fun h9 => absurd rfl h9)
  exact kk H locs ⟨dd', dc', di', ds', es', gs', inn', cs', vf', d', tm', a', u.1, v.1, u.2, v.2, hP, hD⟩ hS
set_option maxHeartbeats 4000000 in
set_option maxRecDepth 100000 in
theorem K_knotAt (hx : p.tables.exec = Jvm.exec) (hb : c.code = code) (hml : c.maxLocals = 4) (hown : s.vm.findClass RL = some m.cls) (hts : ∀ w ∈ rsW, w.before #[Value.ref b] s = true) (hK : va_K D vwCl (rs_tys aI aJ aL) s) (hN : rs_N rs_nw s) (hA : ∀ q, s.heap.size ≤ q → A q) (hX : va_X b L xs s s.heap) (hbl : b < s.heap.size) (hbA : ¬ A b) (hL : L ≤ 2048) (hi : i + 4 ≤ L) (hl : lv_has ls 4 [(0, .ref b), (1, .ref h), (2, .ref hm), (3, .int (nI i))]) (hw : rs_LW D aI aJ aL A h hm H) (hS : va_S A s.heap H locs) (kk : ∀ (H : Heap) (locs : List Loc), rs_LW D aI aJ aL A h hm H → va_S A s.heap H locs → W p l e room_1 s m #[Value.ref b] below meth c H locs 39 2081 Q (F0 m 563 ls [])) : W p l e room_1 s m #[Value.ref b] below meth c H locs 39 2081 Q (F0 m 350 ls []) := by
  obtain ⟨dd, dc, di, ds, es, gs, inn, cs, vf, d, tm, a, x, z, hC, hM, hP, hD⟩ := hw
  obtain ⟨dd', dc', di', ds', es', gs', inn', cs', vf', d', tm', a', r, cC, cM⟩ := O_knotAt (l := l) (D := D) (aI := aI) (aJ := aJ) (aL := aL) (h := h) (hm := hm) hC hM (xs (i + 1))
  refine lv_aload_n hx hb dL_law_350 rfl (lv_at hl 1 rfl) ?_
  refine lv_aload_n hx hb dL_law_351 rfl (lv_at hl 0 rfl) ?_
  refine lv_iload_n hx hb dL_law_352 rfl (lv_at hl 3 rfl) ?_
  refine lv_iconst hx hb dL_law_353 (v := nI 1) (by decide) ?_
  refine rs_iadd hx hb dL_law_354 (v := nI (i + 1)) (nI_add _ _) ?_
  refine rs_sld hx hb hX hbl hbA hS hL (by omega) dL_law_355 ?_
  refine rs_cVI (rest := []) (wr := rs_wN aI aJ aL hm z) (ws' := fun u => rs_wX aI aJ aL h u.1 ++ rs_wN aI aJ aL hm z) ⟨hx, hb, hml, hown, hts⟩ (cC _) (cwV 1 hts (rs_gV rw_307 rw_308 rw_309 rw_1 rw_310) rfl rfl rfl (by decide +kernel) ⟨Nat.le_of_ble_eq_true rfl, Nat.le_of_ble_eq_true rfl⟩) hK hN hP hD hS hA [0, 1, 2, 3, 4, 5, 6, 7, 8, 9, 10, 11, 12, 13, 14, 15, 16, 17, 18, 19, 20, 21, 22, 23, 24, 25] [26, 27, 28, 29, 30, 31, 32, 33, 34, 35, 36, 37, 38] [13, 14, 15, 16, 17, 18, 19, 20, 21, 22, 23, 24, 25, 26, 27, 28, 29, 30, 31, 32, 33, 34, 35, 36, 37, 38, 0, 1, 2, 3, 4, 5, 6, 7, 8, 9, 10, 11, 12] (by decide) rfl rfl (fun _ => rfl) 0 rfl rfl hl.1 rfl rfl (Nat.le_of_ble_eq_true rfl) dL_law_356 ⟨Nat.le_of_ble_eq_true rfl, Nat.le_of_ble_eq_true rfl⟩ (fun u H locs hP hD hS => ?_)
  have hP : va_P D vwCl (rs_wX aI aJ aL h u.1 ++ rs_wN aI aJ aL hm z) H := hP
  have hD : va_D A (rs_wX aI aJ aL h u.1 ++ rs_wN aI aJ aL hm z) := hD
  refine lv_aload_n hx hb dL_law_359 rfl (lv_at hl 2 rfl) ?_
  refine lv_aload_n hx hb dL_law_360 rfl (lv_at hl 0 rfl) ?_
  refine lv_iload_n hx hb dL_law_361 rfl (lv_at hl 3 rfl) ?_
  refine lv_iconst hx hb dL_law_362 (v := nI 1) (by decide) ?_
  refine rs_iadd hx hb dL_law_363 (v := nI (i + 1)) (nI_add _ _) ?_
  refine rs_sld hx hb hX hbl hbA hS hL (by omega) dL_law_364 ?_
  refine rs_cVI (rest := [.int r]) (wr := rs_wX aI aJ aL h u.1) (ws' := fun v => rs_wX aI aJ aL h u.1 ++ rs_wN aI aJ aL hm v.1) ⟨hx, hb, hml, hown, hts⟩ (cM _) (cwV 1 hts (rs_gV rw_534 rw_535 rw_536 rw_5 rw_537) rfl rfl rfl (by decide +kernel) ⟨Nat.le_of_ble_eq_true rfl, Nat.le_of_ble_eq_true rfl⟩) hK hN hP hD hS hA [26, 27, 28, 29, 30, 31, 32, 33, 34, 35, 36, 37, 38] [0, 1, 2, 3, 4, 5, 6, 7, 8, 9, 10, 11, 12, 13, 14, 15, 16, 17, 18, 19, 20, 21, 22, 23, 24, 25] [0, 1, 2, 3, 4, 5, 6, 7, 8, 9, 10, 11, 12, 13, 14, 15, 16, 17, 18, 19, 20, 21, 22, 23, 24, 25, 26, 27, 28, 29, 30, 31, 32, 33, 34, 35, 36, 37, 38] (by decide) rfl rfl (fun _ => rfl) 26 rfl rfl hl.1 rfl rfl (Nat.le_of_ble_eq_true rfl) dL_law_365 ⟨Nat.le_of_ble_eq_true rfl, Nat.le_of_ble_eq_true rfl⟩ (fun v H locs hP hD hS => ?_)
  refine lv_icmp_eq hx hb dL_law_368 (tgt := 563) rfl (fun _ => ?_) (fun h9 => absurd rfl h9)
  exact kk H locs ⟨dd', dc', di', ds', es', gs', inn', cs', vf', d', tm', a', u.1, v.1, u.2, v.2, hP, hD⟩ hS
set_option maxHeartbeats 4000000 in
set_option maxRecDepth 100000 in
theorem K_control (hx : p.tables.exec = Jvm.exec) (hb : c.code = code) (hml : c.maxLocals = 4) (hown : s.vm.findClass RL = some m.cls) (hts : ∀ w ∈ rsW, w.before #[Value.ref b] s = true) (hK : va_K D vwCl (rs_tys aI aJ aL) s) (hN : rs_N rs_nw s) (hA : ∀ q, s.heap.size ≤ q → A q) (hX : va_X b L xs s s.heap) (hbl : b < s.heap.size) (hbA : ¬ A b) (hL : L ≤ 2048) (hi : i + 4 ≤ L) (hl : lv_has ls 4 [(0, .ref b), (1, .ref h), (2, .ref hm), (3, .int (nI i))]) (hw : rs_LW D aI aJ aL A h hm H) (hS : va_S A s.heap H locs) (kk : ∀ (H : Heap) (locs : List Loc), rs_LW D aI aJ aL A h hm H → va_S A s.heap H locs → W p l e room_1 s m #[Value.ref b] below meth c H locs 39 2081 Q (F0 m 563 ls [])) : W p l e room_1 s m #[Value.ref b] below meth c H locs 39 2081 Q (F0 m 373 ls []) := by
  obtain ⟨dd, dc, di, ds, es, gs, inn, cs, vf, d, tm, a, x, z, hC, hM, hP, hD⟩ := hw
  obtain ⟨dd', dc', di', ds', es', gs', inn', cs', vf', d', tm', a', r, cC, cM⟩ := O_control (l := l) (D := D) (aI := aI) (aJ := aJ) (aL := aL) (h := h) (hm := hm) hC hM (xs (i + 1)) (xs (i + 2))
  refine lv_aload_n hx hb dL_law_373 rfl (lv_at hl 1 rfl) ?_
  refine lv_aload_n hx hb dL_law_374 rfl (lv_at hl 0 rfl) ?_
  refine lv_iload_n hx hb dL_law_375 rfl (lv_at hl 3 rfl) ?_
  refine lv_iconst hx hb dL_law_376 (v := nI 1) (by decide) ?_
  refine rs_iadd hx hb dL_law_377 (v := nI (i + 1)) (nI_add _ _) ?_
  refine rs_sld hx hb hX hbl hbA hS hL (by omega) dL_law_378 ?_
  refine lv_aload_n hx hb dL_law_379 rfl (lv_at hl 0 rfl) ?_
  refine lv_iload_n hx hb dL_law_380 rfl (lv_at hl 3 rfl) ?_
  refine lv_iconst hx hb dL_law_381 (v := nI 2) (by decide) ?_
  refine rs_iadd hx hb dL_law_382 (v := nI (i + 2)) (nI_add _ _) ?_
  refine rs_sld hx hb hX hbl hbA hS hL (by omega) dL_law_383 ?_
  refine rs_cVL (rest := []) (wr := rs_wN aI aJ aL hm z) (ws' := fun u => rs_wX aI aJ aL h u.1 ++ rs_wN aI aJ aL hm z) ⟨hx, hb, hml, hown, hts⟩ (cC _) (cwV 2 hts (rs_gV rw_312 rw_313 rw_314 rw_1 rw_315) rfl rfl rfl (by decide +kernel) ⟨Nat.le_of_ble_eq_true rfl, Nat.le_of_ble_eq_true rfl⟩) hK hN hP hD hS hA [0, 1, 2, 3, 4, 5, 6, 7, 8, 9, 10, 11, 12, 13, 14, 15, 16, 17, 18, 19, 20, 21, 22, 23, 24, 25] [26, 27, 28, 29, 30, 31, 32, 33, 34, 35, 36, 37, 38] [13, 14, 15, 16, 17, 18, 19, 20, 21, 22, 23, 24, 25, 26, 27, 28, 29, 30, 31, 32, 33, 34, 35, 36, 37, 38, 0, 1, 2, 3, 4, 5, 6, 7, 8, 9, 10, 11, 12] (by decide) rfl rfl (fun _ => rfl) 0 rfl rfl hl.1 rfl rfl (Nat.le_of_ble_eq_true rfl) dL_law_384 ⟨Nat.le_of_ble_eq_true rfl, Nat.le_of_ble_eq_true rfl⟩ (fun u H locs hP hD hS => ?_)
  have hP : va_P D vwCl (rs_wX aI aJ aL h u.1 ++ rs_wN aI aJ aL hm z) H := hP
  have hD : va_D A (rs_wX aI aJ aL h u.1 ++ rs_wN aI aJ aL hm z) := hD
  refine lv_aload_n hx hb dL_law_387 rfl (lv_at hl 2 rfl) ?_
  refine lv_aload_n hx hb dL_law_388 rfl (lv_at hl 0 rfl) ?_
  refine lv_iload_n hx hb dL_law_389 rfl (lv_at hl 3 rfl) ?_
  refine lv_iconst hx hb dL_law_390 (v := nI 1) (by decide) ?_
  refine rs_iadd hx hb dL_law_391 (v := nI (i + 1)) (nI_add _ _) ?_
  refine rs_sld hx hb hX hbl hbA hS hL (by omega) dL_law_392 ?_
  refine lv_aload_n hx hb dL_law_393 rfl (lv_at hl 0 rfl) ?_
  refine lv_iload_n hx hb dL_law_394 rfl (lv_at hl 3 rfl) ?_
  refine lv_iconst hx hb dL_law_395 (v := nI 2) (by decide) ?_
  refine rs_iadd hx hb dL_law_396 (v := nI (i + 2)) (nI_add _ _) ?_
  refine rs_sld hx hb hX hbl hbA hS hL (by omega) dL_law_397 ?_
  refine rs_cVL (rest := [.long r]) (wr := rs_wX aI aJ aL h u.1) (ws' := fun v => rs_wX aI aJ aL h u.1 ++ rs_wN aI aJ aL hm v.1) ⟨hx, hb, hml, hown, hts⟩ (cM _) (cwV 2 hts (rs_gV rw_538 rw_539 rw_540 rw_5 rw_541) rfl rfl rfl (by decide +kernel) ⟨Nat.le_of_ble_eq_true rfl, Nat.le_of_ble_eq_true rfl⟩) hK hN hP hD hS hA [26, 27, 28, 29, 30, 31, 32, 33, 34, 35, 36, 37, 38] [0, 1, 2, 3, 4, 5, 6, 7, 8, 9, 10, 11, 12, 13, 14, 15, 16, 17, 18, 19, 20, 21, 22, 23, 24, 25] [0, 1, 2, 3, 4, 5, 6, 7, 8, 9, 10, 11, 12, 13, 14, 15, 16, 17, 18, 19, 20, 21, 22, 23, 24, 25, 26, 27, 28, 29, 30, 31, 32, 33, 34, 35, 36, 37, 38] (by decide) rfl rfl (fun _ => rfl) 26 rfl rfl hl.1 rfl rfl (Nat.le_of_ble_eq_true rfl) dL_law_398 ⟨Nat.le_of_ble_eq_true rfl, Nat.le_of_ble_eq_true rfl⟩ (fun v H locs hP hD hS => ?_)
  refine W.lcmp hx hb dL_law_401 ?_
  refine lv_if_eq hx hb dL_law_402 (tgt := 563) rfl (fun _ => ?_) (fun h9 => absurd ((lg_cmp_eq r r).2 rfl) h9)
  exact kk H locs ⟨dd', dc', di', ds', es', gs', inn', cs', vf', d', tm', a', u.1, v.1, u.2, v.2, hP, hD⟩ hS
set_option maxHeartbeats 4000000 in
set_option maxRecDepth 100000 in
theorem K_span (hx : p.tables.exec = Jvm.exec) (hb : c.code = code) (hml : c.maxLocals = 4) (hown : s.vm.findClass RL = some m.cls) (hts : ∀ w ∈ rsW, w.before #[Value.ref b] s = true) (hK : va_K D vwCl (rs_tys aI aJ aL) s) (hN : rs_N rs_nw s) (hA : ∀ q, s.heap.size ≤ q → A q) (hX : va_X b L xs s s.heap) (hbl : b < s.heap.size) (hbA : ¬ A b) (hL : L ≤ 2048) (hi : i + 4 ≤ L) (hl : lv_has ls 4 [(0, .ref b), (1, .ref h), (2, .ref hm), (3, .int (nI i))]) (hw : rs_LW D aI aJ aL A h hm H) (hS : va_S A s.heap H locs) (kk : ∀ (H : Heap) (locs : List Loc), rs_LW D aI aJ aL A h hm H → va_S A s.heap H locs → W p l e room_1 s m #[Value.ref b] below meth c H locs 39 2081 Q (F0 m 563 ls [])) : W p l e room_1 s m #[Value.ref b] below meth c H locs 39 2081 Q (F0 m 407 ls []) := by
  obtain ⟨dd, dc, di, ds, es, gs, inn, cs, vf, d, tm, a, x, z, hC, hM, hP, hD⟩ := hw
  obtain ⟨dd', dc', di', ds', es', gs', inn', cs', vf', d', tm', a', r, cC, cM⟩ := O_span (l := l) (D := D) (aI := aI) (aJ := aJ) (aL := aL) (h := h) (hm := hm) hC hM (xs (i + 1))
  refine lv_aload_n hx hb dL_law_407 rfl (lv_at hl 1 rfl) ?_
  refine lv_aload_n hx hb dL_law_408 rfl (lv_at hl 0 rfl) ?_
  refine lv_iload_n hx hb dL_law_409 rfl (lv_at hl 3 rfl) ?_
  refine lv_iconst hx hb dL_law_410 (v := nI 1) (by decide) ?_
  refine rs_iadd hx hb dL_law_411 (v := nI (i + 1)) (nI_add _ _) ?_
  refine rs_sld hx hb hX hbl hbA hS hL (by omega) dL_law_412 ?_
  refine rs_cVI (rest := []) (wr := rs_wN aI aJ aL hm z) (ws' := fun u => rs_wX aI aJ aL h u.1 ++ rs_wN aI aJ aL hm z) ⟨hx, hb, hml, hown, hts⟩ (cC _) (cwV 1 hts (rs_gV rw_317 rw_318 rw_319 rw_1 rw_320) rfl rfl rfl (by decide +kernel) ⟨Nat.le_of_ble_eq_true rfl, Nat.le_of_ble_eq_true rfl⟩) hK hN hP hD hS hA [0, 1, 2, 3, 4, 5, 6, 7, 8, 9, 10, 11, 12, 13, 14, 15, 16, 17, 18, 19, 20, 21, 22, 23, 24, 25] [26, 27, 28, 29, 30, 31, 32, 33, 34, 35, 36, 37, 38] [13, 14, 15, 16, 17, 18, 19, 20, 21, 22, 23, 24, 25, 26, 27, 28, 29, 30, 31, 32, 33, 34, 35, 36, 37, 38, 0, 1, 2, 3, 4, 5, 6, 7, 8, 9, 10, 11, 12] (by decide) rfl rfl (fun _ => rfl) 0 rfl rfl hl.1 rfl rfl (Nat.le_of_ble_eq_true rfl) dL_law_413 ⟨Nat.le_of_ble_eq_true rfl, Nat.le_of_ble_eq_true rfl⟩ (fun u H locs hP hD hS => ?_)
  have hP : va_P D vwCl (rs_wX aI aJ aL h u.1 ++ rs_wN aI aJ aL hm z) H := hP
  have hD : va_D A (rs_wX aI aJ aL h u.1 ++ rs_wN aI aJ aL hm z) := hD
  refine lv_aload_n hx hb dL_law_416 rfl (lv_at hl 2 rfl) ?_
  refine lv_aload_n hx hb dL_law_417 rfl (lv_at hl 0 rfl) ?_
  refine lv_iload_n hx hb dL_law_418 rfl (lv_at hl 3 rfl) ?_
  refine lv_iconst hx hb dL_law_419 (v := nI 1) (by decide) ?_
  refine rs_iadd hx hb dL_law_420 (v := nI (i + 1)) (nI_add _ _) ?_
  refine rs_sld hx hb hX hbl hbA hS hL (by omega) dL_law_421 ?_
  refine rs_cVI (rest := [.int r]) (wr := rs_wX aI aJ aL h u.1) (ws' := fun v => rs_wX aI aJ aL h u.1 ++ rs_wN aI aJ aL hm v.1) ⟨hx, hb, hml, hown, hts⟩ (cM _) (cwV 1 hts (rs_gV rw_542 rw_543 rw_544 rw_5 rw_545) rfl rfl rfl (by decide +kernel) ⟨Nat.le_of_ble_eq_true rfl, Nat.le_of_ble_eq_true rfl⟩) hK hN hP hD hS hA [26, 27, 28, 29, 30, 31, 32, 33, 34, 35, 36, 37, 38] [0, 1, 2, 3, 4, 5, 6, 7, 8, 9, 10, 11, 12, 13, 14, 15, 16, 17, 18, 19, 20, 21, 22, 23, 24, 25] [0, 1, 2, 3, 4, 5, 6, 7, 8, 9, 10, 11, 12, 13, 14, 15, 16, 17, 18, 19, 20, 21, 22, 23, 24, 25, 26, 27, 28, 29, 30, 31, 32, 33, 34, 35, 36, 37, 38] (by decide) rfl rfl (fun _ => rfl) 26 rfl rfl hl.1 rfl rfl (Nat.le_of_ble_eq_true rfl) dL_law_422 ⟨Nat.le_of_ble_eq_true rfl, Nat.le_of_ble_eq_true rfl⟩ (fun v H locs hP hD hS => ?_)
  refine lv_icmp_eq hx hb dL_law_425 (tgt := 563) rfl (fun _ => ?_) (fun h9 => absurd rfl h9)
  exact kk H locs ⟨dd', dc', di', ds', es', gs', inn', cs', vf', d', tm', a', u.1, v.1, u.2, v.2, hP, hD⟩ hS
set_option maxHeartbeats 4000000 in
set_option maxRecDepth 100000 in
theorem K_basis (hx : p.tables.exec = Jvm.exec) (hb : c.code = code) (hml : c.maxLocals = 4) (hown : s.vm.findClass RL = some m.cls) (hts : ∀ w ∈ rsW, w.before #[Value.ref b] s = true) (hK : va_K D vwCl (rs_tys aI aJ aL) s) (hN : rs_N rs_nw s) (hA : ∀ q, s.heap.size ≤ q → A q) (hX : va_X b L xs s s.heap) (hbl : b < s.heap.size) (hbA : ¬ A b) (hL : L ≤ 2048) (hi : i + 4 ≤ L) (hl : lv_has ls 4 [(0, .ref b), (1, .ref h), (2, .ref hm), (3, .int (nI i))]) (hw : rs_LW D aI aJ aL A h hm H) (hS : va_S A s.heap H locs) (kk : ∀ (H : Heap) (locs : List Loc), rs_LW D aI aJ aL A h hm H → va_S A s.heap H locs → W p l e room_1 s m #[Value.ref b] below meth c H locs 39 2081 Q (F0 m 563 ls [])) : W p l e room_1 s m #[Value.ref b] below meth c H locs 39 2081 Q (F0 m 430 ls []) := by
  obtain ⟨dd, dc, di, ds, es, gs, inn, cs, vf, d, tm, a, x, z, hC, hM, hP, hD⟩ := hw
  obtain ⟨dd', dc', di', ds', es', gs', inn', cs', vf', d', tm', a', r, cC, cM⟩ := O_basis (l := l) (D := D) (aI := aI) (aJ := aJ) (aL := aL) (h := h) (hm := hm) hC hM (xs (i + 1)) (xs (i + 2))
  refine lv_aload_n hx hb dL_law_430 rfl (lv_at hl 1 rfl) ?_
  refine lv_aload_n hx hb dL_law_431 rfl (lv_at hl 0 rfl) ?_
  refine lv_iload_n hx hb dL_law_432 rfl (lv_at hl 3 rfl) ?_
  refine lv_iconst hx hb dL_law_433 (v := nI 1) (by decide) ?_
  refine rs_iadd hx hb dL_law_434 (v := nI (i + 1)) (nI_add _ _) ?_
  refine rs_sld hx hb hX hbl hbA hS hL (by omega) dL_law_435 ?_
  refine lv_aload_n hx hb dL_law_436 rfl (lv_at hl 0 rfl) ?_
  refine lv_iload_n hx hb dL_law_437 rfl (lv_at hl 3 rfl) ?_
  refine lv_iconst hx hb dL_law_438 (v := nI 2) (by decide) ?_
  refine rs_iadd hx hb dL_law_439 (v := nI (i + 2)) (nI_add _ _) ?_
  refine rs_sld hx hb hX hbl hbA hS hL (by omega) dL_law_440 ?_
  refine rs_cVL (rest := []) (wr := rs_wN aI aJ aL hm z) (ws' := fun u => rs_wX aI aJ aL h u.1 ++ rs_wN aI aJ aL hm z) ⟨hx, hb, hml, hown, hts⟩ (cC _) (cwV 2 hts (rs_gV rw_325 rw_326 rw_327 rw_1 rw_328) rfl rfl rfl (by decide +kernel) ⟨Nat.le_of_ble_eq_true rfl, Nat.le_of_ble_eq_true rfl⟩) hK hN hP hD hS hA [0, 1, 2, 3, 4, 5, 6, 7, 8, 9, 10, 11, 12, 13, 14, 15, 16, 17, 18, 19, 20, 21, 22, 23, 24, 25] [26, 27, 28, 29, 30, 31, 32, 33, 34, 35, 36, 37, 38] [13, 14, 15, 16, 17, 18, 19, 20, 21, 22, 23, 24, 25, 26, 27, 28, 29, 30, 31, 32, 33, 34, 35, 36, 37, 38, 0, 1, 2, 3, 4, 5, 6, 7, 8, 9, 10, 11, 12] (by decide) rfl rfl (fun _ => rfl) 0 rfl rfl hl.1 rfl rfl (Nat.le_of_ble_eq_true rfl) dL_law_441 ⟨Nat.le_of_ble_eq_true rfl, Nat.le_of_ble_eq_true rfl⟩ (fun u H locs hP hD hS => ?_)
  have hP : va_P D vwCl (rs_wX aI aJ aL h u.1 ++ rs_wN aI aJ aL hm z) H := hP
  have hD : va_D A (rs_wX aI aJ aL h u.1 ++ rs_wN aI aJ aL hm z) := hD
  refine lv_aload_n hx hb dL_law_444 rfl (lv_at hl 2 rfl) ?_
  refine lv_aload_n hx hb dL_law_445 rfl (lv_at hl 0 rfl) ?_
  refine lv_iload_n hx hb dL_law_446 rfl (lv_at hl 3 rfl) ?_
  refine lv_iconst hx hb dL_law_447 (v := nI 1) (by decide) ?_
  refine rs_iadd hx hb dL_law_448 (v := nI (i + 1)) (nI_add _ _) ?_
  refine rs_sld hx hb hX hbl hbA hS hL (by omega) dL_law_449 ?_
  refine lv_aload_n hx hb dL_law_450 rfl (lv_at hl 0 rfl) ?_
  refine lv_iload_n hx hb dL_law_451 rfl (lv_at hl 3 rfl) ?_
  refine lv_iconst hx hb dL_law_452 (v := nI 2) (by decide) ?_
  refine rs_iadd hx hb dL_law_453 (v := nI (i + 2)) (nI_add _ _) ?_
  refine rs_sld hx hb hX hbl hbA hS hL (by omega) dL_law_454 ?_
  refine rs_cVL (rest := [.long r]) (wr := rs_wX aI aJ aL h u.1) (ws' := fun v => rs_wX aI aJ aL h u.1 ++ rs_wN aI aJ aL hm v.1) ⟨hx, hb, hml, hown, hts⟩ (cM _) (cwV 2 hts (rs_gV rw_546 rw_547 rw_548 rw_5 rw_549) rfl rfl rfl (by decide +kernel) ⟨Nat.le_of_ble_eq_true rfl, Nat.le_of_ble_eq_true rfl⟩) hK hN hP hD hS hA [26, 27, 28, 29, 30, 31, 32, 33, 34, 35, 36, 37, 38] [0, 1, 2, 3, 4, 5, 6, 7, 8, 9, 10, 11, 12, 13, 14, 15, 16, 17, 18, 19, 20, 21, 22, 23, 24, 25] [0, 1, 2, 3, 4, 5, 6, 7, 8, 9, 10, 11, 12, 13, 14, 15, 16, 17, 18, 19, 20, 21, 22, 23, 24, 25, 26, 27, 28, 29, 30, 31, 32, 33, 34, 35, 36, 37, 38] (by decide) rfl rfl (fun _ => rfl) 26 rfl rfl hl.1 rfl rfl (Nat.le_of_ble_eq_true rfl) dL_law_455 ⟨Nat.le_of_ble_eq_true rfl, Nat.le_of_ble_eq_true rfl⟩ (fun v H locs hP hD hS => ?_)
  refine W.lcmp hx hb dL_law_458 ?_
  refine lv_if_eq hx hb dL_law_459 (tgt := 563) rfl (fun _ => ?_) (fun h9 => absurd ((lg_cmp_eq r r).2 rfl) h9)
  exact kk H locs ⟨dd', dc', di', ds', es', gs', inn', cs', vf', d', tm', a', u.1, v.1, u.2, v.2, hP, hD⟩ hS
set_option maxHeartbeats 4000000 in
set_option maxRecDepth 100000 in
theorem K_locate (hx : p.tables.exec = Jvm.exec) (hb : c.code = code) (hml : c.maxLocals = 4) (hown : s.vm.findClass RL = some m.cls) (hts : ∀ w ∈ rsW, w.before #[Value.ref b] s = true) (hK : va_K D vwCl (rs_tys aI aJ aL) s) (hN : rs_N rs_nw s) (hA : ∀ q, s.heap.size ≤ q → A q) (hX : va_X b L xs s s.heap) (hbl : b < s.heap.size) (hbA : ¬ A b) (hL : L ≤ 2048) (hi : i + 4 ≤ L) (hl : lv_has ls 4 [(0, .ref b), (1, .ref h), (2, .ref hm), (3, .int (nI i))]) (hw : rs_LW D aI aJ aL A h hm H) (hS : va_S A s.heap H locs) (kk : ∀ (H : Heap) (locs : List Loc), rs_LW D aI aJ aL A h hm H → va_S A s.heap H locs → W p l e room_1 s m #[Value.ref b] below meth c H locs 39 2081 Q (F0 m 563 ls [])) : W p l e room_1 s m #[Value.ref b] below meth c H locs 39 2081 Q (F0 m 464 ls []) := by
  obtain ⟨dd, dc, di, ds, es, gs, inn, cs, vf, d, tm, a, x, z, hC, hM, hP, hD⟩ := hw
  obtain ⟨dd', dc', di', ds', es', gs', inn', cs', vf', d', tm', a', r, cC, cM⟩ := O_locate (l := l) (D := D) (aI := aI) (aJ := aJ) (aL := aL) (h := h) (hm := hm) hC hM (xs (i + 1)) (xs (i + 2))
  refine lv_aload_n hx hb dL_law_464 rfl (lv_at hl 1 rfl) ?_
  refine lv_aload_n hx hb dL_law_465 rfl (lv_at hl 0 rfl) ?_
  refine lv_iload_n hx hb dL_law_466 rfl (lv_at hl 3 rfl) ?_
  refine lv_iconst hx hb dL_law_467 (v := nI 1) (by decide) ?_
  refine rs_iadd hx hb dL_law_468 (v := nI (i + 1)) (nI_add _ _) ?_
  refine rs_sld hx hb hX hbl hbA hS hL (by omega) dL_law_469 ?_
  refine lv_aload_n hx hb dL_law_470 rfl (lv_at hl 0 rfl) ?_
  refine lv_iload_n hx hb dL_law_471 rfl (lv_at hl 3 rfl) ?_
  refine lv_iconst hx hb dL_law_472 (v := nI 2) (by decide) ?_
  refine rs_iadd hx hb dL_law_473 (v := nI (i + 2)) (nI_add _ _) ?_
  refine rs_sld hx hb hX hbl hbA hS hL (by omega) dL_law_474 ?_
  refine rs_cVI (rest := []) (wr := rs_wN aI aJ aL hm z) (ws' := fun u => rs_wX aI aJ aL h u.1 ++ rs_wN aI aJ aL hm z) ⟨hx, hb, hml, hown, hts⟩ (cC _) (cwV 2 hts (rs_gV rw_337 rw_338 rw_339 rw_1 rw_340) rfl rfl rfl (by decide +kernel) ⟨Nat.le_of_ble_eq_true rfl, Nat.le_of_ble_eq_true rfl⟩) hK hN hP hD hS hA [0, 1, 2, 3, 4, 5, 6, 7, 8, 9, 10, 11, 12, 13, 14, 15, 16, 17, 18, 19, 20, 21, 22, 23, 24, 25] [26, 27, 28, 29, 30, 31, 32, 33, 34, 35, 36, 37, 38] [13, 14, 15, 16, 17, 18, 19, 20, 21, 22, 23, 24, 25, 26, 27, 28, 29, 30, 31, 32, 33, 34, 35, 36, 37, 38, 0, 1, 2, 3, 4, 5, 6, 7, 8, 9, 10, 11, 12] (by decide) rfl rfl (fun _ => rfl) 0 rfl rfl hl.1 rfl rfl (Nat.le_of_ble_eq_true rfl) dL_law_475 ⟨Nat.le_of_ble_eq_true rfl, Nat.le_of_ble_eq_true rfl⟩ (fun u H locs hP hD hS => ?_)
  have hP : va_P D vwCl (rs_wX aI aJ aL h u.1 ++ rs_wN aI aJ aL hm z) H := hP
  have hD : va_D A (rs_wX aI aJ aL h u.1 ++ rs_wN aI aJ aL hm z) := hD
  refine lv_aload_n hx hb dL_law_478 rfl (lv_at hl 2 rfl) ?_
  refine lv_aload_n hx hb dL_law_479 rfl (lv_at hl 0 rfl) ?_
  refine lv_iload_n hx hb dL_law_480 rfl (lv_at hl 3 rfl) ?_
  refine lv_iconst hx hb dL_law_481 (v := nI 1) (by decide) ?_
  refine rs_iadd hx hb dL_law_482 (v := nI (i + 1)) (nI_add _ _) ?_
  refine rs_sld hx hb hX hbl hbA hS hL (by omega) dL_law_483 ?_
  refine lv_aload_n hx hb dL_law_484 rfl (lv_at hl 0 rfl) ?_
  refine lv_iload_n hx hb dL_law_485 rfl (lv_at hl 3 rfl) ?_
  refine lv_iconst hx hb dL_law_486 (v := nI 2) (by decide) ?_
  refine rs_iadd hx hb dL_law_487 (v := nI (i + 2)) (nI_add _ _) ?_
  refine rs_sld hx hb hX hbl hbA hS hL (by omega) dL_law_488 ?_
  refine rs_cVI (rest := [.int r]) (wr := rs_wX aI aJ aL h u.1) (ws' := fun v => rs_wX aI aJ aL h u.1 ++ rs_wN aI aJ aL hm v.1) ⟨hx, hb, hml, hown, hts⟩ (cM _) (cwV 2 hts (rs_gV rw_551 rw_552 rw_553 rw_5 rw_554) rfl rfl rfl (by decide +kernel) ⟨Nat.le_of_ble_eq_true rfl, Nat.le_of_ble_eq_true rfl⟩) hK hN hP hD hS hA [26, 27, 28, 29, 30, 31, 32, 33, 34, 35, 36, 37, 38] [0, 1, 2, 3, 4, 5, 6, 7, 8, 9, 10, 11, 12, 13, 14, 15, 16, 17, 18, 19, 20, 21, 22, 23, 24, 25] [0, 1, 2, 3, 4, 5, 6, 7, 8, 9, 10, 11, 12, 13, 14, 15, 16, 17, 18, 19, 20, 21, 22, 23, 24, 25, 26, 27, 28, 29, 30, 31, 32, 33, 34, 35, 36, 37, 38] (by decide) rfl rfl (fun _ => rfl) 26 rfl rfl hl.1 rfl rfl (Nat.le_of_ble_eq_true rfl) dL_law_489 ⟨Nat.le_of_ble_eq_true rfl, Nat.le_of_ble_eq_true rfl⟩ (fun v H locs hP hD hS => ?_)
  refine lv_icmp_eq hx hb dL_law_492 (tgt := 563) rfl (fun _ => ?_) (fun h9 => absurd rfl h9)
  exact kk H locs ⟨dd', dc', di', ds', es', gs', inn', cs', vf', d', tm', a', u.1, v.1, u.2, v.2, hP, hD⟩ hS
set_option maxHeartbeats 4000000 in
set_option maxRecDepth 100000 in
theorem K_tessellate (hx : p.tables.exec = Jvm.exec) (hb : c.code = code) (hml : c.maxLocals = 4) (hown : s.vm.findClass RL = some m.cls) (hts : ∀ w ∈ rsW, w.before #[Value.ref b] s = true) (hK : va_K D vwCl (rs_tys aI aJ aL) s) (hN : rs_N rs_nw s) (hA : ∀ q, s.heap.size ≤ q → A q) (hX : va_X b L xs s s.heap) (hbl : b < s.heap.size) (hbA : ¬ A b) (hL : L ≤ 2048) (hi : i + 4 ≤ L) (hl : lv_has ls 4 [(0, .ref b), (1, .ref h), (2, .ref hm), (3, .int (nI i))]) (hw : rs_LW D aI aJ aL A h hm H) (hS : va_S A s.heap H locs) (kk : ∀ (H : Heap) (locs : List Loc), rs_LW D aI aJ aL A h hm H → va_S A s.heap H locs → W p l e room_1 s m #[Value.ref b] below meth c H locs 39 2081 Q (F0 m 563 ls [])) : W p l e room_1 s m #[Value.ref b] below meth c H locs 39 2081 Q (F0 m 497 ls []) := by
  obtain ⟨dd, dc, di, ds, es, gs, inn, cs, vf, d, tm, a, x, z, hC, hM, hP, hD⟩ := hw
  obtain ⟨dd', dc', di', ds', es', gs', inn', cs', vf', d', tm', a', r, cC, cM⟩ := O_tessellate (l := l) (D := D) (aI := aI) (aJ := aJ) (aL := aL) (h := h) (hm := hm) hC hM (xs (i + 1)) (xs (i + 2)) (xs (i + 3))
  refine lv_aload_n hx hb dL_law_497 rfl (lv_at hl 1 rfl) ?_
  refine lv_aload_n hx hb dL_law_498 rfl (lv_at hl 0 rfl) ?_
  refine lv_iload_n hx hb dL_law_499 rfl (lv_at hl 3 rfl) ?_
  refine lv_iconst hx hb dL_law_500 (v := nI 1) (by decide) ?_
  refine rs_iadd hx hb dL_law_501 (v := nI (i + 1)) (nI_add _ _) ?_
  refine rs_sld hx hb hX hbl hbA hS hL (by omega) dL_law_502 ?_
  refine lv_aload_n hx hb dL_law_503 rfl (lv_at hl 0 rfl) ?_
  refine lv_iload_n hx hb dL_law_504 rfl (lv_at hl 3 rfl) ?_
  refine lv_iconst hx hb dL_law_505 (v := nI 2) (by decide) ?_
  refine rs_iadd hx hb dL_law_506 (v := nI (i + 2)) (nI_add _ _) ?_
  refine rs_sld hx hb hX hbl hbA hS hL (by omega) dL_law_507 ?_
  refine lv_aload_n hx hb dL_law_508 rfl (lv_at hl 0 rfl) ?_
  refine lv_iload_n hx hb dL_law_509 rfl (lv_at hl 3 rfl) ?_
  refine lv_iconst hx hb dL_law_510 (v := nI 3) (by decide) ?_
  refine rs_iadd hx hb dL_law_511 (v := nI (i + 3)) (nI_add _ _) ?_
  refine rs_sld hx hb hX hbl hbA hS hL (by omega) dL_law_512 ?_
  refine rs_cVI (rest := []) (wr := rs_wN aI aJ aL hm z) (ws' := fun u => rs_wX aI aJ aL h u.1 ++ rs_wN aI aJ aL hm z) ⟨hx, hb, hml, hown, hts⟩ (cC _) (cwV 3 hts (rs_gV rw_353 rw_354 rw_355 rw_1 rw_356) rfl rfl rfl (by decide +kernel) ⟨Nat.le_of_ble_eq_true rfl, Nat.le_of_ble_eq_true rfl⟩) hK hN hP hD hS hA [0, 1, 2, 3, 4, 5, 6, 7, 8, 9, 10, 11, 12, 13, 14, 15, 16, 17, 18, 19, 20, 21, 22, 23, 24, 25] [26, 27, 28, 29, 30, 31, 32, 33, 34, 35, 36, 37, 38] [13, 14, 15, 16, 17, 18, 19, 20, 21, 22, 23, 24, 25, 26, 27, 28, 29, 30, 31, 32, 33, 34, 35, 36, 37, 38, 0, 1, 2, 3, 4, 5, 6, 7, 8, 9, 10, 11, 12] (by decide) rfl rfl (fun _ => rfl) 0 rfl rfl hl.1 rfl rfl (Nat.le_of_ble_eq_true rfl) dL_law_513 ⟨Nat.le_of_ble_eq_true rfl, Nat.le_of_ble_eq_true rfl⟩ (fun u H locs hP hD hS => ?_)
  have hP : va_P D vwCl (rs_wX aI aJ aL h u.1 ++ rs_wN aI aJ aL hm z) H := hP
  have hD : va_D A (rs_wX aI aJ aL h u.1 ++ rs_wN aI aJ aL hm z) := hD
  refine lv_aload_n hx hb dL_law_516 rfl (lv_at hl 2 rfl) ?_
  refine lv_aload_n hx hb dL_law_517 rfl (lv_at hl 0 rfl) ?_
  refine lv_iload_n hx hb dL_law_518 rfl (lv_at hl 3 rfl) ?_
  refine lv_iconst hx hb dL_law_519 (v := nI 1) (by decide) ?_
  refine rs_iadd hx hb dL_law_520 (v := nI (i + 1)) (nI_add _ _) ?_
  refine rs_sld hx hb hX hbl hbA hS hL (by omega) dL_law_521 ?_
  refine lv_aload_n hx hb dL_law_522 rfl (lv_at hl 0 rfl) ?_
  refine lv_iload_n hx hb dL_law_523 rfl (lv_at hl 3 rfl) ?_
  refine lv_iconst hx hb dL_law_524 (v := nI 2) (by decide) ?_
  refine rs_iadd hx hb dL_law_525 (v := nI (i + 2)) (nI_add _ _) ?_
  refine rs_sld hx hb hX hbl hbA hS hL (by omega) dL_law_526 ?_
  refine lv_aload_n hx hb dL_law_527 rfl (lv_at hl 0 rfl) ?_
  refine lv_iload_n hx hb dL_law_528 rfl (lv_at hl 3 rfl) ?_
  refine lv_iconst hx hb dL_law_529 (v := nI 3) (by decide) ?_
  refine rs_iadd hx hb dL_law_530 (v := nI (i + 3)) (nI_add _ _) ?_
  refine rs_sld hx hb hX hbl hbA hS hL (by omega) dL_law_531 ?_
  refine rs_cVI (rest := [.int r]) (wr := rs_wX aI aJ aL h u.1) (ws' := fun v => rs_wX aI aJ aL h u.1 ++ rs_wN aI aJ aL hm v.1) ⟨hx, hb, hml, hown, hts⟩ (cM _) (cwV 3 hts (rs_gV rw_562 rw_563 rw_564 rw_5 rw_565) rfl rfl rfl (by decide +kernel) ⟨Nat.le_of_ble_eq_true rfl, Nat.le_of_ble_eq_true rfl⟩) hK hN hP hD hS hA [26, 27, 28, 29, 30, 31, 32, 33, 34, 35, 36, 37, 38] [0, 1, 2, 3, 4, 5, 6, 7, 8, 9, 10, 11, 12, 13, 14, 15, 16, 17, 18, 19, 20, 21, 22, 23, 24, 25] [0, 1, 2, 3, 4, 5, 6, 7, 8, 9, 10, 11, 12, 13, 14, 15, 16, 17, 18, 19, 20, 21, 22, 23, 24, 25, 26, 27, 28, 29, 30, 31, 32, 33, 34, 35, 36, 37, 38] (by decide) rfl rfl (fun _ => rfl) 26 rfl rfl hl.1 rfl rfl (Nat.le_of_ble_eq_true rfl) dL_law_532 ⟨Nat.le_of_ble_eq_true rfl, Nat.le_of_ble_eq_true rfl⟩ (fun v H locs hP hD hS => ?_)
  refine lv_icmp_eq hx hb dL_law_535 (tgt := 563) rfl (fun _ => ?_) (fun h9 => absurd rfl h9)
  exact kk H locs ⟨dd', dc', di', ds', es', gs', inn', cs', vf', d', tm', a', u.1, v.1, u.2, v.2, hP, hD⟩ hS
set_option maxHeartbeats 4000000 in
set_option maxRecDepth 100000 in
theorem K_vertex (hx : p.tables.exec = Jvm.exec) (hb : c.code = code) (hml : c.maxLocals = 4) (hown : s.vm.findClass RL = some m.cls) (hts : ∀ w ∈ rsW, w.before #[Value.ref b] s = true) (hK : va_K D vwCl (rs_tys aI aJ aL) s) (hN : rs_N rs_nw s) (hA : ∀ q, s.heap.size ≤ q → A q) (hX : va_X b L xs s s.heap) (hbl : b < s.heap.size) (hbA : ¬ A b) (hL : L ≤ 2048) (hi : i + 4 ≤ L) (hl : lv_has ls 4 [(0, .ref b), (1, .ref h), (2, .ref hm), (3, .int (nI i))]) (hw : rs_LW D aI aJ aL A h hm H) (hS : va_S A s.heap H locs) (kk : ∀ (H : Heap) (locs : List Loc), rs_LW D aI aJ aL A h hm H → va_S A s.heap H locs → W p l e room_1 s m #[Value.ref b] below meth c H locs 39 2081 Q (F0 m 563 ls [])) : W p l e room_1 s m #[Value.ref b] below meth c H locs 39 2081 Q (F0 m 540 ls []) := by
  obtain ⟨dd, dc, di, ds, es, gs, inn, cs, vf, d, tm, a, x, z, hC, hM, hP, hD⟩ := hw
  obtain ⟨dd', dc', di', ds', es', gs', inn', cs', vf', d', tm', a', r, cC, cM⟩ := O_vertex (l := l) (D := D) (aI := aI) (aJ := aJ) (aL := aL) (h := h) (hm := hm) hC hM (xs (i + 1))
  refine lv_aload_n hx hb dL_law_540 rfl (lv_at hl 1 rfl) ?_
  refine lv_aload_n hx hb dL_law_541 rfl (lv_at hl 0 rfl) ?_
  refine lv_iload_n hx hb dL_law_542 rfl (lv_at hl 3 rfl) ?_
  refine lv_iconst hx hb dL_law_543 (v := nI 1) (by decide) ?_
  refine rs_iadd hx hb dL_law_544 (v := nI (i + 1)) (nI_add _ _) ?_
  refine rs_sld hx hb hX hbl hbA hS hL (by omega) dL_law_545 ?_
  refine rs_cVI (rest := []) (wr := rs_wN aI aJ aL hm z) (ws' := fun u => rs_wX aI aJ aL h u.1 ++ rs_wN aI aJ aL hm z) ⟨hx, hb, hml, hown, hts⟩ (cC _) (cwV 1 hts (rs_gV rw_381 rw_382 rw_383 rw_1 rw_384) rfl rfl rfl (by decide +kernel) ⟨Nat.le_of_ble_eq_true rfl, Nat.le_of_ble_eq_true rfl⟩) hK hN hP hD hS hA [0, 1, 2, 3, 4, 5, 6, 7, 8, 9, 10, 11, 12, 13, 14, 15, 16, 17, 18, 19, 20, 21, 22, 23, 24, 25] [26, 27, 28, 29, 30, 31, 32, 33, 34, 35, 36, 37, 38] [13, 14, 15, 16, 17, 18, 19, 20, 21, 22, 23, 24, 25, 26, 27, 28, 29, 30, 31, 32, 33, 34, 35, 36, 37, 38, 0, 1, 2, 3, 4, 5, 6, 7, 8, 9, 10, 11, 12] (by decide) rfl rfl (fun _ => rfl) 0 rfl rfl hl.1 rfl rfl (Nat.le_of_ble_eq_true rfl) dL_law_546 ⟨Nat.le_of_ble_eq_true rfl, Nat.le_of_ble_eq_true rfl⟩ (fun u H locs hP hD hS => ?_)
  have hP : va_P D vwCl (rs_wX aI aJ aL h u.1 ++ rs_wN aI aJ aL hm z) H := hP
  have hD : va_D A (rs_wX aI aJ aL h u.1 ++ rs_wN aI aJ aL hm z) := hD
  refine lv_aload_n hx hb dL_law_549 rfl (lv_at hl 2 rfl) ?_
  refine lv_aload_n hx hb dL_law_550 rfl (lv_at hl 0 rfl) ?_
  refine lv_iload_n hx hb dL_law_551 rfl (lv_at hl 3 rfl) ?_
  refine lv_iconst hx hb dL_law_552 (v := nI 1) (by decide) ?_
  refine rs_iadd hx hb dL_law_553 (v := nI (i + 1)) (nI_add _ _) ?_
  refine rs_sld hx hb hX hbl hbA hS hL (by omega) dL_law_554 ?_
  refine rs_cVI (rest := [.int r]) (wr := rs_wX aI aJ aL h u.1) (ws' := fun v => rs_wX aI aJ aL h u.1 ++ rs_wN aI aJ aL hm v.1) ⟨hx, hb, hml, hown, hts⟩ (cM _) (cwV 1 hts (rs_gV rw_575 rw_576 rw_577 rw_5 rw_578) rfl rfl rfl (by decide +kernel) ⟨Nat.le_of_ble_eq_true rfl, Nat.le_of_ble_eq_true rfl⟩) hK hN hP hD hS hA [26, 27, 28, 29, 30, 31, 32, 33, 34, 35, 36, 37, 38] [0, 1, 2, 3, 4, 5, 6, 7, 8, 9, 10, 11, 12, 13, 14, 15, 16, 17, 18, 19, 20, 21, 22, 23, 24, 25] [0, 1, 2, 3, 4, 5, 6, 7, 8, 9, 10, 11, 12, 13, 14, 15, 16, 17, 18, 19, 20, 21, 22, 23, 24, 25, 26, 27, 28, 29, 30, 31, 32, 33, 34, 35, 36, 37, 38] (by decide) rfl rfl (fun _ => rfl) 26 rfl rfl hl.1 rfl rfl (Nat.le_of_ble_eq_true rfl) dL_law_555 ⟨Nat.le_of_ble_eq_true rfl, Nat.le_of_ble_eq_true rfl⟩ (fun v H locs hP hD hS => ?_)
  refine lv_icmp_eq hx hb dL_law_558 (tgt := 563) rfl (fun _ => ?_) (fun h9 => absurd rfl h9)
  exact kk H locs ⟨dd', dc', di', ds', es', gs', inn', cs', vf', d', tm', a', u.1, v.1, u.2, v.2, hP, hD⟩ hS
end RSK
