/-! The calls that look at the curve, on both sides. -/
theorem rs_2_3 {k : Int32} : nI 2 < k → nI 3 ≤ k := by
  rw [Int32.lt_iff_toInt_lt, Int32.le_iff_toInt_le, nI_toInt (by decide), nI_toInt (by decide)]
  omega
theorem rs_lt0 {k : Int32} : k < nI 0 ↔ k < 0 := by rw [nI_0]
theorem rs_h01 {x : Int32} : (x = 0 ∨ x = nI 1) ↔ (¬ x < 0 ∧ x ≤ nI 1) := by
  constructor
  · rintro (e | e)
    · rw [e]; decide
    · rw [e]; decide
  · rintro ⟨e1, e2⟩
    obtain ⟨j, hj, rfl⟩ := nI_of e1
    have := (nI_leI hj (by decide)).1 e2
    have h : j = 0 ∨ j = 1 := by omega
    rcases h with rfl | rfl
    · exact Or.inl nI_0
    · exact Or.inr rfl
theorem rs_hne {d n : Nat} {tm kn : Nat → Nat} {a : Nat → Nat → Nat → Int} {rz : Nat → Nat → Int64} {pz : Nat → Int64} (hJ : rs_JJ d a tm n kn rz) (hz : rs_pzI pz a) : ∀ u, u ≤ 360 → ¬ rs_pa pz 2 (rs_lj u) (lN (u - 60 * rs_lj u)) = 0 := fun _ hu => (rs_loc_eq hJ.1 hJ.2 hz (ax := 0) (by omega) hu).2
theorem O_control {l : Launch} {D : va_G} {aI aJ aL : ClassId} {h hm : Nat} {dd dc di : Nat} {xs ys wt : Nat → Int32} {inn : Nat → Nat} {cs : Nat} {vf : Nat → Nat} {d : Nat} {tm : Nat → Nat} {a : Nat → Nat → Nat → Int} {x : rs_SC} {z : rs_SM} (hC : rs_RC dd dc di xs ys wt inn cs vf d tm a x) (hM : rs_RM dd dc di xs ys wt inn cs vf d tm a z) (i9 x9 : Int32) : rs_OL l D aI aJ aL h hm yX3_control (Cond.code yX3_control prog_1_method_15_code 3 (some .long)) rm_X3_control yX4_control (Cond.code yX4_control prog_6_method_24_code 3 (some .long)) rm_X4_control [.int i9, .int x9] x z := by
  obtain ⟨qd, qc, ho, tl, vt, xa, ya, q, n, kn, rz, ac, up, ar, wk, q2, d2, n2, kn2, rz2, ac2, up2, ar2, wk2, rfl, hDI, hcs, hvt, hk, hk2, hd3, hn, hz, hJ⟩ := hC
  obtain ⟨qm, pz, tk, nn, vu, po, vl, ea, la, rfl, hvu, htk, hnn, hL⟩ := hM
  rcases rs_rng 0 2 (by decide) (by decide) x9 with hF | ⟨k, -, h2, rfl⟩
  · refine ⟨dd, dc, di, xs, ys, wt, inn, cs, vf, d, tm, a, 0, fun sz => ?_, fun sz => ?_⟩
    · exact rs_ML_map (c_X3_controlF l D aI aJ aL sz h qd dd dc di xs ys wt inn qc cs ho tl vt xa ya q d n kn rz ac up ar wk q2 d2 n2 kn2 rz2 ac2 up2 ar2 wk2 i9 x9 hd3 hn (hF.imp rs_lt0.1 rs_2_3)) (fun _ => ⟨((qd, dd, dc, di, xs, ys, wt, inn), (qc, cs, ho, tl, vt, xa, ya), (q, d, n, kn, rz, ac, up, ar, wk), (q2, d2, n2, kn2, rz2, ac2, up2, ar2, wk2)), ⟨qd, qc, ho, tl, vt, xa, ya, q, n, kn, rz, ac, up, ar, wk, q2, d2, n2, kn2, rz2, ac2, up2, ar2, wk2, rfl, hDI, hcs, hvt, hk, hk2, hd3, hn, hz, hJ⟩⟩) (fun _ => rfl) rfl
    · exact rs_ML_map (c_X4_controlF l D aI aJ aL sz (rs_q0 hm qm) dd dc di xs ys wt inn d tm pz tk nn cs vu po vl ea la i9 x9 hd3 hnn (fun w => by rcases hF with g | g; exact w.2.2.2.1 (rs_lt0.1 g); exact Int32.not_lt.mpr w.2.2.2.2 g)) (fun _ => ⟨(qm, dd, dc, di, xs, ys, wt, inn, d, tm, pz, tk, nn, cs, vu, po, vl, ea, la), ⟨qm, pz, tk, nn, vu, po, vl, ea, la, rfl, hvu, htk, hnn, hL⟩⟩) (fun _ => rfl) rfl
  · have hc9 : ∀ sz, _ := fun sz => c_X3_control l D aI aJ aL sz h qd dd dc di xs ys wt inn qc cs ho tl vt xa ya q d n kn rz ac up ar wk q2 d2 n2 kn2 rz2 ac2 up2 ar2 wk2 i9 k hd3 hn (by omega)
    by_cases hin : 0 < d ∧ ∃ j, j < n ∧ i9 = nI j
    · obtain ⟨h0, j, hj, rfl⟩ := hin
      obtain ⟨l1, l2, l3⟩ := hL h0
      have hjn := (hJ h0).2.1
      refine ⟨dd, dc, di, xs, ys, wt, inn, cs, vf, d, tm, a, rs_num rz n k (nI j), fun sz => ?_, fun sz => ?_⟩
      · exact rs_ML_map (hc9 sz) (fun _ => ⟨((qd, dd, dc, di, xs, ys, wt, inn), (qc, cs, ho, tl, vt, xa, ya), (q, d, n, kn, rz, ac, up, ar, wk), (q2, d2, n2, kn2, rz2, ac2, up2, ar2, wk2)), ⟨qd, qc, ho, tl, vt, xa, ya, q, n, kn, rz, ac, up, ar, wk, q2, d2, n2, kn2, rz2, ac2, up2, ar2, wk2, rfl, hDI, hcs, hvt, hk, hk2, hd3, hn, hz, hJ⟩⟩) (fun _ => rfl) rfl
      · exact rs_ML_map (c_X4_control l D aI aJ aL sz (rs_q0 hm qm) dd dc di xs ys wt inn d tm pz tk nn cs vu po vl ea la j k hd3 hnn h0 (by omega) (by omega) (by rw [l3 j (by omega)]; exact rs_val_5 (by omega))) (fun _ => ⟨(qm, dd, dc, di, xs, ys, wt, inn, d, tm, pz, tk, nn, cs, vu, po, vl, ea, la), ⟨qm, pz, tk, nn, vu, po, vl, ea, la, rfl, hvu, htk, hnn, hL⟩⟩) (fun _ => rfl) (rs_ctl_eq (hJ h0) l1 l3 hj (by omega) hn)
    · have hout : i9 < 0 ∨ nI n ≤ i9 := by
        rcases pk_ix i9 (n := n) (by omega) with g | g | ⟨j, g1, g2⟩
        · exact Or.inl g
        · exact Or.inr g
        · by_cases h0 : 0 < d
          · exact absurd ⟨h0, j, g1, g2⟩ hin
          · have := (hz (by omega)).1
            omega
      refine ⟨dd, dc, di, xs, ys, wt, inn, cs, vf, d, tm, a, 0, fun sz => ?_, fun sz => ?_⟩
      · exact rs_ML_map (hc9 sz) (fun _ => ⟨((qd, dd, dc, di, xs, ys, wt, inn), (qc, cs, ho, tl, vt, xa, ya), (q, d, n, kn, rz, ac, up, ar, wk), (q2, d2, n2, kn2, rz2, ac2, up2, ar2, wk2)), ⟨qd, qc, ho, tl, vt, xa, ya, q, n, kn, rz, ac, up, ar, wk, q2, d2, n2, kn2, rz2, ac2, up2, ar2, wk2, rfl, hDI, hcs, hvt, hk, hk2, hd3, hn, hz, hJ⟩⟩) (fun _ => rfl) (rs_num_0 hout)
      · exact rs_ML_map (c_X4_controlF l D aI aJ aL sz (rs_q0 hm qm) dd dc di xs ys wt inn d tm pz tk nn cs vu po vl ea la i9 (nI k) hd3 hnn (fun w => by
          have e : n = nn := by rw [(hL w.1).2.1]; exact (hJ w.1).2.1
          rcases hout with g | g
          · exact w.2.1 g
          · rw [e] at g; exact w.2.2.1 g)) (fun _ => ⟨(qm, dd, dc, di, xs, ys, wt, inn, d, tm, pz, tk, nn, cs, vu, po, vl, ea, la), ⟨qm, pz, tk, nn, vu, po, vl, ea, la, rfl, hvu, htk, hnn, hL⟩⟩) (fun _ => rfl) rfl
theorem O_span {l : Launch} {D : va_G} {aI aJ aL : ClassId} {h hm : Nat} {dd dc di : Nat} {xs ys wt : Nat → Int32} {inn : Nat → Nat} {cs : Nat} {vf : Nat → Nat} {d : Nat} {tm : Nat → Nat} {a : Nat → Nat → Nat → Int} {x : rs_SC} {z : rs_SM} (hC : rs_RC dd dc di xs ys wt inn cs vf d tm a x) (hM : rs_RM dd dc di xs ys wt inn cs vf d tm a z) (u9 : Int32) : rs_OI l D aI aJ aL h hm yX3_span (Cond.code yX3_span prog_1_method_16_code 2 (some .int)) rm_X3_span yX4_span (Cond.code yX4_span prog_6_method_25_code 2 (some .int)) rm_X4_span [.int u9] x z := by
  obtain ⟨qd, qc, ho, tl, vt, xa, ya, q, n, kn, rz, ac, up, ar, wk, q2, d2, n2, kn2, rz2, ac2, up2, ar2, wk2, rfl, hDI, hcs, hvt, hk, hk2, hd3, hn, hz, hJ⟩ := hC
  obtain ⟨qm, pz, tk, nn, vu, po, vl, ea, la, rfl, hvu, htk, hnn, hL⟩ := hM
  rcases rs_rng 0 360 (by decide) (by decide) u9 with hF | ⟨u, -, hu, rfl⟩
  · refine ⟨dd, dc, di, xs, ys, wt, inn, cs, vf, d, tm, a, (-1), fun sz => ?_, fun sz => ?_⟩
    · exact rs_MI_map (c_X3_spanF l D aI aJ aL sz h qd dd dc di xs ys wt inn qc cs ho tl vt xa ya q d n kn rz ac up ar wk q2 d2 n2 kn2 rz2 ac2 up2 ar2 wk2 u9 hd3 hn (fun w => by rcases hF with g | g; exact w.2.1 (rs_lt0.1 g); exact w.2.2 g)) (fun _ => ⟨((qd, dd, dc, di, xs, ys, wt, inn), (qc, cs, ho, tl, vt, xa, ya), (q, d, n, kn, rz, ac, up, ar, wk), (q2, d2, n2, kn2, rz2, ac2, up2, ar2, wk2)), ⟨qd, qc, ho, tl, vt, xa, ya, q, n, kn, rz, ac, up, ar, wk, q2, d2, n2, kn2, rz2, ac2, up2, ar2, wk2, rfl, hDI, hcs, hvt, hk, hk2, hd3, hn, hz, hJ⟩⟩) (fun _ => rfl) rfl
    · exact rs_MI_map (c_X4_spanF l D aI aJ aL sz (rs_q0 hm qm) dd dc di xs ys wt inn d tm pz tk nn cs vu po vl ea la u9 hd3 hnn (fun w => by rcases hF with g | g; exact w.2.1 (rs_lt0.1 g); exact w.2.2 g)) (fun _ => ⟨(qm, dd, dc, di, xs, ys, wt, inn, d, tm, pz, tk, nn, cs, vu, po, vl, ea, la), ⟨qm, pz, tk, nn, vu, po, vl, ea, la, rfl, hvu, htk, hnn, hL⟩⟩) (fun _ => rfl) rfl
  · by_cases h0 : 0 < d
    · obtain ⟨l1, l2, l3⟩ := hL h0
      have hb9 := rs_jb tm n kn rz (hJ h0)
      have hjn := (hJ h0).2.1
      have e : rs_ms tk d u (nn - d) = rs_sp kn d u (n - (d + 1)) := by
        rw [l2, ← hjn]
        exact (rs_span_eq hb9.1 (fun i hi => ((hJ h0).2.2.1 i hi).trans (l3 i (by omega)).symm)).symm
      refine ⟨dd, dc, di, xs, ys, wt, inn, cs, vf, d, tm, a, nI (rs_sp kn d u (n - (d + 1))), fun sz => ?_, fun sz => ?_⟩
      · exact rs_MI_map (c_X3_span l D aI aJ aL sz h qd dd dc di xs ys wt inn qc cs ho tl vt xa ya q d n kn rz ac up ar wk q2 d2 n2 kn2 rz2 ac2 up2 ar2 wk2 u hd3 hn hk h0 hu) (fun _ => ⟨((qd, dd, dc, di, xs, ys, wt, inn), (qc, cs, ho, tl, vt, xa, ya), (q, d, n, kn, rz, ac, up, ar, wk), (q2, d2, n2, kn2, rz2, ac2, up2, ar2, wk2)), ⟨qd, qc, ho, tl, vt, xa, ya, q, n, kn, rz, ac, up, ar, wk, q2, d2, n2, kn2, rz2, ac2, up2, ar2, wk2, rfl, hDI, hcs, hvt, hk, hk2, hd3, hn, hz, hJ⟩⟩) (fun _ => rfl) rfl
      · exact rs_MI_map (c_X4_span l D aI aJ aL sz (rs_q0 hm qm) dd dc di xs ys wt inn d tm pz tk nn cs vu po vl ea la u hd3 hnn htk h0 hu) (fun _ => ⟨(qm, dd, dc, di, xs, ys, wt, inn, d, tm, pz, tk, nn, cs, vu, po, vl, ea, la), ⟨qm, pz, tk, nn, vu, po, vl, ea, la, rfl, hvu, htk, hnn, hL⟩⟩) (fun _ => rfl) (congrArg nI e)
    · refine ⟨dd, dc, di, xs, ys, wt, inn, cs, vf, d, tm, a, (-1), fun sz => ?_, fun sz => ?_⟩
      · exact rs_MI_map (c_X3_spanF l D aI aJ aL sz h qd dd dc di xs ys wt inn qc cs ho tl vt xa ya q d n kn rz ac up ar wk q2 d2 n2 kn2 rz2 ac2 up2 ar2 wk2 (nI u) hd3 hn (fun w => h0 w.1)) (fun _ => ⟨((qd, dd, dc, di, xs, ys, wt, inn), (qc, cs, ho, tl, vt, xa, ya), (q, d, n, kn, rz, ac, up, ar, wk), (q2, d2, n2, kn2, rz2, ac2, up2, ar2, wk2)), ⟨qd, qc, ho, tl, vt, xa, ya, q, n, kn, rz, ac, up, ar, wk, q2, d2, n2, kn2, rz2, ac2, up2, ar2, wk2, rfl, hDI, hcs, hvt, hk, hk2, hd3, hn, hz, hJ⟩⟩) (fun _ => rfl) rfl
      · exact rs_MI_map (c_X4_spanF l D aI aJ aL sz (rs_q0 hm qm) dd dc di xs ys wt inn d tm pz tk nn cs vu po vl ea la (nI u) hd3 hnn (fun w => h0 w.1)) (fun _ => ⟨(qm, dd, dc, di, xs, ys, wt, inn, d, tm, pz, tk, nn, cs, vu, po, vl, ea, la), ⟨qm, pz, tk, nn, vu, po, vl, ea, la, rfl, hvu, htk, hnn, hL⟩⟩) (fun _ => rfl) rfl
theorem O_basis {l : Launch} {D : va_G} {aI aJ aL : ClassId} {h hm : Nat} {dd dc di : Nat} {xs ys wt : Nat → Int32} {inn : Nat → Nat} {cs : Nat} {vf : Nat → Nat} {d : Nat} {tm : Nat → Nat} {a : Nat → Nat → Nat → Int} {x : rs_SC} {z : rs_SM} (hC : rs_RC dd dc di xs ys wt inn cs vf d tm a x) (hM : rs_RM dd dc di xs ys wt inn cs vf d tm a z) (i9 u9 : Int32) : rs_OL l D aI aJ aL h hm yX3_basis (Cond.code yX3_basis prog_1_method_17_code 3 (some .long)) rm_X3_basis yX4_basis (Cond.code yX4_basis prog_6_method_26_code 12 (some .long)) rm_X4_basis [.int i9, .int u9] x z := by
  obtain ⟨qd, qc, ho, tl, vt, xa, ya, q, n, kn, rz, ac, up, ar, wk, q2, d2, n2, kn2, rz2, ac2, up2, ar2, wk2, rfl, hDI, hcs, hvt, hk, hk2, hd3, hn, hz, hJ⟩ := hC
  obtain ⟨qm, pz, tk, nn, vu, po, vl, ea, la, rfl, hvu, htk, hnn, hL⟩ := hM
  have eN : 0 < d → n = nn := fun h0 => by
    rw [(hL h0).2.1]
    exact (hJ h0).2.1
  by_cases hT : 0 < d ∧ (¬ u9 < 0 ∧ ¬ nI 360 < u9) ∧ ¬ i9 < 0 ∧ i9 < nI n
  · obtain ⟨h0, ⟨hu1, hu2⟩, hi1, hi2⟩ := hT
    obtain ⟨l1, l2, l3⟩ := hL h0
    have hb9 := rs_jb tm n kn rz (hJ h0)
    have hjn := (hJ h0).2.1
    obtain ⟨u, hu9, rfl⟩ := nI_of hu1
    obtain ⟨i, hi9, rfl⟩ := nI_of hi1
    have hu : u ≤ 360 := Nat.le_of_not_lt (fun w => hu2 ((nI_ltI (by decide) hu9).2 w))
    have hi : i < n := (nI_ltI hi9 (by omega)).1 hi2
    have e : rs_ms tk d u (nn - d) = rs_sp kn d u (n - (d + 1)) := by
      rw [l2, ← hjn]
      exact (rs_span_eq hb9.1 (fun i hi => ((hJ h0).2.2.1 i hi).trans (l3 i (by omega)).symm)).symm
    have eb := rs_basis_eq (kn := kn) (tk := tk) (i := i) (u := u) (r := rs_sp kn d u (n - (d + 1))) h0 hd3 (rs_sp_le kn d u _).1 (fun x hx => ((hJ h0).2.2.1 x (by omega)).trans (l3 x (by omega)).symm)
    refine ⟨dd, dc, di, xs, ys, wt, inn, cs, vf, d, tm, a, rs_p60 (rs_bs kn d i u (rs_sp kn d u (n - (d + 1))) d 0) (3 - d), fun sz => ?_, fun sz => ?_⟩
    · exact rs_ML_map (c_X3_basis l D aI aJ aL sz h qd dd dc di xs ys wt inn qc cs ho tl vt xa ya q d n kn rz ac up ar wk q2 d2 n2 kn2 rz2 ac2 up2 ar2 wk2 i u hd3 hn hk h0 hu hi) (fun v => ⟨((qd, dd, dc, di, xs, ys, wt, inn), (qc, cs, ho, tl, vt, xa, ya), (q, d, n, kn, rz, ac, up, ar, v), (q2, d2, n2, kn2, rz2, ac2, up2, ar2, wk2)), ⟨qd, qc, ho, tl, vt, xa, ya, q, n, kn, rz, ac, up, ar, v, q2, d2, n2, kn2, rz2, ac2, up2, ar2, wk2, rfl, hDI, hcs, hvt, hk, hk2, hd3, hn, hz, hJ⟩⟩) (fun _ => rfl) rfl
    · exact rs_ML_map (c_X4_basis l D aI aJ aL sz (rs_q0 hm qm) dd dc di xs ys wt inn d tm pz tk nn cs vu po vl ea la i u h0 hd3 hnn (by omega) htk hu (by omega)) (fun v => ⟨(qm, dd, dc, di, xs, ys, wt, inn, d, tm, pz, tk, nn, cs, vu, po, v, ea, la), ⟨qm, pz, tk, nn, vu, po, v, ea, la, rfl, hvu, htk, hnn, hL⟩⟩) (fun _ => rfl) (by rw [e, eb])
  · refine ⟨dd, dc, di, xs, ys, wt, inn, cs, vf, d, tm, a, (-1), fun sz => ?_, fun sz => ?_⟩
    · exact rs_ML_map (c_X3_basisF l D aI aJ aL sz h qd dd dc di xs ys wt inn qc cs ho tl vt xa ya q d n kn rz ac up ar wk q2 d2 n2 kn2 rz2 ac2 up2 ar2 wk2 i9 u9 hd3 hn hT) (fun _ => ⟨((qd, dd, dc, di, xs, ys, wt, inn), (qc, cs, ho, tl, vt, xa, ya), (q, d, n, kn, rz, ac, up, ar, wk), (q2, d2, n2, kn2, rz2, ac2, up2, ar2, wk2)), ⟨qd, qc, ho, tl, vt, xa, ya, q, n, kn, rz, ac, up, ar, wk, q2, d2, n2, kn2, rz2, ac2, up2, ar2, wk2, rfl, hDI, hcs, hvt, hk, hk2, hd3, hn, hz, hJ⟩⟩) (fun _ => rfl) rfl
    · exact rs_ML_map (c_X4_basisF l D aI aJ aL sz (rs_q0 hm qm) dd dc di xs ys wt inn d tm pz tk nn cs vu po vl ea la i9 u9 hd3 hnn (fun w => hT (by rw [eN w.1]; exact w))) (fun _ => ⟨(qm, dd, dc, di, xs, ys, wt, inn, d, tm, pz, tk, nn, cs, vu, po, vl, ea, la), ⟨qm, pz, tk, nn, vu, po, vl, ea, la, rfl, hvu, htk, hnn, hL⟩⟩) (fun _ => rfl) rfl
theorem O_locate {l : Launch} {D : va_G} {aI aJ aL : ClassId} {h hm : Nat} {dd dc di : Nat} {xs ys wt : Nat → Int32} {inn : Nat → Nat} {cs : Nat} {vf : Nat → Nat} {d : Nat} {tm : Nat → Nat} {a : Nat → Nat → Nat → Int} {x : rs_SC} {z : rs_SM} (hC : rs_RC dd dc di xs ys wt inn cs vf d tm a x) (hM : rs_RM dd dc di xs ys wt inn cs vf d tm a z) (u9 x9 : Int32) : rs_OI l D aI aJ aL h hm yX3_locate (Cond.code yX3_locate prog_1_method_18_code 3 (some .int)) rm_X3_locate yX4_locate (Cond.code yX4_locate prog_6_method_28_code 10 (some .int)) rm_X4_locate [.int u9, .int x9] x z := by
  obtain ⟨qd, qc, ho, tl, vt, xa, ya, q, n, kn, rz, ac, up, ar, wk, q2, d2, n2, kn2, rz2, ac2, up2, ar2, wk2, rfl, hDI, hcs, hvt, hk, hk2, hd3, hn, hz, hJ⟩ := hC
  obtain ⟨qm, pz, tk, nn, vu, po, vl, ea, la, rfl, hvu, htk, hnn, hL⟩ := hM
  by_cases hT : 0 < d ∧ (¬ u9 < 0 ∧ ¬ nI 360 < u9) ∧ (¬ x9 < 0 ∧ x9 ≤ nI 1)
  · obtain ⟨h0, ⟨hu1, hu2⟩, hi1, hi2⟩ := hT
    obtain ⟨l1, l2, l3⟩ := hL h0
    have hb9 := rs_jb tm n kn rz (hJ h0)
    obtain ⟨u, hu9, rfl⟩ := nI_of hu1
    obtain ⟨k, hk9, rfl⟩ := nI_of hi1
    have hu : u ≤ 360 := Nat.le_of_not_lt (fun w => hu2 ((nI_ltI (by decide) hu9).2 w))
    have hk1 : k ≤ 1 := (nI_leI hk9 (by decide)).1 hi2
    have e := (rs_loc_eq (hJ h0).1 (hJ h0).2 l1 (u := u) (ax := k) (by omega) hu).1
    refine ⟨dd, dc, di, xs, ys, wt, inn, cs, vf, d, tm, a, rs_loc pz k u, fun sz => ?_, fun sz => ?_⟩
    · exact rs_MI_map (c_X3_locate l D aI aJ aL sz h qd dd dc di xs ys wt inn qc cs ho tl vt xa ya q d n kn rz ac up ar wk q2 d2 n2 kn2 rz2 ac2 up2 ar2 wk2 u k hd3 hn hk h0 hb9.1 hu hk1) (fun v => ⟨((qd, dd, dc, di, xs, ys, wt, inn), (qc, cs, ho, tl, vt, xa, ya), (q, d, n, kn, rz, (rs_th (rs_bl kn d n rz (fun _ => u) 0 (rs_sp kn d u (n - (d + 1))) d d) (rs_bl kn d n rz (fun _ => u) 2 (rs_sp kn d u (n - (d + 1))) d d)), (rs_th (rs_bl kn d n rz (fun _ => u) 1 (rs_sp kn d u (n - (d + 1))) d d) (rs_bl kn d n rz (fun _ => u) 2 (rs_sp kn d u (n - (d + 1))) d d)), v.1, v.2), (q2, d2, n2, kn2, rz2, ac2, up2, ar2, wk2)), ⟨qd, qc, ho, tl, vt, xa, ya, q, n, kn, rz, (rs_th (rs_bl kn d n rz (fun _ => u) 0 (rs_sp kn d u (n - (d + 1))) d d) (rs_bl kn d n rz (fun _ => u) 2 (rs_sp kn d u (n - (d + 1))) d d)), (rs_th (rs_bl kn d n rz (fun _ => u) 1 (rs_sp kn d u (n - (d + 1))) d d) (rs_bl kn d n rz (fun _ => u) 2 (rs_sp kn d u (n - (d + 1))) d d)), v.1, v.2, q2, d2, n2, kn2, rz2, ac2, up2, ar2, wk2, rfl, hDI, hcs, hvt, hk, hk2, hd3, hn, hz, hJ⟩⟩) (fun _ => rfl) e
    · exact rs_MI_map (c_X4_locate l D aI aJ aL sz (rs_q0 hm qm) dd dc di xs ys wt inn d tm pz tk nn cs vu po vl ea la u k h0 hd3 hu hk1 (rs_hne (hJ h0) l1 u hu)) (fun _ => ⟨(qm, dd, dc, di, xs, ys, wt, inn, d, tm, pz, tk, nn, cs, vu, po, vl, ea, la), ⟨qm, pz, tk, nn, vu, po, vl, ea, la, rfl, hvu, htk, hnn, hL⟩⟩) (fun _ => rfl) rfl
  · refine ⟨dd, dc, di, xs, ys, wt, inn, cs, vf, d, tm, a, (-2147483648), fun sz => ?_, fun sz => ?_⟩
    · exact rs_MI_map (c_X3_locateF l D aI aJ aL sz h qd dd dc di xs ys wt inn qc cs ho tl vt xa ya q d n kn rz ac up ar wk q2 d2 n2 kn2 rz2 ac2 up2 ar2 wk2 u9 x9 hd3 hn (fun w => hT ⟨w.1, w.2.1, rs_h01.1 w.2.2⟩)) (fun _ => ⟨((qd, dd, dc, di, xs, ys, wt, inn), (qc, cs, ho, tl, vt, xa, ya), (q, d, n, kn, rz, ac, up, ar, wk), (q2, d2, n2, kn2, rz2, ac2, up2, ar2, wk2)), ⟨qd, qc, ho, tl, vt, xa, ya, q, n, kn, rz, ac, up, ar, wk, q2, d2, n2, kn2, rz2, ac2, up2, ar2, wk2, rfl, hDI, hcs, hvt, hk, hk2, hd3, hn, hz, hJ⟩⟩) (fun _ => rfl) rfl
    · exact rs_MI_map (c_X4_locateF l D aI aJ aL sz (rs_q0 hm qm) dd dc di xs ys wt inn d tm pz tk nn cs vu po vl ea la u9 x9 hd3 hT) (fun _ => ⟨(qm, dd, dc, di, xs, ys, wt, inn, d, tm, pz, tk, nn, cs, vu, po, vl, ea, la), ⟨qm, pz, tk, nn, vu, po, vl, ea, la, rfl, hvu, htk, hnn, hL⟩⟩) (fun _ => rfl) rfl
theorem O_tessellate {l : Launch} {D : va_G} {aI aJ aL : ClassId} {h hm : Nat} {dd dc di : Nat} {xs ys wt : Nat → Int32} {inn : Nat → Nat} {cs : Nat} {vf : Nat → Nat} {d : Nat} {tm : Nat → Nat} {a : Nat → Nat → Nat → Int} {x : rs_SC} {z : rs_SM} (hC : rs_RC dd dc di xs ys wt inn cs vf d tm a x) (hM : rs_RM dd dc di xs ys wt inn cs vf d tm a z) (o9 t9 e9 : Int32) : rs_OI l D aI aJ aL h hm yX3_tessellate (Cond.code yX3_tessellate prog_1_method_19_code 4 (some .int)) rm_X3_tessellate yX4_tessellate (Cond.code yX4_tessellate prog_6_method_31_code 6 (some .int)) rm_X4_tessellate [.int o9, .int t9, .int e9] x z := by
  obtain ⟨qd, qc, ho, tl, vt, xa, ya, q, n, kn, rz, ac, up, ar, wk, q2, d2, n2, kn2, rz2, ac2, up2, ar2, wk2, rfl, hDI, hcs, hvt, hk, hk2, hd3, hn, hz, hJ⟩ := hC
  obtain ⟨qm, pz, tk, nn, vu, po, vl, ea, la, rfl, hvu, htk, hnn, hL⟩ := hM
  by_cases hT : 0 < d ∧ (o9 = 0 ∨ o9 = nI 1) ∧ ¬ t9 < 0 ∧ ¬ e9 < 0 ∧ e9 ≤ nI 6
  · obtain ⟨h0, ho9, ht9, he1, he2⟩ := hT
    obtain ⟨l1, l2, l3⟩ := hL h0
    have hb9 := rs_jb tm n kn rz (hJ h0)
    have hjn := (hJ h0).2.1
    have hjk := (hJ h0).2.2.1
    have htm := (hJ h0).1.2.1
    obtain ⟨ho1, ho2⟩ := rs_h01.1 ho9
    obtain ⟨e, he9, rfl⟩ := nI_of he1
    have he : e ≤ 6 := (nI_leI he9 (by decide)).1 he2
    have eq := rs_tess_eq (hJ h0).1 (hJ h0).2 l1 (how := o9) (tol := t9) ht9 e
    have cC := fun sz => c_X3_tessellate l D aI aJ aL sz h qd dd dc di xs ys wt inn qc cs ho tl vt xa ya q d n kn rz ac up ar wk q2 d2 n2 kn2 rz2 ac2 up2 ar2 wk2 o9 t9 e hd3 hn hk h0 hb9.1 ho9 ht9 he (fun i _ hi => by rw [hjk i (by omega), hjk (i + 1) (by omega)]; exact rs_val_mono (rs_cu_asc d tm) (Nat.le_succ _)) (by rw [hjk d (by omega)]; exact rs_tg (Nat.le_refl _))
    have cM := fun sz => c_X4_tessellate l D aI aJ aL sz (rs_q0 hm qm) dd dc di xs ys wt inn d tm pz tk nn cs vu po vl ea la o9 t9 e h0 hd3 (fun j => Nat.le_trans (htm j) hd3) ho1 (Int32.not_lt.mpr ho2) ht9 he (rs_hne (hJ h0) l1)
    have hlen := rs_tel_b (fun x y => decide (0 < rs_sa pz o9 t9 x y 2)) e tm 6
    rw [eq] at cC
    generalize (rs_tel (fun x y => decide (0 < rs_sa pz o9 t9 x y 2)) e tm 6) = L at cC cM hlen
    refine ⟨dd, dc, di, xs, ys, wt, inn, L.1.length, (fun i => L.1.getD i 0), d, tm, a, nI (L.1.length - 1), fun sz => ?_, fun sz => ?_⟩
    · exact rs_MI_map (cC sz) (fun v => ⟨((qd, dd, dc, di, xs, ys, wt, inn), (qc, L.1.length, o9, t9, rs_lay vt 0 L.1, v.1, v.2.1), (q, d, n, kn, rz, v.2.2.1, v.2.2.2.1, v.2.2.2.2.1, v.2.2.2.2.2), (q2, d2, n2, kn2, rz2, ac2, up2, ar2, wk2)), ⟨qd, qc, o9, t9, rs_lay vt 0 L.1, v.1, v.2.1, q, n, kn, rz, v.2.2.1, v.2.2.2.1, v.2.2.2.2.1, v.2.2.2.2.2, q2, d2, n2, kn2, rz2, ac2, up2, ar2, wk2, rfl, hDI, (by omega), (fun i hi => rs_lay_get vt L.1 hi), hk, hk2, hd3, hn, hz, hJ⟩⟩) (fun _ => rfl) rfl
    · exact rs_MI_map (cM sz) (fun v => ⟨(qm, dd, dc, di, xs, ys, wt, inn, d, tm, pz, tk, nn, L.1.length, rs_lay vu 0 L.1, po, vl, v.1, v.2), ⟨qm, pz, tk, nn, rs_lay vu 0 L.1, po, vl, v.1, v.2, rfl, (fun i hi => rs_lay_get vu L.1 hi), htk, hnn, hL⟩⟩) (fun _ => rfl) rfl
  · refine ⟨dd, dc, di, xs, ys, wt, inn, cs, vf, d, tm, a, (-1), fun sz => ?_, fun sz => ?_⟩
    · exact rs_MI_map (c_X3_tessellateF l D aI aJ aL sz h qd dd dc di xs ys wt inn qc cs ho tl vt xa ya q d n kn rz ac up ar wk q2 d2 n2 kn2 rz2 ac2 up2 ar2 wk2 o9 t9 e9 hd3 hn hT) (fun _ => ⟨((qd, dd, dc, di, xs, ys, wt, inn), (qc, cs, ho, tl, vt, xa, ya), (q, d, n, kn, rz, ac, up, ar, wk), (q2, d2, n2, kn2, rz2, ac2, up2, ar2, wk2)), ⟨qd, qc, ho, tl, vt, xa, ya, q, n, kn, rz, ac, up, ar, wk, q2, d2, n2, kn2, rz2, ac2, up2, ar2, wk2, rfl, hDI, hcs, hvt, hk, hk2, hd3, hn, hz, hJ⟩⟩) (fun _ => rfl) rfl
    · exact rs_MI_map (c_X4_tessellateF l D aI aJ aL sz (rs_q0 hm qm) dd dc di xs ys wt inn d tm pz tk nn cs vu po vl ea la o9 t9 e9 hd3 (fun w => hT ⟨w.1, rs_h01.2 ⟨w.2.1, Int32.not_lt.mp w.2.2.1⟩, w.2.2.2⟩)) (fun _ => ⟨(qm, dd, dc, di, xs, ys, wt, inn, d, tm, pz, tk, nn, cs, vu, po, vl, ea, la), ⟨qm, pz, tk, nn, vu, po, vl, ea, la, rfl, hvu, htk, hnn, hL⟩⟩) (fun _ => rfl) rfl
