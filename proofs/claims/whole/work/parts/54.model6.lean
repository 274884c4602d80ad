def rm_X4_cutUp : Room := { frames := 4, cells := 0, slots := 0, locals := 341 }
set_option maxHeartbeats 4000000 in
set_option maxRecDepth 100000 in
theorem c_X4_cutUp (l : Launch) (D : va_G) (aI aJ aL : ClassId) (sz : Nat) (q : Nat → Nat) (dd : Nat) (dp : Nat) (dk : Nat) (dx : Nat → Int32) (dy : Nat → Int32) (dw : Nat → Int32) (dn : Nat → Nat) (g : Nat) (tm : Nat → Nat) (pz : Nat → Int64) (tk : Nat → Nat) (nn : Nat) (vn : Nat) (vt : Nat → Nat) (po : Nat → Int64) (vl : Nat → Int64) (ea : Nat → Nat) (la : Nat → Nat) (a : Nat) (b : Nat) (how : Int32) (tol : Int32) (dep : Nat) (hg1 : 1 ≤ g) (hg : g ≤ 3) (hab : a < b) (hb9 : b ≤ 360) (hdep : dep ≤ 6) (hvn : vn ≤ a + 1) (hne : ∀ u, u ≤ 360 → ¬ rs_pa pz 2 (rs_lj u) (lN (u - 60 * rs_lj u)) = 0) : rs_MV (S := (Nat → Nat) × (Nat → Nat)) l yX4_cutUp (Cond.code yX4_cutUp prog_6_method_30_code 10 none :: rsW) rm_X4_cutUp D vwCl (rs_tys aI aJ aL) rs_nw [.ref (q 0), .int (nI a), .int (nI b), .int how, .int tol, .int (nI dep)] (wM aI aJ aL q dd dp dk dx dy dw dn g tm pz tk nn vn vt po vl ea la) sz (fun uu => wM aI aJ aL q dd dp dk dx dy dw dn g tm pz tk nn (vn + (rs_cut (fun x y => decide (0 < rs_sa pz how tol x y 2)) dep a b).length) (rs_lay vt vn (rs_cut (fun x y => decide (0 < rs_sa pz how tol x y 2)) dep a b)) po vl uu.1 uu.2) := by
  refine rs_ent (cc := cX4_cutUp) (maxL := 10) (ret := none) (Qc := rs_QV D vwCl _ _) (by decide) rfl (Nat.le_of_ble_eq_true rfl) ?_
  intro p e s m args below meth c ls A Q hx hb hr hml hlk hts hown hin hK hN hP hD hS hA hQ hl
  have hl : lv_has ls 10 [(0, .ref (q 0)), (1, .int (nI a)), (2, .int (nI b)), (3, .int how), (4, .int tol), (5, .int (nI dep))] := hl
  refine lv_iload_n hx hb dX4_cutUp_0 rfl (lv_at hl 1 rfl) ?_
  refine lv_istore hx hb dX4_cutUp_1 hl (lv' := [(6, .int (nI a)), (0, .ref (q 0)), (1, .int (nI a)), (2, .int (nI b)), (3, .int how), (4, .int tol), (5, .int (nI dep))]) (by decide) rfl (fun ls hl => ?_)
  refine lv_iconst hx hb dX4_cutUp_3 (v := nI 1) (by decide) ?_
  refine lv_istore hx hb dX4_cutUp_4 hl (lv' := [(7, .int (nI 1)), (6, .int (nI a)), (0, .ref (q 0)), (1, .int (nI a)), (2, .int (nI b)), (3, .int how), (4, .int tol), (5, .int (nI dep))]) (by decide) rfl (fun ls hl => ?_)
  refine lv_aload_n hx hb dX4_cutUp_6 rfl (lv_at hl 2 rfl) ?_
  refine va_get hx hb hts inX4 hown hK hP 0 (ci := 4) (C := RX4) (T := TX4) (N := 18) rfl rfl 16 (by decide) (hts _ rw_407) (fun _ h => h) (v := .ref (q 11)) rfl dX4_cutUp_7 ?_
  refine lv_iconst hx hb dX4_cutUp_10 (v := nI 0) (by decide) ?_
  refine lv_iload_n hx hb dX4_cutUp_11 rfl (lv_at hl 4 rfl) ?_
  refine rs_iast hx hb hK hP hD hS 11 0 rfl rfl (i := 0) (by omega) (by decide) (rs_upI _ _ _) dX4_cutUp_12 (ws' := wM aI aJ aL q dd dp dk dx dy dw dn g tm pz tk nn vn vt po vl (rs_up ea 0 b) la) rfl (fun H locs hP hD hS => ?_)
  refine lv_aload_n hx hb dX4_cutUp_13 rfl (lv_at hl 2 rfl) ?_
  refine va_get hx hb hts inX4 hown hK hP 0 (ci := 4) (C := RX4) (T := TX4) (N := 18) rfl rfl 17 (by decide) (hts _ rw_408) (fun _ h => h) (v := .ref (q 12)) rfl dX4_cutUp_14 ?_
  refine lv_iconst hx hb dX4_cutUp_17 (v := nI 0) (by decide) ?_
  refine lv_iload hx hb dX4_cutUp_18 (lv_at hl 7 rfl) ?_
  refine rs_iast hx hb hK hP hD hS 12 0 rfl rfl (i := 0) (by omega) (by decide) (rs_upI _ _ _) dX4_cutUp_20 (ws' := wM aI aJ aL q dd dp dk dx dy dw dn g tm pz tk nn vn vt po vl (rs_up ea 0 b) (rs_up la 0 dep)) rfl (fun H locs hP hD hS => ?_)
  have L_21 : ∀ (k_21 : Nat) (sz9 : Nat) (fr : Nat) (ea : Nat → Nat) (la : Nat → Nat) (L9 : List Nat) (H : Heap) (locs : List Loc) (ls : Array Slot), rs_mu la sz9 < k_21 → (rs_SI (fun x y => decide (0 < rs_sa pz how tol x y 2)) dep a b fr sz9 ea la L9) → lv_has ls 10 [(0, .ref (q 0)), (3, .int how), (4, .int tol), (6, .int (nI fr)), (7, .int (nI sz9))] → va_P D vwCl (wM aI aJ aL q dd dp dk dx dy dw dn g tm pz tk nn (vn + L9.length) (rs_lay vt vn L9) po vl ea la) H → va_D A (wM aI aJ aL q dd dp dk dx dy dw dn g tm pz tk nn (vn + L9.length) (rs_lay vt vn L9) po vl ea la) → va_S A s.heap H locs → W p l e rm_X4_cutUp s m args below meth c H locs 0 0 Q (F0 m 21 ls []) := by
    intro k_21
    induction k_21 with
    | zero => intro sz9 fr ea la L9 H locs ls hk_21; exact absurd hk_21 (Nat.not_lt_zero _)
    | succ k_21 ih_21 =>
      intro sz9 fr ea la L9 H locs ls hk_21 hSI hl hP hD hS
      have hs7 := rs_SI_s hSI
      refine lv_iload hx hb dX4_cutUp_21 (lv_at hl 4 rfl) ?_
      refine lv_if_le hx hb dX4_cutUp_23 (tgt := 151) rfl (fun h_23 => ?_) (fun h_23 => ?_)
      · have h_23 : sz9 = 0 := rs_z5 (by omega) h_23
        have hL9 := rs_SI_e hSI (by omega)
        subst hL9
        exact rs_vret (ea, la) hx hb hr hlk hQ hK hP hD hS rfl dX4_cutUp_151
      · have h_23 : 0 < sz9 := rs_z6 (by omega) h_23
        have hb8 := rs_SI_b hSI (by omega) hab
        refine lv_aload_n hx hb dX4_cutUp_26 rfl (lv_at hl 0 rfl) ?_
        refine va_get hx hb hts inX4 hown hK hP 0 (ci := 4) (C := RX4) (T := TX4) (N := 18) rfl rfl 16 (by decide) (hts _ rw_407) (fun _ h => h) (v := .ref (q 11)) rfl dX4_cutUp_27 ?_
        refine lv_iload hx hb dX4_cutUp_30 (lv_at hl 4 rfl) ?_
        refine lv_iconst hx hb dX4_cutUp_32 (v := nI 1) (by decide) ?_
        refine rs_isub hx hb dX4_cutUp_33 (v := nI (sz9 - 1)) (pk_sub (by omega)) ?_
        refine rs_iald hx hb hK hP 11 0 rfl rfl (i := (sz9 - 1)) (by omega) (by decide) (v := nI (ea (sz9 - 1))) rfl dX4_cutUp_34 ?_
        refine lv_istore hx hb dX4_cutUp_35 hl (lv' := [(8, .int (nI (ea (sz9 - 1)))), (0, .ref (q 0)), (3, .int how), (4, .int tol), (6, .int (nI fr)), (7, .int (nI sz9))]) (by decide) rfl (fun ls hl => ?_)
        refine lv_aload_n hx hb dX4_cutUp_37 rfl (lv_at hl 1 rfl) ?_
        refine va_get hx hb hts inX4 hown hK hP 0 (ci := 4) (C := RX4) (T := TX4) (N := 18) rfl rfl 17 (by decide) (hts _ rw_408) (fun _ h => h) (v := .ref (q 12)) rfl dX4_cutUp_38 ?_
        refine lv_iload hx hb dX4_cutUp_41 (lv_at hl 5 rfl) ?_
        refine lv_iconst hx hb dX4_cutUp_43 (v := nI 1) (by decide) ?_
        refine rs_isub hx hb dX4_cutUp_44 (v := nI (sz9 - 1)) (pk_sub (by omega)) ?_
        refine rs_iald hx hb hK hP 12 0 rfl rfl (i := (sz9 - 1)) (by omega) (by decide) (v := nI (la (sz9 - 1))) rfl dX4_cutUp_45 ?_
        refine lv_istore hx hb dX4_cutUp_46 hl (lv' := [(9, .int (nI (la (sz9 - 1)))), (8, .int (nI (ea (sz9 - 1)))), (0, .ref (q 0)), (3, .int how), (4, .int tol), (6, .int (nI fr)), (7, .int (nI sz9))]) (by decide) rfl (fun ls hl => ?_)
        refine lv_iload hx hb dX4_cutUp_48 (lv_at hl 0 rfl) ?_
        refine lv_if_eq hx hb dX4_cutUp_50 (tgt := 76) rfl (fun h_50 => ?_) (fun h_50 => ?_)
        · have h_50 : (la (sz9 - 1)) = 0 := rs_z1 (by omega) h_50
          refine lv_aload_n hx hb dX4_cutUp_76 rfl (lv_at hl 2 rfl) ?_
          refine va_get hx hb hts inX4 hown hK hP 0 (ci := 4) (C := RX4) (T := TX4) (N := 18) rfl rfl 13 (by decide) (hts _ rw_404) (fun _ h => h) (v := .ref (q 8)) rfl dX4_cutUp_77 ?_
          refine lv_aload_n hx hb dX4_cutUp_80 rfl (lv_at hl 2 rfl) ?_
          refine va_get hx hb hts inX4 hown hK hP 0 (ci := 4) (C := RX4) (T := TX4) (N := 18) rfl rfl 12 (by decide) (hts _ rw_403) (fun _ h => h) (v := .int (nI (vn + L9.length))) rfl dX4_cutUp_81 ?_
          refine lv_iload hx hb dX4_cutUp_84 (lv_at hl 1 rfl) ?_
          refine rs_iast hx hb hK hP hD hS 8 0 rfl rfl (i := (vn + L9.length)) (by omega) (by decide) (rs_upI _ _ _) dX4_cutUp_86 (ws' := wM aI aJ aL q dd dp dk dx dy dw dn g tm pz tk nn (vn + L9.length) (rs_up (rs_lay vt vn L9) (vn + L9.length) (ea (sz9 - 1))) po vl ea la) rfl (fun H locs hP hD hS => ?_)
          refine lv_aload_n hx hb dX4_cutUp_87 rfl (lv_at hl 2 rfl) ?_
          refine lv_dup hx hb dX4_cutUp_88 rfl ?_
          refine va_get hx hb hts inX4 hown hK hP 0 (ci := 4) (C := RX4) (T := TX4) (N := 18) rfl rfl 12 (by decide) (hts _ rw_403) (fun _ h => h) (v := .int (nI (vn + L9.length))) rfl dX4_cutUp_89 ?_
          refine lv_iconst hx hb dX4_cutUp_92 (v := nI 1) (by decide) ?_
          refine rs_iadd hx hb dX4_cutUp_93 (v := nI ((vn + L9.length) + 1)) (nI_add _ _) ?_
          refine va_put hx hb hts inX4 (ty0 := tyX4) tyX4_ok nmX4 hown hK hP hD hS 0 (ci := 4) (C := RX4) (T := TX4) (N := 18) rfl rfl 12 (by decide) (hts _ rw_403) (fun _ h => h) rfl (ty := .int) (by decide +kernel) rfl rfl (Nat.le_of_ble_eq_true rfl) dX4_cutUp_94 (fun H locs hP hD hS => ?_)
          have hP : va_P D vwCl (wM aI aJ aL q dd dp dk dx dy dw dn g tm pz tk nn ((vn + L9.length) + 1) (rs_up (rs_lay vt vn L9) (vn + L9.length) (ea (sz9 - 1))) po vl ea la) H := hP
          have hD : va_D A (wM aI aJ aL q dd dp dk dx dy dw dn g tm pz tk nn ((vn + L9.length) + 1) (rs_up (rs_lay vt vn L9) (vn + L9.length) (ea (sz9 - 1))) po vl ea la) := hD
          refine lv_iload hx hb dX4_cutUp_97 (lv_at hl 1 rfl) ?_
          refine lv_istore hx hb dX4_cutUp_99 hl (lv' := [(6, .int (nI (ea (sz9 - 1)))), (9, .int (nI (la (sz9 - 1)))), (8, .int (nI (ea (sz9 - 1)))), (0, .ref (q 0)), (3, .int how), (4, .int tol), (7, .int (nI sz9))]) (by decide) rfl (fun ls hl => ?_)
          refine lv_iinc hx hb dX4_cutUp_101 hl (k := 6) rfl (v := nI (sz9 - 1)) (rs_dec (by omega)) (by decide) (lv' := [(7, .int (nI (sz9 - 1))), (6, .int (nI (ea (sz9 - 1)))), (9, .int (nI (la (sz9 - 1)))), (8, .int (nI (ea (sz9 - 1)))), (0, .ref (q 0)), (3, .int how), (4, .int tol)]) rfl (fun ls hl => ?_)
          refine lv_goto hx hb dX4_cutUp_104 (tgt := 148) rfl ?_
          refine lv_goto hx hb dX4_cutUp_148 (tgt := 21) rfl ?_
          exact ih_21 (sz9 - 1) (ea (sz9 - 1)) ea la (L9 ++ [ea (sz9 - 1)]) _ _ _ (by have := rs_mu_p (la := la) (s := sz9) (by omega); omega) (rs_SI_pop hSI (by omega) (by first | exact Or.inl h_50 | exact Or.inr (Or.inl h_59) | exact Or.inr (Or.inr (decide_eq_true h_73)))) (lv_sub hl [4, 5, 6, 1, 0] rfl) (by rw [← rs_lay_p, ← rs_ap1]; exact hP) (by rw [← rs_lay_p, ← rs_ap1]; exact hD) hS
        · have h_50 : 0 < (la (sz9 - 1)) := rs_z2 (by omega) h_50
          refine lv_iload hx hb dX4_cutUp_53 (lv_at hl 1 rfl) ?_
          refine lv_iload hx hb dX4_cutUp_55 (lv_at hl 5 rfl) ?_
          refine rs_isub hx hb dX4_cutUp_57 (v := nI ((ea (sz9 - 1)) - fr)) (pk_sub (by omega)) ?_
          refine lv_iconst hx hb dX4_cutUp_58 (v := nI 2) (by decide) ?_
          refine lv_icmp_lt hx hb dX4_cutUp_59 (tgt := 76) rfl (fun h_59 => ?_) (fun h_59 => ?_)
          · have h_59 : ((ea (sz9 - 1)) - fr) < 2 := (nI_ltI (by omega) (by omega)).1 h_59
            refine lv_aload_n hx hb dX4_cutUp_76 rfl (lv_at hl 2 rfl) ?_
            refine va_get hx hb hts inX4 hown hK hP 0 (ci := 4) (C := RX4) (T := TX4) (N := 18) rfl rfl 13 (by decide) (hts _ rw_404) (fun _ h => h) (v := .ref (q 8)) rfl dX4_cutUp_77 ?_
            refine lv_aload_n hx hb dX4_cutUp_80 rfl (lv_at hl 2 rfl) ?_
            refine va_get hx hb hts inX4 hown hK hP 0 (ci := 4) (C := RX4) (T := TX4) (N := 18) rfl rfl 12 (by decide) (hts _ rw_403) (fun _ h => h) (v := .int (nI (vn + L9.length))) rfl dX4_cutUp_81 ?_
            refine lv_iload hx hb dX4_cutUp_84 (lv_at hl 1 rfl) ?_
            refine rs_iast hx hb hK hP hD hS 8 0 rfl rfl (i := (vn + L9.length)) (by omega) (by decide) (rs_upI _ _ _) dX4_cutUp_86 (ws' := wM aI aJ aL q dd dp dk dx dy dw dn g tm pz tk nn (vn + L9.length) (rs_up (rs_lay vt vn L9) (vn + L9.length) (ea (sz9 - 1))) po vl ea la) rfl (fun H locs hP hD hS => ?_)
            refine lv_aload_n hx hb dX4_cutUp_87 rfl (lv_at hl 2 rfl) ?_
            refine lv_dup hx hb dX4_cutUp_88 rfl ?_
            refine va_get hx hb hts inX4 hown hK hP 0 (ci := 4) (C := RX4) (T := TX4) (N := 18) rfl rfl 12 (by decide) (hts _ rw_403) (fun _ h => h) (v := .int (nI (vn + L9.length))) rfl dX4_cutUp_89 ?_
            refine lv_iconst hx hb dX4_cutUp_92 (v := nI 1) (by decide) ?_
            refine rs_iadd hx hb dX4_cutUp_93 (v := nI ((vn + L9.length) + 1)) (nI_add _ _) ?_
            refine va_put hx hb hts inX4 (ty0 := tyX4) tyX4_ok nmX4 hown hK hP hD hS 0 (ci := 4) (C := RX4) (T := TX4) (N := 18) rfl rfl 12 (by decide) (hts _ rw_403) (fun _ h => h) rfl (ty := .int) (by decide +kernel) rfl rfl (Nat.le_of_ble_eq_true rfl) dX4_cutUp_94 (fun H locs hP hD hS => ?_)
            have hP : va_P D vwCl (wM aI aJ aL q dd dp dk dx dy dw dn g tm pz tk nn ((vn + L9.length) + 1) (rs_up (rs_lay vt vn L9) (vn + L9.length) (ea (sz9 - 1))) po vl ea la) H := hP
            have hD : va_D A (wM aI aJ aL q dd dp dk dx dy dw dn g tm pz tk nn ((vn + L9.length) + 1) (rs_up (rs_lay vt vn L9) (vn + L9.length) (ea (sz9 - 1))) po vl ea la) := hD
            refine lv_iload hx hb dX4_cutUp_97 (lv_at hl 1 rfl) ?_
            refine lv_istore hx hb dX4_cutUp_99 hl (lv' := [(6, .int (nI (ea (sz9 - 1)))), (9, .int (nI (la (sz9 - 1)))), (8, .int (nI (ea (sz9 - 1)))), (0, .ref (q 0)), (3, .int how), (4, .int tol), (7, .int (nI sz9))]) (by decide) rfl (fun ls hl => ?_)
            refine lv_iinc hx hb dX4_cutUp_101 hl (k := 6) rfl (v := nI (sz9 - 1)) (rs_dec (by omega)) (by decide) (lv' := [(7, .int (nI (sz9 - 1))), (6, .int (nI (ea (sz9 - 1)))), (9, .int (nI (la (sz9 - 1)))), (8, .int (nI (ea (sz9 - 1)))), (0, .ref (q 0)), (3, .int how), (4, .int tol)]) rfl (fun ls hl => ?_)
            refine lv_goto hx hb dX4_cutUp_104 (tgt := 148) rfl ?_
            refine lv_goto hx hb dX4_cutUp_148 (tgt := 21) rfl ?_
            exact ih_21 (sz9 - 1) (ea (sz9 - 1)) ea la (L9 ++ [ea (sz9 - 1)]) _ _ _ (by have := rs_mu_p (la := la) (s := sz9) (by omega); omega) (rs_SI_pop hSI (by omega) (by first | exact Or.inl h_50 | exact Or.inr (Or.inl h_59) | exact Or.inr (Or.inr (decide_eq_true h_73)))) (lv_sub hl [4, 5, 6, 1, 0] rfl) (by rw [← rs_lay_p, ← rs_ap1]; exact hP) (by rw [← rs_lay_p, ← rs_ap1]; exact hD) hS
          · have h_59 : 2 ≤ ((ea (sz9 - 1)) - fr) := Nat.le_of_not_lt (fun z => h_59 ((nI_ltI (by omega) (by omega)).2 z))
            refine lv_aload_n hx hb dX4_cutUp_62 rfl (lv_at hl 2 rfl) ?_
            refine lv_iload hx hb dX4_cutUp_63 (lv_at hl 5 rfl) ?_
            refine lv_iload hx hb dX4_cutUp_65 (lv_at hl 1 rfl) ?_
            refine lv_iload_n hx hb dX4_cutUp_67 rfl (lv_at hl 3 rfl) ?_
            refine lv_iload hx hb dX4_cutUp_68 (lv_at hl 4 rfl) ?_
            refine rs_cVI (rest := []) (wr := []) (ws' := fun u_70 => wM aI aJ aL q dd dp dk dx dy dw dn g tm pz tk nn (vn + L9.length) (rs_lay vt vn L9) po vl ea la) ⟨hx, hb, hml, hown, hts⟩ (c_X4_straight l D aI aJ aL _ q dd dp dk dx dy dw dn g tm pz tk nn (vn + L9.length) (rs_lay vt vn L9) po vl ea la fr (ea (sz9 - 1)) how tol hg1 hg (by omega) (by omega) hne) (cwV 4 hts (rs_gV rw_570 rw_572 rv_23 rw_5 rw_573) rfl rfl rfl (by decide +kernel) ⟨Nat.le_of_ble_eq_true rfl, Nat.le_of_ble_eq_true rfl⟩) hK hN hP hD hS hA [0, 1, 2, 3, 4, 5, 6, 7, 8, 9, 10, 11, 12] [] [0, 1, 2, 3, 4, 5, 6, 7, 8, 9, 10, 11, 12] (by decide) rfl rfl (fun _ => rfl) 0 rfl rfl hl.1 rfl rfl (Nat.le_of_ble_eq_true rfl) dX4_cutUp_70 ⟨Nat.le_refl _, Nat.le_refl _⟩ (fun u_70 H locs hP hD hS => ?_)
            have hP : va_P D vwCl (wM aI aJ aL q dd dp dk dx dy dw dn g tm pz tk nn (vn + L9.length) (rs_lay vt vn L9) po vl ea la) H := hP
            have hD : va_D A (wM aI aJ aL q dd dp dk dx dy dw dn g tm pz tk nn (vn + L9.length) (rs_lay vt vn L9) po vl ea la) := hD
            have hsa : rs_sa pz how tol fr (ea (sz9 - 1)) 2 ≤ 1 := by unfold rs_sa; split <;> omega
            refine lv_if_eq hx hb dX4_cutUp_73 (tgt := 107) rfl (fun h_73 => ?_) (fun h_73 => ?_)
            · have h_73 : (rs_sa pz how tol fr (ea (sz9 - 1)) 2) = 0 := rs_z1 (by omega) h_73
              refine lv_aload_n hx hb dX4_cutUp_107 rfl (lv_at hl 2 rfl) ?_
              refine va_get hx hb hts inX4 hown hK hP 0 (ci := 4) (C := RX4) (T := TX4) (N := 18) rfl rfl 17 (by decide) (hts _ rw_408) (fun _ h => h) (v := .ref (q 12)) rfl dX4_cutUp_108 ?_
              refine lv_iload hx hb dX4_cutUp_111 (lv_at hl 6 rfl) ?_
              refine lv_iconst hx hb dX4_cutUp_113 (v := nI 1) (by decide) ?_
              refine rs_isub hx hb dX4_cutUp_114 (v := nI (sz9 - 1)) (pk_sub (by omega)) ?_
              refine lv_iload hx hb dX4_cutUp_115 (lv_at hl 0 rfl) ?_
              refine lv_iconst hx hb dX4_cutUp_117 (v := nI 1) (by decide) ?_
              refine rs_isub hx hb dX4_cutUp_118 (v := nI ((la (sz9 - 1)) - 1)) (pk_sub (by omega)) ?_
              refine rs_iast hx hb hK hP hD hS 12 0 rfl rfl (i := (sz9 - 1)) (by omega) (by decide) (rs_upI _ _ _) dX4_cutUp_119 (ws' := wM aI aJ aL q dd dp dk dx dy dw dn g tm pz tk nn (vn + L9.length) (rs_lay vt vn L9) po vl ea (rs_up la (sz9 - 1) ((la (sz9 - 1)) - 1))) rfl (fun H locs hP hD hS => ?_)
              refine lv_aload_n hx hb dX4_cutUp_120 rfl (lv_at hl 2 rfl) ?_
              refine va_get hx hb hts inX4 hown hK hP 0 (ci := 4) (C := RX4) (T := TX4) (N := 18) rfl rfl 16 (by decide) (hts _ rw_407) (fun _ h => h) (v := .ref (q 11)) rfl dX4_cutUp_121 ?_
              refine lv_iload hx hb dX4_cutUp_124 (lv_at hl 6 rfl) ?_
              refine lv_iload hx hb dX4_cutUp_126 (lv_at hl 5 rfl) ?_
              refine lv_iload hx hb dX4_cutUp_128 (lv_at hl 1 rfl) ?_
              refine rs_iadd hx hb dX4_cutUp_130 (v := nI (fr + (ea (sz9 - 1)))) (nI_add _ _) ?_
              refine lv_iconst hx hb dX4_cutUp_131 (v := nI 2) (by decide) ?_
              refine rs_idiv hx hb dX4_cutUp_132 (nI_ne0 (by omega) (by omega)) (v := nI ((fr + (ea (sz9 - 1))) / 2)) (pk_div (by omega) (by omega) (by omega)) ?_
              refine rs_iast hx hb hK hP hD hS 11 0 rfl rfl (i := sz9) (by omega) (by decide) (rs_upI _ _ _) dX4_cutUp_133 (ws' := wM aI aJ aL q dd dp dk dx dy dw dn g tm pz tk nn (vn + L9.length) (rs_lay vt vn L9) po vl (rs_up ea sz9 ((fr + (ea (sz9 - 1))) / 2)) (rs_up la (sz9 - 1) ((la (sz9 - 1)) - 1))) rfl (fun H locs hP hD hS => ?_)
              refine lv_aload_n hx hb dX4_cutUp_134 rfl (lv_at hl 2 rfl) ?_
              refine va_get hx hb hts inX4 hown hK hP 0 (ci := 4) (C := RX4) (T := TX4) (N := 18) rfl rfl 17 (by decide) (hts _ rw_408) (fun _ h => h) (v := .ref (q 12)) rfl dX4_cutUp_135 ?_
              refine lv_iload hx hb dX4_cutUp_138 (lv_at hl 6 rfl) ?_
              refine lv_iload hx hb dX4_cutUp_140 (lv_at hl 0 rfl) ?_
              refine lv_iconst hx hb dX4_cutUp_142 (v := nI 1) (by decide) ?_
              refine rs_isub hx hb dX4_cutUp_143 (v := nI ((la (sz9 - 1)) - 1)) (pk_sub (by omega)) ?_
              refine rs_iast hx hb hK hP hD hS 12 0 rfl rfl (i := sz9) (by omega) (by decide) (rs_upI _ _ _) dX4_cutUp_144 (ws' := wM aI aJ aL q dd dp dk dx dy dw dn g tm pz tk nn (vn + L9.length) (rs_lay vt vn L9) po vl (rs_up ea sz9 ((fr + (ea (sz9 - 1))) / 2)) (rs_up (rs_up la (sz9 - 1) ((la (sz9 - 1)) - 1)) sz9 ((la (sz9 - 1)) - 1))) rfl (fun H locs hP hD hS => ?_)
              refine lv_iinc hx hb dX4_cutUp_145 hl (k := 6) rfl (v := nI (sz9 + 1)) (rs_inc _ _) (by decide) (lv' := [(7, .int (nI (sz9 + 1))), (9, .int (nI (la (sz9 - 1)))), (8, .int (nI (ea (sz9 - 1)))), (0, .ref (q 0)), (3, .int how), (4, .int tol), (6, .int (nI fr))]) rfl (fun ls hl => ?_)
              refine lv_goto hx hb dX4_cutUp_148 (tgt := 21) rfl ?_
              exact ih_21 (sz9 + 1) fr (rs_up ea sz9 ((fr + (ea (sz9 - 1))) / 2)) (rs_up (rs_up la (sz9 - 1) ((la (sz9 - 1)) - 1)) sz9 ((la (sz9 - 1)) - 1)) L9 _ _ _ (by have := rs_mu_t (la := la) (s := sz9) (by omega) (by omega); omega) (rs_SI_split hSI (by omega) (by omega) (by omega) (decide_eq_false (by omega))) (lv_sub hl [3, 4, 5, 6, 0] rfl) hP hD hS
            · have h_73 : 0 < (rs_sa pz how tol fr (ea (sz9 - 1)) 2) := rs_z2 (by omega) h_73
              refine lv_aload_n hx hb dX4_cutUp_76 rfl (lv_at hl 2 rfl) ?_
              refine va_get hx hb hts inX4 hown hK hP 0 (ci := 4) (C := RX4) (T := TX4) (N := 18) rfl rfl 13 (by decide) (hts _ rw_404) (fun _ h => h) (v := .ref (q 8)) rfl dX4_cutUp_77 ?_
              refine lv_aload_n hx hb dX4_cutUp_80 rfl (lv_at hl 2 rfl) ?_
              refine va_get hx hb hts inX4 hown hK hP 0 (ci := 4) (C := RX4) (T := TX4) (N := 18) rfl rfl 12 (by decide) (hts _ rw_403) (fun _ h => h) (v := .int (nI (vn + L9.length))) rfl dX4_cutUp_81 ?_
              refine lv_iload hx hb dX4_cutUp_84 (lv_at hl 1 rfl) ?_
              refine rs_iast hx hb hK hP hD hS 8 0 rfl rfl (i := (vn + L9.length)) (by omega) (by decide) (rs_upI _ _ _) dX4_cutUp_86 (ws' := wM aI aJ aL q dd dp dk dx dy dw dn g tm pz tk nn (vn + L9.length) (rs_up (rs_lay vt vn L9) (vn + L9.length) (ea (sz9 - 1))) po vl ea la) rfl (fun H locs hP hD hS => ?_)
              refine lv_aload_n hx hb dX4_cutUp_87 rfl (lv_at hl 2 rfl) ?_
              refine lv_dup hx hb dX4_cutUp_88 rfl ?_
              refine va_get hx hb hts inX4 hown hK hP 0 (ci := 4) (C := RX4) (T := TX4) (N := 18) rfl rfl 12 (by decide) (hts _ rw_403) (fun _ h => h) (v := .int (nI (vn + L9.length))) rfl dX4_cutUp_89 ?_
              refine lv_iconst hx hb dX4_cutUp_92 (v := nI 1) (by decide) ?_
              refine rs_iadd hx hb dX4_cutUp_93 (v := nI ((vn + L9.length) + 1)) (nI_add _ _) ?_
              refine va_put hx hb hts inX4 (ty0 := tyX4) tyX4_ok nmX4 hown hK hP hD hS 0 (ci := 4) (C := RX4) (T := TX4) (N := 18) rfl rfl 12 (by decide) (hts _ rw_403) (fun _ h => h) rfl (ty := .int) (by decide +kernel) rfl rfl (Nat.le_of_ble_eq_true rfl) dX4_cutUp_94 (fun H locs hP hD hS => ?_)
              have hP : va_P D vwCl (wM aI aJ aL q dd dp dk dx dy dw dn g tm pz tk nn ((vn + L9.length) + 1) (rs_up (rs_lay vt vn L9) (vn + L9.length) (ea (sz9 - 1))) po vl ea la) H := hP
              have hD : va_D A (wM aI aJ aL q dd dp dk dx dy dw dn g tm pz tk nn ((vn + L9.length) + 1) (rs_up (rs_lay vt vn L9) (vn + L9.length) (ea (sz9 - 1))) po vl ea la) := hD
              refine lv_iload hx hb dX4_cutUp_97 (lv_at hl 1 rfl) ?_
              refine lv_istore hx hb dX4_cutUp_99 hl (lv' := [(6, .int (nI (ea (sz9 - 1)))), (9, .int (nI (la (sz9 - 1)))), (8, .int (nI (ea (sz9 - 1)))), (0, .ref (q 0)), (3, .int how), (4, .int tol), (7, .int (nI sz9))]) (by decide) rfl (fun ls hl => ?_)
              refine lv_iinc hx hb dX4_cutUp_101 hl (k := 6) rfl (v := nI (sz9 - 1)) (rs_dec (by omega)) (by decide) (lv' := [(7, .int (nI (sz9 - 1))), (6, .int (nI (ea (sz9 - 1)))), (9, .int (nI (la (sz9 - 1)))), (8, .int (nI (ea (sz9 - 1)))), (0, .ref (q 0)), (3, .int how), (4, .int tol)]) rfl (fun ls hl => ?_)
              refine lv_goto hx hb dX4_cutUp_104 (tgt := 148) rfl ?_
              refine lv_goto hx hb dX4_cutUp_148 (tgt := 21) rfl ?_
              exact ih_21 (sz9 - 1) (ea (sz9 - 1)) ea la (L9 ++ [ea (sz9 - 1)]) _ _ _ (by have := rs_mu_p (la := la) (s := sz9) (by omega); omega) (rs_SI_pop hSI (by omega) (by first | exact Or.inl h_50 | exact Or.inr (Or.inl h_59) | exact Or.inr (Or.inr (decide_eq_true h_73)))) (lv_sub hl [4, 5, 6, 1, 0] rfl) (by rw [← rs_lay_p, ← rs_ap1]; exact hP) (by rw [← rs_lay_p, ← rs_ap1]; exact hD) hS
  exact L_21 ((rs_mu (rs_up la 0 dep) 1) + 1) 1 a (rs_up ea 0 b) (rs_up la 0 dep) ([]) _ _ _ (Nat.lt_succ_self _) (rs_SI_0 hab) (lv_sub hl [2, 5, 6, 1, 0] rfl) (by rw [rs_lay_0 vt vn]; exact hP) (by rw [rs_lay_0 vt vn]; exact hD) hS

def rm_X4_tessellate : Room := { frames := 5, cells := 0, slots := 0, locals := 434 }
set_option maxHeartbeats 4000000 in
set_option maxRecDepth 100000 in
theorem c_X4_tessellate (l : Launch) (D : va_G) (aI aJ aL : ClassId) (sz : Nat) (q : Nat → Nat) (dd : Nat) (dp : Nat) (dk : Nat) (dx : Nat → Int32) (dy : Nat → Int32) (dw : Nat → Int32) (dn : Nat → Nat) (g : Nat) (tm : Nat → Nat) (pz : Nat → Int64) (tk : Nat → Nat) (nn : Nat) (vn : Nat) (vt : Nat → Nat) (po : Nat → Int64) (vl : Nat → Int64) (ea : Nat → Nat) (la : Nat → Nat) (how : Int32) (tol : Int32) (dep : Nat) (hg1 : 1 ≤ g) (hg : g ≤ 3) (htm : ∀ k, tm k ≤ 3) (hhow : ¬ how < 0) (hho1 : ¬ nI 1 < how) (htol : ¬ tol < 0) (hdep : dep ≤ 6) (hne : ∀ u, u ≤ 360 → ¬ rs_pa pz 2 (rs_lj u) (lN (u - 60 * rs_lj u)) = 0) : rs_MI (S := (Nat → Nat) × (Nat → Nat)) l yX4_tessellate (Cond.code yX4_tessellate prog_6_method_31_code 6 (some .int) :: rsW) rm_X4_tessellate D vwCl (rs_tys aI aJ aL) rs_nw [.ref (q 0), .int how, .int tol, .int (nI dep)] (wM aI aJ aL q dd dp dk dx dy dw dn g tm pz tk nn vn vt po vl ea la) sz (nI ((rs_tel (fun x y => decide (0 < rs_sa pz how tol x y 2)) dep tm 6).1.length - 1)) (fun uu => wM aI aJ aL q dd dp dk dx dy dw dn g tm pz tk nn ((rs_tel (fun x y => decide (0 < rs_sa pz how tol x y 2)) dep tm 6).1.length) (rs_lay vt 0 (rs_tel (fun x y => decide (0 < rs_sa pz how tol x y 2)) dep tm 6).1) po vl uu.1 uu.2) := by
  refine rs_ent (cc := cX4_tessellate) (maxL := 6) (ret := some .int) (Qc := rs_QI D vwCl _ _ _) (by decide) rfl (Nat.le_of_ble_eq_true rfl) ?_
  intro p e s m args below meth c ls A Q hx hb hr hml hlk hts hown hin hK hN hP hD hS hA hQ hl
  have hl : lv_has ls 6 [(0, .ref (q 0)), (1, .int how), (2, .int tol), (3, .int (nI dep))] := hl
  refine lv_aload_n hx hb dX4_tessellate_0 rfl (lv_at hl 0 rfl) ?_
  refine va_get hx hb hts inX4 hown hK hP 0 (ci := 4) (C := RX4) (T := TX4) (N := 18) rfl rfl 7 (by decide) (hts _ rw_398) (fun _ h => h) (v := .int (nI g)) rfl dX4_tessellate_1 ?_
  refine lv_if_eq hx hb dX4_tessellate_4 (tgt := 30) rfl (fun h_4 => ?_) (fun h_4 => ?_)
  · have h_4 : g = 0 := rs_z1 (by omega) h_4
    omega
  · have h_4 : 0 < g := rs_z2 (by omega) h_4
    refine lv_iload_n hx hb dX4_tessellate_7 rfl (lv_at hl 1 rfl) ?_
    refine lv_if_lt hx hb dX4_tessellate_8 (tgt := 30) rfl (fun h_8 => ?_) (fun h_8 => ?_)
    · skip
      exact absurd h_8 hhow
    · skip
      refine lv_iload_n hx hb dX4_tessellate_11 rfl (lv_at hl 1 rfl) ?_
      refine lv_iconst hx hb dX4_tessellate_12 (v := nI 1) (by decide) ?_
      refine lv_icmp_gt hx hb dX4_tessellate_13 (tgt := 30) rfl (fun h_13 => ?_) (fun h_13 => ?_)
      · skip
        exact absurd h_13 hho1
      · skip
        refine lv_iload_n hx hb dX4_tessellate_16 rfl (lv_at hl 2 rfl) ?_
        refine lv_if_lt hx hb dX4_tessellate_17 (tgt := 30) rfl (fun h_17 => ?_) (fun h_17 => ?_)
        · skip
          exact absurd h_17 htol
        · skip
          refine lv_iload_n hx hb dX4_tessellate_20 rfl (lv_at hl 3 rfl) ?_
          refine lv_if_lt hx hb dX4_tessellate_21 (tgt := 30) rfl (fun h_21 => absurd h_21 (nI_pos (by omega))) (fun _ => ?_)
          refine lv_iload_n hx hb dX4_tessellate_24 rfl (lv_at hl 3 rfl) ?_
          refine lv_bipush hx hb dX4_tessellate_25 (v := nI 6) (by decide) ?_
          refine lv_icmp_le hx hb dX4_tessellate_27 (tgt := 32) rfl (fun h_27 => ?_) (fun h_27 => ?_)
          · have h_27 : dep ≤ 6 := (nI_leI (by omega) (by omega)).1 h_27
            refine lv_aload_n hx hb dX4_tessellate_32 rfl (lv_at hl 0 rfl) ?_
            refine va_get hx hb hts inX4 hown hK hP 0 (ci := 4) (C := RX4) (T := TX4) (N := 18) rfl rfl 13 (by decide) (hts _ rw_404) (fun _ h => h) (v := .ref (q 8)) rfl dX4_tessellate_33 ?_
            refine lv_iconst hx hb dX4_tessellate_36 (v := nI 0) (by decide) ?_
            refine lv_iconst hx hb dX4_tessellate_37 (v := nI 0) (by decide) ?_
            refine rs_iast hx hb hK hP hD hS 8 0 rfl rfl (i := 0) (by omega) (by decide) (rs_upI _ _ _) dX4_tessellate_38 (ws' := wM aI aJ aL q dd dp dk dx dy dw dn g tm pz tk nn vn (rs_up vt 0 0) po vl ea la) rfl (fun H locs hP hD hS => ?_)
            refine lv_aload_n hx hb dX4_tessellate_39 rfl (lv_at hl 0 rfl) ?_
            refine lv_iconst hx hb dX4_tessellate_40 (v := nI 1) (by decide) ?_
            refine va_put hx hb hts inX4 (ty0 := tyX4) tyX4_ok nmX4 hown hK hP hD hS 0 (ci := 4) (C := RX4) (T := TX4) (N := 18) rfl rfl 12 (by decide) (hts _ rw_403) (fun _ h => h) rfl (ty := .int) (by decide +kernel) rfl rfl (Nat.le_of_ble_eq_true rfl) dX4_tessellate_41 (fun H locs hP hD hS => ?_)
            have hP : va_P D vwCl (wM aI aJ aL q dd dp dk dx dy dw dn g tm pz tk nn 1 (rs_up vt 0 0) po vl ea la) H := hP
            have hD : va_D A (wM aI aJ aL q dd dp dk dx dy dw dn g tm pz tk nn 1 (rs_up vt 0 0) po vl ea la) := hD
            refine lv_iconst hx hb dX4_tessellate_44 (v := nI 0) (by decide) ?_
            refine lv_istore hx hb dX4_tessellate_45 hl (lv' := [(4, .int (nI 0)), (0, .ref (q 0)), (1, .int how), (2, .int tol), (3, .int (nI dep))]) (by decide) rfl (fun ls hl => ?_)
            refine lv_iconst hx hb dX4_tessellate_47 (v := nI 1) (by decide) ?_
            refine lv_istore hx hb dX4_tessellate_48 hl (lv' := [(5, .int (nI 1)), (4, .int (nI 0)), (0, .ref (q 0)), (1, .int how), (2, .int tol), (3, .int (nI dep))]) (by decide) rfl (fun ls hl => ?_)
            have L_50 : ∀ (k_50 : Nat) (v : Nat) (ea : Nat → Nat) (la : Nat → Nat) (H : Heap) (locs : List Loc) (ls : Array Slot), 6 - v < k_50 → (v ≤ 6) → lv_has ls 6 [(0, .ref (q 0)), (1, .int how), (2, .int tol), (3, .int (nI dep)), (4, .int (nI ((rs_tel (fun x y => decide (0 < rs_sa pz how tol x y 2)) dep tm v).2))), (5, .int (nI (v + 1)))] → va_P D vwCl (wM aI aJ aL q dd dp dk dx dy dw dn g tm pz tk nn ((rs_tel (fun x y => decide (0 < rs_sa pz how tol x y 2)) dep tm v).1.length) (rs_lay vt 0 (rs_tel (fun x y => decide (0 < rs_sa pz how tol x y 2)) dep tm v).1) po vl ea la) H → va_D A (wM aI aJ aL q dd dp dk dx dy dw dn g tm pz tk nn ((rs_tel (fun x y => decide (0 < rs_sa pz how tol x y 2)) dep tm v).1.length) (rs_lay vt 0 (rs_tel (fun x y => decide (0 < rs_sa pz how tol x y 2)) dep tm v).1) po vl ea la) → va_S A s.heap H locs → W p l e rm_X4_tessellate s m args below meth c H locs 0 0 Q (F0 m 50 ls []) := by
              intro k_50
              induction k_50 with
              | zero => intro v ea la H locs ls hk_50; exact absurd hk_50 (Nat.not_lt_zero _)
              | succ k_50 ih_50 =>
                intro v ea la H locs ls hk_50 hv hl hP hD hS
                have hte := rs_tel_b (fun x y => decide (0 < rs_sa pz how tol x y 2)) dep tm v
                refine lv_iload hx hb dX4_tessellate_50 (lv_at hl 5 rfl) ?_
                refine lv_bipush hx hb dX4_tessellate_52 (v := nI 6) (by decide) ?_
                refine lv_icmp_gt hx hb dX4_tessellate_54 (tgt := 101) rfl (fun h_54 => ?_) (fun h_54 => ?_)
                · have h_54 : 6 < (v + 1) := (nI_ltI (by omega) (by omega)).1 h_54
                  have hv9 : v = 6 := by omega
                  subst hv9
                  refine lv_aload_n hx hb dX4_tessellate_101 rfl (lv_at hl 0 rfl) ?_
                  refine va_get hx hb hts inX4 hown hK hP 0 (ci := 4) (C := RX4) (T := TX4) (N := 18) rfl rfl 12 (by decide) (hts _ rw_403) (fun _ h => h) (v := .int (nI ((rs_tel (fun x y => decide (0 < rs_sa pz how tol x y 2)) dep tm 6).1.length))) rfl dX4_tessellate_102 ?_
                  refine lv_iconst hx hb dX4_tessellate_105 (v := nI 1) (by decide) ?_
                  refine rs_isub hx hb dX4_tessellate_106 (v := nI (((rs_tel (fun x y => decide (0 < rs_sa pz how tol x y 2)) dep tm 6).1.length) - 1)) (pk_sub (by omega)) ?_
                  exact rs_iret (ea, la) hx hb hr hlk hQ hK hP hD hS rfl rfl rfl dX4_tessellate_107
                · have h_54 : (v + 1) ≤ 6 := Nat.le_of_not_lt (fun z => h_54 ((nI_ltI (by omega) (by omega)).2 z))
                  refine lv_iload hx hb dX4_tessellate_57 (lv_at hl 5 rfl) ?_
                  refine lv_bipush hx hb dX4_tessellate_59 (v := nI 6) (by decide) ?_
                  refine lv_icmp_eq hx hb dX4_tessellate_61 (tgt := 74) rfl (fun h_61 => ?_) (fun h_61 => ?_)
                  · have h_61 : (v + 1) = 6 := (nI_eq (by omega) (by omega)).1 h_61
                    have h_y : v + 1 = 6 ∨ 0 < tm (v + 1) := Or.inl h_61
                    refine lv_aload_n hx hb dX4_tessellate_74 rfl (lv_at hl 0 rfl) ?_
                    refine lv_iload hx hb dX4_tessellate_75 (lv_at hl 4 rfl) ?_
                    refine lv_bipush hx hb dX4_tessellate_77 (v := nI 60) (by decide) ?_
                    refine lv_iload hx hb dX4_tessellate_79 (lv_at hl 5 rfl) ?_
                    refine rs_imul hx hb dX4_tessellate_81 (v := nI (60 * (v + 1))) (pk_mul _ _) ?_
                    refine lv_iload_n hx hb dX4_tessellate_82 rfl (lv_at hl 1 rfl) ?_
                    refine lv_iload_n hx hb dX4_tessellate_83 rfl (lv_at hl 2 rfl) ?_
                    refine lv_iload_n hx hb dX4_tessellate_84 rfl (lv_at hl 3 rfl) ?_
                    refine rs_cVV (rest := []) (wr := []) (ws' := fun u_85 => wM aI aJ aL q dd dp dk dx dy dw dn g tm pz tk nn (((rs_tel (fun x y => decide (0 < rs_sa pz how tol x y 2)) dep tm v).1.length) + (rs_cut (fun x y => decide (0 < rs_sa pz how tol x y 2)) dep ((rs_tel (fun x y => decide (0 < rs_sa pz how tol x y 2)) dep tm v).2) (60 * (v + 1))).length) (rs_lay (rs_lay vt 0 (rs_tel (fun x y => decide (0 < rs_sa pz how tol x y 2)) dep tm v).1) ((rs_tel (fun x y => decide (0 < rs_sa pz how tol x y 2)) dep tm v).1.length) (rs_cut (fun x y => decide (0 < rs_sa pz how tol x y 2)) dep ((rs_tel (fun x y => decide (0 < rs_sa pz how tol x y 2)) dep tm v).2) (60 * (v + 1)))) po vl u_85.1 u_85.2) ⟨hx, hb, hml, hown, hts⟩ (c_X4_cutUp l D aI aJ aL _ q dd dp dk dx dy dw dn g tm pz tk nn ((rs_tel (fun x y => decide (0 < rs_sa pz how tol x y 2)) dep tm v).1.length) (rs_lay vt 0 (rs_tel (fun x y => decide (0 < rs_sa pz how tol x y 2)) dep tm v).1) po vl ea la ((rs_tel (fun x y => decide (0 < rs_sa pz how tol x y 2)) dep tm v).2) (60 * (v + 1)) how tol dep hg1 hg (by omega) (by omega) hdep (by omega) hne) (cwV 5 hts (rs_gV rw_566 rw_568 rv_22 rw_5 rw_569) rfl rfl rfl (by decide +kernel) ⟨Nat.le_of_ble_eq_true rfl, Nat.le_of_ble_eq_true rfl⟩) hK hN hP hD hS hA [0, 1, 2, 3, 4, 5, 6, 7, 8, 9, 10, 11, 12] [] [0, 1, 2, 3, 4, 5, 6, 7, 8, 9, 10, 11, 12] (by decide) rfl rfl (fun _ => rfl) 0 rfl rfl hl.1 rfl rfl (Nat.le_of_ble_eq_true rfl) dX4_tessellate_85 ⟨Nat.le_refl _, Nat.le_refl _⟩ (fun u_85 H locs hP hD hS => ?_)
                    have hP : va_P D vwCl (wM aI aJ aL q dd dp dk dx dy dw dn g tm pz tk nn (((rs_tel (fun x y => decide (0 < rs_sa pz how tol x y 2)) dep tm v).1.length) + (rs_cut (fun x y => decide (0 < rs_sa pz how tol x y 2)) dep ((rs_tel (fun x y => decide (0 < rs_sa pz how tol x y 2)) dep tm v).2) (60 * (v + 1))).length) (rs_lay (rs_lay vt 0 (rs_tel (fun x y => decide (0 < rs_sa pz how tol x y 2)) dep tm v).1) ((rs_tel (fun x y => decide (0 < rs_sa pz how tol x y 2)) dep tm v).1.length) (rs_cut (fun x y => decide (0 < rs_sa pz how tol x y 2)) dep ((rs_tel (fun x y => decide (0 < rs_sa pz how tol x y 2)) dep tm v).2) (60 * (v + 1)))) po vl u_85.1 u_85.2) H := hP
                    have hD : va_D A (wM aI aJ aL q dd dp dk dx dy dw dn g tm pz tk nn (((rs_tel (fun x y => decide (0 < rs_sa pz how tol x y 2)) dep tm v).1.length) + (rs_cut (fun x y => decide (0 < rs_sa pz how tol x y 2)) dep ((rs_tel (fun x y => decide (0 < rs_sa pz how tol x y 2)) dep tm v).2) (60 * (v + 1))).length) (rs_lay (rs_lay vt 0 (rs_tel (fun x y => decide (0 < rs_sa pz how tol x y 2)) dep tm v).1) ((rs_tel (fun x y => decide (0 < rs_sa pz how tol x y 2)) dep tm v).1.length) (rs_cut (fun x y => decide (0 < rs_sa pz how tol x y 2)) dep ((rs_tel (fun x y => decide (0 < rs_sa pz how tol x y 2)) dep tm v).2) (60 * (v + 1)))) po vl u_85.1 u_85.2) := hD
                    refine lv_bipush hx hb dX4_tessellate_88 (v := nI 60) (by decide) ?_
                    refine lv_iload hx hb dX4_tessellate_90 (lv_at hl 5 rfl) ?_
                    refine rs_imul hx hb dX4_tessellate_92 (v := nI (60 * (v + 1))) (pk_mul _ _) ?_
                    refine lv_istore hx hb dX4_tessellate_93 hl (lv' := [(4, .int (nI (60 * (v + 1)))), (0, .ref (q 0)), (1, .int how), (2, .int tol), (3, .int (nI dep)), (5, .int (nI (v + 1)))]) (by decide) rfl (fun ls hl => ?_)
                    refine lv_iinc hx hb dX4_tessellate_95 hl (k := 5) rfl (v := nI ((v + 1) + 1)) (rs_inc _ _) (by decide) (lv' := [(5, .int (nI ((v + 1) + 1))), (4, .int (nI (60 * (v + 1)))), (0, .ref (q 0)), (1, .int how), (2, .int tol), (3, .int (nI dep))]) rfl (fun ls hl => ?_)
                    refine lv_goto hx hb dX4_tessellate_98 (tgt := 50) rfl ?_
                    exact ih_50 (v + 1) u_85.1 u_85.2 _ _ _ (by omega) (by omega) (by rw [(rs_tel_y h_y).2]; exact lv_sub hl [2, 3, 4, 5, 1, 0] rfl) (by rw [(rs_tel_y h_y).1, List.length_append, ← rs_lay_a0]; exact hP) (by rw [(rs_tel_y h_y).1, List.length_append, ← rs_lay_a0]; exact hD) hS
                  · have h_61 : ¬ (v + 1) = 6 := fun z => h_61 ((nI_eq (by omega) (by omega)).2 z)
                    refine lv_aload_n hx hb dX4_tessellate_64 rfl (lv_at hl 0 rfl) ?_
                    refine va_get hx hb hts inX4 hown hK hP 0 (ci := 4) (C := RX4) (T := TX4) (N := 18) rfl rfl 8 (by decide) (hts _ rw_399) (fun _ h => h) (v := .ref (q 5)) rfl dX4_tessellate_65 ?_
                    refine lv_iload hx hb dX4_tessellate_68 (lv_at hl 5 rfl) ?_
                    have hb7 := htm (v + 1)
                    refine rs_iald hx hb hK hP 5 0 rfl rfl (i := (v + 1)) (by omega) (by decide) (v := nI (tm (v + 1))) rfl dX4_tessellate_70 ?_
                    refine lv_if_le hx hb dX4_tessellate_71 (tgt := 95) rfl (fun h_71 => ?_) (fun h_71 => ?_)
                    · have h_71 : (tm (v + 1)) = 0 := rs_z5 (by omega) h_71
                      have h_n : rs_tel (fun x y => decide (0 < rs_sa pz how tol x y 2)) dep tm (v + 1) = rs_tel (fun x y => decide (0 < rs_sa pz how tol x y 2)) dep tm v := rs_tel_n (by omega)
                      refine lv_iinc hx hb dX4_tessellate_95 hl (k := 5) rfl (v := nI ((v + 1) + 1)) (rs_inc _ _) (by decide) (lv' := [(5, .int (nI ((v + 1) + 1))), (0, .ref (q 0)), (1, .int how), (2, .int tol), (3, .int (nI dep)), (4, .int (nI ((rs_tel (fun x y => decide (0 < rs_sa pz how tol x y 2)) dep tm v).2)))]) rfl (fun ls hl => ?_)
                      refine lv_goto hx hb dX4_tessellate_98 (tgt := 50) rfl ?_
                      exact ih_50 (v + 1) ea la _ _ _ (by omega) (by omega) (by rw [h_n]; exact lv_sub hl [1, 2, 3, 4, 5, 0] rfl) (by rw [h_n]; exact hP) (by rw [h_n]; exact hD) hS
                    · have h_71 : 0 < (tm (v + 1)) := rs_z6 (by omega) h_71
                      have h_y : v + 1 = 6 ∨ 0 < tm (v + 1) := Or.inr h_71
                      refine lv_aload_n hx hb dX4_tessellate_74 rfl (lv_at hl 0 rfl) ?_
                      refine lv_iload hx hb dX4_tessellate_75 (lv_at hl 4 rfl) ?_
                      refine lv_bipush hx hb dX4_tessellate_77 (v := nI 60) (by decide) ?_
                      refine lv_iload hx hb dX4_tessellate_79 (lv_at hl 5 rfl) ?_
                      refine rs_imul hx hb dX4_tessellate_81 (v := nI (60 * (v + 1))) (pk_mul _ _) ?_
                      refine lv_iload_n hx hb dX4_tessellate_82 rfl (lv_at hl 1 rfl) ?_
                      refine lv_iload_n hx hb dX4_tessellate_83 rfl (lv_at hl 2 rfl) ?_
                      refine lv_iload_n hx hb dX4_tessellate_84 rfl (lv_at hl 3 rfl) ?_
                      refine rs_cVV (rest := []) (wr := []) (ws' := fun u_85 => wM aI aJ aL q dd dp dk dx dy dw dn g tm pz tk nn (((rs_tel (fun x y => decide (0 < rs_sa pz how tol x y 2)) dep tm v).1.length) + (rs_cut (fun x y => decide (0 < rs_sa pz how tol x y 2)) dep ((rs_tel (fun x y => decide (0 < rs_sa pz how tol x y 2)) dep tm v).2) (60 * (v + 1))).length) (rs_lay (rs_lay vt 0 (rs_tel (fun x y => decide (0 < rs_sa pz how tol x y 2)) dep tm v).1) ((rs_tel (fun x y => decide (0 < rs_sa pz how tol x y 2)) dep tm v).1.length) (rs_cut (fun x y => decide (0 < rs_sa pz how tol x y 2)) dep ((rs_tel (fun x y => decide (0 < rs_sa pz how tol x y 2)) dep tm v).2) (60 * (v + 1)))) po vl u_85.1 u_85.2) ⟨hx, hb, hml, hown, hts⟩ (c_X4_cutUp l D aI aJ aL _ q dd dp dk dx dy dw dn g tm pz tk nn ((rs_tel (fun x y => decide (0 < rs_sa pz how tol x y 2)) dep tm v).1.length) (rs_lay vt 0 (rs_tel (fun x y => decide (0 < rs_sa pz how tol x y 2)) dep tm v).1) po vl ea la ((rs_tel (fun x y => decide (0 < rs_sa pz how tol x y 2)) dep tm v).2) (60 * (v + 1)) how tol dep hg1 hg (by omega) (by omega) hdep (by omega) hne) (cwV 5 hts (rs_gV rw_566 rw_568 rv_22 rw_5 rw_569) rfl rfl rfl (by decide +kernel) ⟨Nat.le_of_ble_eq_true rfl, Nat.le_of_ble_eq_true rfl⟩) hK hN hP hD hS hA [0, 1, 2, 3, 4, 5, 6, 7, 8, 9, 10, 11, 12] [] [0, 1, 2, 3, 4, 5, 6, 7, 8, 9, 10, 11, 12] (by decide) rfl rfl (fun _ => rfl) 0 rfl rfl hl.1 rfl rfl (Nat.le_of_ble_eq_true rfl) dX4_tessellate_85 ⟨Nat.le_refl _, Nat.le_refl _⟩ (fun u_85 H locs hP hD hS => ?_)
                      have hP : va_P D vwCl (wM aI aJ aL q dd dp dk dx dy dw dn g tm pz tk nn (((rs_tel (fun x y => decide (0 < rs_sa pz how tol x y 2)) dep tm v).1.length) + (rs_cut (fun x y => decide (0 < rs_sa pz how tol x y 2)) dep ((rs_tel (fun x y => decide (0 < rs_sa pz how tol x y 2)) dep tm v).2) (60 * (v + 1))).length) (rs_lay (rs_lay vt 0 (rs_tel (fun x y => decide (0 < rs_sa pz how tol x y 2)) dep tm v).1) ((rs_tel (fun x y => decide (0 < rs_sa pz how tol x y 2)) dep tm v).1.length) (rs_cut (fun x y => decide (0 < rs_sa pz how tol x y 2)) dep ((rs_tel (fun x y => decide (0 < rs_sa pz how tol x y 2)) dep tm v).2) (60 * (v + 1)))) po vl u_85.1 u_85.2) H := hP
                      have hD : va_D A (wM aI aJ aL q dd dp dk dx dy dw dn g tm pz tk nn (((rs_tel (fun x y => decide (0 < rs_sa pz how tol x y 2)) dep tm v).1.length) + (rs_cut (fun x y => decide (0 < rs_sa pz how tol x y 2)) dep ((rs_tel (fun x y => decide (0 < rs_sa pz how tol x y 2)) dep tm v).2) (60 * (v + 1))).length) (rs_lay (rs_lay vt 0 (rs_tel (fun x y => decide (0 < rs_sa pz how tol x y 2)) dep tm v).1) ((rs_tel (fun x y => decide (0 < rs_sa pz how tol x y 2)) dep tm v).1.length) (rs_cut (fun x y => decide (0 < rs_sa pz how tol x y 2)) dep ((rs_tel (fun x y => decide (0 < rs_sa pz how tol x y 2)) dep tm v).2) (60 * (v + 1)))) po vl u_85.1 u_85.2) := hD
                      refine lv_bipush hx hb dX4_tessellate_88 (v := nI 60) (by decide) ?_
                      refine lv_iload hx hb dX4_tessellate_90 (lv_at hl 5 rfl) ?_
                      refine rs_imul hx hb dX4_tessellate_92 (v := nI (60 * (v + 1))) (pk_mul _ _) ?_
                      refine lv_istore hx hb dX4_tessellate_93 hl (lv' := [(4, .int (nI (60 * (v + 1)))), (0, .ref (q 0)), (1, .int how), (2, .int tol), (3, .int (nI dep)), (5, .int (nI (v + 1)))]) (by decide) rfl (fun ls hl => ?_)
                      refine lv_iinc hx hb dX4_tessellate_95 hl (k := 5) rfl (v := nI ((v + 1) + 1)) (rs_inc _ _) (by decide) (lv' := [(5, .int (nI ((v + 1) + 1))), (4, .int (nI (60 * (v + 1)))), (0, .ref (q 0)), (1, .int how), (2, .int tol), (3, .int (nI dep))]) rfl (fun ls hl => ?_)
                      refine lv_goto hx hb dX4_tessellate_98 (tgt := 50) rfl ?_
                      exact ih_50 (v + 1) u_85.1 u_85.2 _ _ _ (by omega) (by omega) (by rw [(rs_tel_y h_y).2]; exact lv_sub hl [2, 3, 4, 5, 1, 0] rfl) (by rw [(rs_tel_y h_y).1, List.length_append, ← rs_lay_a0]; exact hP) (by rw [(rs_tel_y h_y).1, List.length_append, ← rs_lay_a0]; exact hD) hS
            exact L_50 ((6 - 0) + 1) 0 ea la _ _ _ (Nat.lt_succ_self _) (by omega) (lv_sub hl [2, 3, 4, 5, 1, 0] rfl) (by rw [show rs_lay vt 0 (rs_tel (fun x y => decide (0 < rs_sa pz how tol x y 2)) dep tm 0).1 = rs_up vt 0 0 from (rs_lay_1 vt 0 0).symm]; exact hP) (by rw [show rs_lay vt 0 (rs_tel (fun x y => decide (0 < rs_sa pz how tol x y 2)) dep tm 0).1 = rs_up vt 0 0 from (rs_lay_1 vt 0 0).symm]; exact hD) hS
          · have h_27 : 6 < dep := Nat.lt_of_not_le (fun z => h_27 ((nI_leI (by omega) (by omega)).2 z))
            omega

def rm_X4_tessellateF : Room := { frames := 5, cells := 0, slots := 0, locals := 434 }
set_option maxHeartbeats 4000000 in
set_option maxRecDepth 100000 in
theorem c_X4_tessellateF (l : Launch) (D : va_G) (aI aJ aL : ClassId) (sz : Nat) (q : Nat → Nat) (dd : Nat) (dp : Nat) (dk : Nat) (dx : Nat → Int32) (dy : Nat → Int32) (dw : Nat → Int32) (dn : Nat → Nat) (g : Nat) (tm : Nat → Nat) (pz : Nat → Int64) (tk : Nat → Nat) (nn : Nat) (vn : Nat) (vt : Nat → Nat) (po : Nat → Int64) (vl : Nat → Int64) (ea : Nat → Nat) (la : Nat → Nat) (how : Int32) (tol : Int32) (dep : Int32) (hg : g ≤ 3) (hF : ¬ (0 < g ∧ ¬ how < 0 ∧ ¬ nI 1 < how ∧ ¬ tol < 0 ∧ ¬ dep < 0 ∧ dep ≤ nI 6)) : rs_MI (S := Unit) l yX4_tessellate (Cond.code yX4_tessellate prog_6_method_31_code 6 (some .int) :: rsW) rm_X4_tessellateF D vwCl (rs_tys aI aJ aL) rs_nw [.ref (q 0), .int how, .int tol, .int dep] (wM aI aJ aL q dd dp dk dx dy dw dn g tm pz tk nn vn vt po vl ea la) sz ((-1)) (fun uu => wM aI aJ aL q dd dp dk dx dy dw dn g tm pz tk nn vn vt po vl ea la) := by
  refine rs_ent (cc := cX4_tessellate) (maxL := 6) (ret := some .int) (Qc := rs_QI D vwCl _ _ _) (by decide) rfl (Nat.le_of_ble_eq_true rfl) ?_
  intro p e s m args below meth c ls A Q hx hb hr hml hlk hts hown hin hK hN hP hD hS hA hQ hl
  have hl : lv_has ls 6 [(0, .ref (q 0)), (1, .int how), (2, .int tol), (3, .int dep)] := hl
  refine lv_aload_n hx hb dX4_tessellate_0 rfl (lv_at hl 0 rfl) ?_
  refine va_get hx hb hts inX4 hown hK hP 0 (ci := 4) (C := RX4) (T := TX4) (N := 18) rfl rfl 7 (by decide) (hts _ rw_398) (fun _ h => h) (v := .int (nI g)) rfl dX4_tessellate_1 ?_
  refine lv_if_eq hx hb dX4_tessellate_4 (tgt := 30) rfl (fun h_4 => ?_) (fun h_4 => ?_)
  · have h_4 : g = 0 := rs_z1 (by omega) h_4
    refine lv_iconst hx hb dX4_tessellate_30 (v := (-1)) (by decide) ?_
    exact rs_iret () hx hb hr hlk hQ hK hP hD hS rfl rfl rfl dX4_tessellate_31
  · have h_4 : 0 < g := rs_z2 (by omega) h_4
    refine lv_iload_n hx hb dX4_tessellate_7 rfl (lv_at hl 1 rfl) ?_
    refine lv_if_lt hx hb dX4_tessellate_8 (tgt := 30) rfl (fun h_8 => ?_) (fun h_8 => ?_)
    · skip
      refine lv_iconst hx hb dX4_tessellate_30 (v := (-1)) (by decide) ?_
      exact rs_iret () hx hb hr hlk hQ hK hP hD hS rfl rfl rfl dX4_tessellate_31
    · skip
      refine lv_iload_n hx hb dX4_tessellate_11 rfl (lv_at hl 1 rfl) ?_
      refine lv_iconst hx hb dX4_tessellate_12 (v := nI 1) (by decide) ?_
      refine lv_icmp_gt hx hb dX4_tessellate_13 (tgt := 30) rfl (fun h_13 => ?_) (fun h_13 => ?_)
      · skip
        refine lv_iconst hx hb dX4_tessellate_30 (v := (-1)) (by decide) ?_
        exact rs_iret () hx hb hr hlk hQ hK hP hD hS rfl rfl rfl dX4_tessellate_31
      · skip
        refine lv_iload_n hx hb dX4_tessellate_16 rfl (lv_at hl 2 rfl) ?_
        refine lv_if_lt hx hb dX4_tessellate_17 (tgt := 30) rfl (fun h_17 => ?_) (fun h_17 => ?_)
        · skip
          refine lv_iconst hx hb dX4_tessellate_30 (v := (-1)) (by decide) ?_
          exact rs_iret () hx hb hr hlk hQ hK hP hD hS rfl rfl rfl dX4_tessellate_31
        · skip
          refine lv_iload_n hx hb dX4_tessellate_20 rfl (lv_at hl 3 rfl) ?_
          refine lv_if_lt hx hb dX4_tessellate_21 (tgt := 30) rfl (fun h_21 => ?_) (fun h_21 => ?_)
          · skip
            refine lv_iconst hx hb dX4_tessellate_30 (v := (-1)) (by decide) ?_
            exact rs_iret () hx hb hr hlk hQ hK hP hD hS rfl rfl rfl dX4_tessellate_31
          · skip
            refine lv_iload_n hx hb dX4_tessellate_24 rfl (lv_at hl 3 rfl) ?_
            refine lv_bipush hx hb dX4_tessellate_25 (v := nI 6) (by decide) ?_
            refine lv_icmp_le hx hb dX4_tessellate_27 (tgt := 32) rfl (fun h_27 => ?_) (fun h_27 => ?_)
            · skip
              exact absurd ⟨by omega, h_8, h_13, h_17, h_21, h_27⟩ hF
            · skip
              refine lv_iconst hx hb dX4_tessellate_30 (v := (-1)) (by decide) ?_
              exact rs_iret () hx hb hr hlk hQ hK hP hD hS rfl rfl rfl dX4_tessellate_31
