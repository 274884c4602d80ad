/-! THE CLAIM OUT OF ONE WALK OF THE LAW'S BODY. Your part is whole_start (and what it stands on); all else here is the same for every law, but numbers. -/
def R_law : String := "RefinedSplineLaw"
def lw_P (b : Addr) (xs : List Int32) (args : Array Value) (s : State) : Prop := args = #[.ref b] ∧ s.IntsAt b xs ∧ xs.length ≤ 2048 ∧ (Jvm.Cond.and given_1 narrow_1).before args s = true
def lw_Q (_ : Array Value) (s : State) (o : Outcome) (t : State) : Prop := o = .returned (some (.int 1)) ∧ Framed s o t [] 600000 7302250
def lw_Z (below : List Frame) (a : Array Value) (s : State) : State → Prop := fun t => ∃ o, t.status = .running ∧ Ended t below o ∧ lw_Q a s o t
/-- the law's own end, with 1 on the stack, nothing written that was there before, its room as the claim has it -/
theorem lw_ret {p : Program} {l : Launch} {e : Env} {s : State} {m : MethodId} {below : List Frame} {meth : Method} {c : Code} {b : Nat} (hx : p.tables.exec = Jvm.exec) (hb : c.code = code) (hr : meth.sig.returnType = ret) (hlocks : meth.locks = false) {pc : Nat} {H : Heap} {ls : Array Slot} (hdg : decode code pc = .ok (.ireturn, 1)) : W p l e room_1 s m #[Value.ref b] below meth c H [] 600000 7302250 (lw_Z below #[Value.ref b] s) (F0 m pc ls [.int 1]) := by
  intro T hT X
  obtain ⟨fs, hret, hrun, hended, hW, hframe⟩ := X.leave (v := some (.int 1)) (hlocks := hlocks) (fun h => by rw [hr] at h; cases h)
  have hmeth' : T.vm.method? m = some meth := X.method'
  refine ⟨T.setFrames fs, ?_, .returned (some (.int 1)), hrun, hended, rfl, ⟨_, rfl⟩, hW, hframe⟩
  jvm_step X.here [X.here.top, hx, hb, hdg, hmeth', hr, ret, narrow_b1]
  (try refine ⟨rfl, ?_⟩); (try refine ⟨rfl, ?_⟩)
  first | (intro acts; rw [hret _ acts rfl rfl rfl]) | rw [hret _ _ rfl rfl rfl]
  exact Steps.refl _
/-- what holds at the law's entry: the machine, the code, the tables' words (any of lw_tbl by 'hts w (by decide +kernel)'), the script of L ints xs at the cell b, what the Statement gives of the start (any of its parts by flat_of_before) -/
def lw_At (p : Program) (s : State) (m : MethodId) (meth : Method) (c : Code) (b L : Nat) (xs : Nat → Int32) : Prop :=
  p.tables.exec = Jvm.exec ∧ c.code = code ∧ meth.sig.returnType = ret ∧ c.maxLocals = 4 ∧ s.vm.findClass R_law = some m.cls ∧ (∀ w ∈ lw_tbl, w.before #[Value.ref b] s = true) ∧ va_X b L xs s s.heap ∧ b < s.heap.size ∧ meth.locks = false ∧ (Jvm.Cond.and given_1 narrow_1).before #[Value.ref b] s = true
set_option maxHeartbeats 4000000 in
set_option maxRecDepth 100000 in
theorem rs_loop {p : Program} {l : Launch} {e : Env} {s : State} {m : MethodId} {below : List Frame} {meth : Method} {c : Code} {D : va_G} {A : Nat → Prop} {aI aJ aL : ClassId} {b L h hm : Nat} {xs : Nat → Int32} (hx : p.tables.exec = Jvm.exec) (hb : c.code = code) (hr : meth.sig.returnType = ret) (hlk : meth.locks = false) (hml : c.maxLocals = 4) (hown : s.vm.findClass RL = some m.cls) (hts : ∀ w ∈ rsW, w.before #[Value.ref b] s = true) (hK : va_K D vwCl (rs_tys aI aJ aL) s) (hN : rs_N rs_nw s) (hA : ∀ q, s.heap.size ≤ q → A q) (hA2 : ∀ q, A q → s.heap.size ≤ q) (hX : va_X b L xs s s.heap) (hbl : b < s.heap.size) (hbA : ¬ A b) (hL : L ≤ 2048) :
    ∀ (k i : Nat) (H : Heap) (locs : List Loc) (ls : Array Slot), L + 4 < i + k → i ≤ L → lv_has ls 4 [(0, .ref b), (1, .ref h), (2, .ref hm), (3, .int (nI i))] → rs_LW D aI aJ aL A h hm H → va_S A s.heap H locs → W p l e room_1 s m #[Value.ref b] below meth c H locs 39 2081 (lw_Z below #[Value.ref b] s) (F0 m 18 ls []) := by
  intro k
  induction k with
  | zero => intro i H locs ls hk hi; exact absurd hk (by omega)
  | succ k ih =>
    intro i H locs ls hk hi hl hw hS
    refine lv_iload_n hx hb dL_law_18 rfl (lv_at hl 3 rfl) ?_
    refine lv_aload_n hx hb dL_law_19 rfl (lv_at hl 0 rfl) ?_
    refine va_slen hx hb hX hbl hbA hS dL_law_20 ?_
    refine lv_iconst hx hb dL_law_21 (v := nI 4) (by decide) ?_
    refine rs_isub hx hb dL_law_22 (v := nI L - nI 4) rfl ?_
    refine lv_icmp_gt hx hb dL_law_23 (tgt := 569) rfl (fun h9 => ?_) (fun h9 => ?_)
    · refine lv_iconst hx hb dL_law_569 (v := 1) (by decide) ?_
      refine va_forget (fun q hq => hA2 _ (hS.2.2 q hq)) ?_
      refine W.widen (k := 600000) (n := 7302250) (by decide) (by decide) ?_
      exact lw_ret hx hb hr hlk dL_law_570
    · have hi4 : i + 4 ≤ L := by
        have : ¬ L < i + 4 := fun z => h9 ((rs_lt4 (L := L) (i := i) hL (by omega)).2 z)
        omega
      have back : ∀ (H : Heap) (locs : List Loc), rs_LW D aI aJ aL A h hm H → va_S A s.heap H locs → W p l e room_1 s m #[Value.ref b] below meth c H locs 39 2081 (lw_Z below #[Value.ref b] s) (F0 m 563 ls []) := fun H locs hw hS => by
        refine lv_iinc hx hb dL_law_563 hl (k := 3) rfl (v := nI (i + 4)) (rs_inc _ _) (by decide) (lv' := [(3, .int (nI (i + 4))), (0, .ref b), (1, .ref h), (2, .ref hm)]) rfl (fun ls hl => ?_)
        refine lv_goto hx hb dL_law_566 (tgt := 18) rfl ?_
        exact ih (i + 4) H locs ls (by omega) hi4 (lv_sub hl [1, 2, 3, 0] rfl) hw hS
      refine lv_aload_n hx hb dL_law_26 rfl (lv_at hl 0 rfl) ?_
      refine lv_iload_n hx hb dL_law_27 rfl (lv_at hl 3 rfl) ?_
      refine rs_sld hx hb hX hbl hbA hS hL (by omega) dL_law_28 ?_
      refine lv_bipush hx hb dL_law_29 (v := nI 31) (by decide) ?_
      refine lv_iand hx hb dL_law_31 ?_
      obtain ⟨j, hj, ej⟩ := pk_andE (xs i) (m := nI 31) 5 (by decide)
      rw [ej]
      by_cases h19 : 18 < j
      · exact lv_tableOut hx hb dL_law_32 (tgt := 563) (Or.inr (by rw [nI_toInt (by omega)]; omega)) rfl (back H locs hw hS)
      · rcases (show j = 0 ∨ j = 1 ∨ j = 2 ∨ j = 3 ∨ j = 4 ∨ j = 5 ∨ j = 6 ∨ j = 7 ∨ j = 8 ∨ j = 9 ∨ j = 10 ∨ j = 11 ∨ j = 12 ∨ j = 13 ∨ j = 14 ∨ j = 15 ∨ j = 16 ∨ j = 17 ∨ j = 18 by omega) with rfl | rfl | rfl | rfl | rfl | rfl | rfl | rfl | rfl | rfl | rfl | rfl | rfl | rfl | rfl | rfl | rfl | rfl | rfl
        · exact lv_tableIn hx hb dL_law_32 (off := 92) (tgt := 124) (by decide) (by decide) (by decide +kernel) rfl (K_begin hx hb hml hown hts hK hN hA hX hbl hbA hL hi4 hl hw hS back)
        · exact lv_tableIn hx hb dL_law_32 (off := 115) (tgt := 147) (by decide) (by decide) (by decide +kernel) rfl (K_point hx hb hml hown hts hK hN hA hX hbl hbA hL hi4 hl hw hS back)
        · exact lv_tableIn hx hb dL_law_32 (off := 158) (tgt := 190) (by decide) (by decide) (by decide +kernel) rfl (K_knot hx hb hml hown hts hK hN hA hX hbl hbA hL hi4 hl hw hS back)
        · exact lv_tableIn hx hb dL_law_32 (off := 181) (tgt := 213) (by decide) (by decide) (by decide +kernel) rfl (K_finish hx hb hml hown hts hK hN hA hX hbl hbA hL hi4 hl hw hS back)
        · exact lv_tableIn hx hb dL_law_32 (off := 194) (tgt := 226) (by decide) (by decide) (by decide +kernel) rfl (K_insert hx hb hml hown hts hK hN hA hX hbl hbA hL hi4 hl hw hS back)
        · exact lv_tableIn hx hb dL_law_32 (off := 217) (tgt := 249) (by decide) (by decide) (by decide +kernel) rfl (K_remove hx hb hml hown hts hK hN hA hX hbl hbA hL hi4 hl hw hS back)
        · exact lv_tableIn hx hb dL_law_32 (off := 240) (tgt := 272) (by decide) (by decide) (by decide +kernel) rfl (K_decompose hx hb hml hown hts hK hN hA hX hbl hbA hL hi4 hl hw hS back)
        · exact lv_tableIn hx hb dL_law_32 (off := 253) (tgt := 285) (by decide) (by decide) (by decide +kernel) rfl (K_thin hx hb hml hown hts hK hN hA hX hbl hbA hL hi4 hl hw hS back)
        · exact lv_tableIn hx hb dL_law_32 (off := 266) (tgt := 298) (by decide) (by decide) (by decide +kernel) rfl (K_elevate hx hb hml hown hts hK hN hA hX hbl hbA hL hi4 hl hw hS back)
        · exact lv_tableIn hx hb dL_law_32 (off := 279) (tgt := 311) (by decide) (by decide) (by decide +kernel) rfl (K_reverse hx hb hml hown hts hK hN hA hX hbl hbA hL hi4 hl hw hS back)
        · exact lv_tableIn hx hb dL_law_32 (off := 292) (tgt := 324) (by decide) (by decide) (by decide +kernel) rfl (K_degree hx hb hml hown hts hK hN hA hX hbl hbA hL hi4 hl hw hS back)
        · exact lv_tableIn hx hb dL_law_32 (off := 305) (tgt := 337) (by decide) (by decide) (by decide +kernel) rfl (K_points hx hb hml hown hts hK hN hA hX hbl hbA hL hi4 hl hw hS back)
        · exact lv_tableIn hx hb dL_law_32 (off := 318) (tgt := 350) (by decide) (by decide) (by decide +kernel) rfl (K_knotAt hx hb hml hown hts hK hN hA hX hbl hbA hL hi4 hl hw hS back)
        · exact lv_tableIn hx hb dL_law_32 (off := 341) (tgt := 373) (by decide) (by decide) (by decide +kernel) rfl (K_control hx hb hml hown hts hK hN hA hX hbl hbA hL hi4 hl hw hS back)
        · exact lv_tableIn hx hb dL_law_32 (off := 375) (tgt := 407) (by decide) (by decide) (by decide +kernel) rfl (K_span hx hb hml hown hts hK hN hA hX hbl hbA hL hi4 hl hw hS back)
        · exact lv_tableIn hx hb dL_law_32 (off := 398) (tgt := 430) (by decide) (by decide) (by decide +kernel) rfl (K_basis hx hb hml hown hts hK hN hA hX hbl hbA hL hi4 hl hw hS back)
        · exact lv_tableIn hx hb dL_law_32 (off := 432) (tgt := 464) (by decide) (by decide) (by decide +kernel) rfl (K_locate hx hb hml hown hts hK hN hA hX hbl hbA hL hi4 hl hw hS back)
        · exact lv_tableIn hx hb dL_law_32 (off := 465) (tgt := 497) (by decide) (by decide) (by decide +kernel) rfl (K_tessellate hx hb hml hown hts hK hN hA hX hbl hbA hL hi4 hl hw hS back)
        · exact lv_tableIn hx hb dL_law_32 (off := 508) (tgt := 540) (by decide) (by decide) (by decide +kernel) rfl (K_vertex hx hb hml hown hts hK hN hA hX hbl hbA hL hi4 hl hw hS back)
set_option maxHeartbeats 4000000 in
set_option maxRecDepth 100000 in
theorem whole_start {p : Program} {e : Env} {s : State} {m : MethodId} {below : List Frame} {meth : Method} {c : Code} (l : Launch) {b L : Nat} {xs : Nat → Int32} (hL : L ≤ 2048) (C0 : lw_At p s m meth c b L xs) : W p l e room_1 s m #[Value.ref b] below meth c s.heap [] 0 0 (lw_Z below #[Value.ref b] s) (entryFrame m ([Value.ref b] : List Value).toArray 4) := by
  obtain ⟨hx, hb, hr, hml, hown, hts0, hX, hbl, hlk, -⟩ := C0
  have hown : s.vm.findClass RL = some m.cls := hown
  have hts : ∀ w ∈ rsW, w.before #[Value.ref b] s = true := fun w hw => hts0 w (rsW_in hw)
  have hO9 := hts0 _ (List.mem_append_right _ rs_ov_in)
  have hN := rs_N0 hts0
  have hO : rs_O s := over_moved (Vm.Alike.refl s.vm) hO9
  obtain ⟨D, aI, aJ, aL, hK⟩ := rs_K0 hts hO9
  obtain ⟨A, hAe⟩ : ∃ A : Nat → Prop, A = fun q => s.heap.size ≤ q := ⟨_, rfl⟩
  have hA : ∀ q, s.heap.size ≤ q → A q := fun q hq => by rw [hAe]; exact hq
  have hA2 : ∀ q, A q → s.heap.size ≤ q := fun q hq => by rw [hAe] at hq; exact hq
  have hbA : ¬ A b := fun z => by have := hA2 b z; omega
  have hS : va_S A s.heap s.heap [] := va_S.rf
  have hP : va_P D vwCl [] s.heap := fun k q hk => by cases hk
  have hD : va_D A [] := ⟨fun i j p q hi => (by cases hi), fun k q hk => (by cases hk)⟩
  have hl := lv_entry ([Value.ref b]) (n := 4) (Nat.le_of_ble_eq_true rfl)
  rw [lg_entry_eq]
  generalize (lg_sl ([Value.ref b]) ++ List.replicate (4 - (lg_sl ([Value.ref b])).length) Slot.unset).toArray = ls at hl ⊢
  have hl : lv_has ls 4 [(0, .ref b)] := hl
  refine va_new (ci := 3) (fs := [.null, .null, .null, .null]) (C := RX3) (T := TX3) (N := 4) hx hb hts inX3 tyX3 tyX3_ok hown (hts _ rw_8) (hts _ rw_9) (hts _ rw_1) hK hP hD hS hA rfl (fun j hj => by rcases (show j = 0 ∨ j = 1 ∨ j = 2 ∨ j = 3 by omega) with rfl | rfl | rfl | rfl <;> rfl) (Nat.le_of_ble_eq_true rfl) (Nat.le_of_ble_eq_true rfl) dL_law_0 (fun h H hP hD hS => ?_)
  have hP : va_P D vwCl [(h, .inr (3, [.null, .null, .null, .null]))] H := hP
  have hD : va_D A [(h, .inr (3, [.null, .null, .null, .null]))] := hD
  refine lv_dup hx hb dL_law_3 rfl ?_
  refine rs_cI (rest := [.ref h]) (wr := []) (ws' := fun u => rs_wX aI aJ aL h ((u.1, 0, 0, 0, (fun _ => nI 0), (fun _ => nI 0), (fun _ => nI 0), (fun _ => 0)), (u.2.1, 0, nI 0, nI 0, (fun _ => 0), (fun _ => nI 0), (fun _ => nI 0)), (u.2.2.1, 0, 0, (fun _ => 0), (fun _ _ => 0), nI 0, nI 0, (fun _ => 0), (fun _ => 0)), (u.2.2.2, 0, 0, (fun _ => 0), (fun _ _ => 0), nI 0, nI 0, (fun _ => 0), (fun _ => 0)))) ⟨hx, hb, hml, hown, hts⟩ (c_X3_init l D aI aJ aL _ h) (cwI 0 hts (rs_gN rw_12) rfl rfl rfl (hts _ rw_1) (hts _ rw_10) (hts _ rw_11) rfl (by decide +kernel) ⟨Nat.le_of_ble_eq_true rfl, Nat.le_of_ble_eq_true rfl⟩) hK hN hO hP hD hS hA [0] [] [0, 1, 2, 3, 4, 5, 6, 7, 8, 9, 10, 11, 12, 13, 14, 15, 16, 17, 18, 19, 20, 21, 22, 23, 24, 25] (by decide) rfl rfl (fun _ => rfl) hl.1 rfl rfl (Nat.le_of_ble_eq_true rfl) dL_law_4 ⟨Nat.le_of_ble_eq_true rfl, Nat.le_of_ble_eq_true rfl⟩ (fun u H locs hP hD hS => ?_)
  have hP : va_P D vwCl (rs_wX aI aJ aL h ((u.1, 0, 0, 0, (fun _ => nI 0), (fun _ => nI 0), (fun _ => nI 0), (fun _ => 0)), (u.2.1, 0, nI 0, nI 0, (fun _ => 0), (fun _ => nI 0), (fun _ => nI 0)), (u.2.2.1, 0, 0, (fun _ => 0), (fun _ _ => 0), nI 0, nI 0, (fun _ => 0), (fun _ => 0)), (u.2.2.2, 0, 0, (fun _ => 0), (fun _ _ => 0), nI 0, nI 0, (fun _ => 0), (fun _ => 0)))) H := hP
  have hD : va_D A (rs_wX aI aJ aL h ((u.1, 0, 0, 0, (fun _ => nI 0), (fun _ => nI 0), (fun _ => nI 0), (fun _ => 0)), (u.2.1, 0, nI 0, nI 0, (fun _ => 0), (fun _ => nI 0), (fun _ => nI 0)), (u.2.2.1, 0, 0, (fun _ => 0), (fun _ _ => 0), nI 0, nI 0, (fun _ => 0), (fun _ => 0)), (u.2.2.2, 0, 0, (fun _ => 0), (fun _ _ => 0), nI 0, nI 0, (fun _ => 0), (fun _ => 0)))) := hD
  refine lv_astore_n hx hb dL_law_7 rfl hl (lv' := [(1, .ref h), (0, .ref b)]) (by decide) rfl (fun ls hl => ?_)
  refine va_new (ci := 4) (fs := [.int (nI 0), .int (nI 0), .int (nI 0), .null, .null, .null, .null, .int (nI 0), .null, .null, .null, .int (nI 0), .int (nI 0), .null, .null, .null, .null, .null]) (C := RX4) (T := TX4) (N := 18) hx hb hts inX4 tyX4 tyX4_ok hown (hts _ rw_385) (hts _ rw_386) (hts _ rw_5) hK hP hD hS hA rfl (fun j hj => by rcases (show j = 0 ∨ j = 1 ∨ j = 2 ∨ j = 3 ∨ j = 4 ∨ j = 5 ∨ j = 6 ∨ j = 7 ∨ j = 8 ∨ j = 9 ∨ j = 10 ∨ j = 11 ∨ j = 12 ∨ j = 13 ∨ j = 14 ∨ j = 15 ∨ j = 16 ∨ j = 17 by omega) with rfl | rfl | rfl | rfl | rfl | rfl | rfl | rfl | rfl | rfl | rfl | rfl | rfl | rfl | rfl | rfl | rfl | rfl <;> rfl) (Nat.le_of_ble_eq_true rfl) (Nat.le_of_ble_eq_true rfl) dL_law_8 (fun hm H hP hD hS => ?_)
  have hP : va_P D vwCl (rs_wX aI aJ aL h ((u.1, 0, 0, 0, (fun _ => nI 0), (fun _ => nI 0), (fun _ => nI 0), (fun _ => 0)), (u.2.1, 0, nI 0, nI 0, (fun _ => 0), (fun _ => nI 0), (fun _ => nI 0)), (u.2.2.1, 0, 0, (fun _ => 0), (fun _ _ => 0), nI 0, nI 0, (fun _ => 0), (fun _ => 0)), (u.2.2.2, 0, 0, (fun _ => 0), (fun _ _ => 0), nI 0, nI 0, (fun _ => 0), (fun _ => 0))) ++ [(hm, .inr (4, [.int (nI 0), .int (nI 0), .int (nI 0), .null, .null, .null, .null, .int (nI 0), .null, .null, .null, .int (nI 0), .int (nI 0), .null, .null, .null, .null, .null]))]) H := hP
  have hD : va_D A (rs_wX aI aJ aL h ((u.1, 0, 0, 0, (fun _ => nI 0), (fun _ => nI 0), (fun _ => nI 0), (fun _ => 0)), (u.2.1, 0, nI 0, nI 0, (fun _ => 0), (fun _ => nI 0), (fun _ => nI 0)), (u.2.2.1, 0, 0, (fun _ => 0), (fun _ _ => 0), nI 0, nI 0, (fun _ => 0), (fun _ => 0)), (u.2.2.2, 0, 0, (fun _ => 0), (fun _ _ => 0), nI 0, nI 0, (fun _ => 0), (fun _ => 0))) ++ [(hm, .inr (4, [.int (nI 0), .int (nI 0), .int (nI 0), .null, .null, .null, .null, .int (nI 0), .null, .null, .null, .int (nI 0), .int (nI 0), .null, .null, .null, .null, .null]))]) := hD
  refine lv_dup hx hb dL_law_11 rfl ?_
  refine rs_cI (rest := [.ref hm]) (wr := rs_wX aI aJ aL h ((u.1, 0, 0, 0, (fun _ => nI 0), (fun _ => nI 0), (fun _ => nI 0), (fun _ => 0)), (u.2.1, 0, nI 0, nI 0, (fun _ => 0), (fun _ => nI 0), (fun _ => nI 0)), (u.2.2.1, 0, 0, (fun _ => 0), (fun _ _ => 0), nI 0, nI 0, (fun _ => 0), (fun _ => 0)), (u.2.2.2, 0, 0, (fun _ => 0), (fun _ _ => 0), nI 0, nI 0, (fun _ => 0), (fun _ => 0)))) (ws' := fun v => rs_wX aI aJ aL h ((u.1, 0, 0, 0, (fun _ => nI 0), (fun _ => nI 0), (fun _ => nI 0), (fun _ => 0)), (u.2.1, 0, nI 0, nI 0, (fun _ => 0), (fun _ => nI 0), (fun _ => nI 0)), (u.2.2.1, 0, 0, (fun _ => 0), (fun _ _ => 0), nI 0, nI 0, (fun _ => 0), (fun _ => 0)), (u.2.2.2, 0, 0, (fun _ => 0), (fun _ _ => 0), nI 0, nI 0, (fun _ => 0), (fun _ => 0))) ++ wM aI aJ aL v.1 0 0 0 (fun _ => nI 0) (fun _ => nI 0) (fun _ => nI 0) (fun _ => 0) 0 (fun _ => 0) (fun _ => 0) (fun _ => 0) 0 0 (fun _ => 0) (fun _ => 0) (fun _ => 0) (fun _ => 0) (fun _ => 0)) ⟨hx, hb, hml, hown, hts⟩ (c_X4_init l D aI aJ aL _ hm) (cwI 0 hts (rs_gN rw_389) rfl rfl rfl (hts _ rw_5) (hts _ rw_387) (hts _ rw_388) rfl (by decide +kernel) ⟨Nat.le_of_ble_eq_true rfl, Nat.le_of_ble_eq_true rfl⟩) hK hN hO hP hD hS hA [26] [0, 1, 2, 3, 4, 5, 6, 7, 8, 9, 10, 11, 12, 13, 14, 15, 16, 17, 18, 19, 20, 21, 22, 23, 24, 25] [0, 1, 2, 3, 4, 5, 6, 7, 8, 9, 10, 11, 12, 13, 14, 15, 16, 17, 18, 19, 20, 21, 22, 23, 24, 25, 26, 27, 28, 29, 30, 31, 32, 33, 34, 35, 36, 37, 38] (by decide) rfl rfl (fun _ => rfl) hl.1 rfl rfl (Nat.le_of_ble_eq_true rfl) dL_law_12 ⟨Nat.le_of_ble_eq_true rfl, Nat.le_of_ble_eq_true rfl⟩ (fun v H locs hP hD hS => ?_)
  have hP : va_P D vwCl (rs_wX aI aJ aL h ((u.1, 0, 0, 0, (fun _ => nI 0), (fun _ => nI 0), (fun _ => nI 0), (fun _ => 0)), (u.2.1, 0, nI 0, nI 0, (fun _ => 0), (fun _ => nI 0), (fun _ => nI 0)), (u.2.2.1, 0, 0, (fun _ => 0), (fun _ _ => 0), nI 0, nI 0, (fun _ => 0), (fun _ => 0)), (u.2.2.2, 0, 0, (fun _ => 0), (fun _ _ => 0), nI 0, nI 0, (fun _ => 0), (fun _ => 0))) ++ wM aI aJ aL v.1 0 0 0 (fun _ => nI 0) (fun _ => nI 0) (fun _ => nI 0) (fun _ => 0) 0 (fun _ => 0) (fun _ => 0) (fun _ => 0) 0 0 (fun _ => 0) (fun _ => 0) (fun _ => 0) (fun _ => 0) (fun _ => 0)) H := hP
  have hD : va_D A (rs_wX aI aJ aL h ((u.1, 0, 0, 0, (fun _ => nI 0), (fun _ => nI 0), (fun _ => nI 0), (fun _ => 0)), (u.2.1, 0, nI 0, nI 0, (fun _ => 0), (fun _ => nI 0), (fun _ => nI 0)), (u.2.2.1, 0, 0, (fun _ => 0), (fun _ _ => 0), nI 0, nI 0, (fun _ => 0), (fun _ => 0)), (u.2.2.2, 0, 0, (fun _ => 0), (fun _ _ => 0), nI 0, nI 0, (fun _ => 0), (fun _ => 0))) ++ wM aI aJ aL v.1 0 0 0 (fun _ => nI 0) (fun _ => nI 0) (fun _ => nI 0) (fun _ => 0) 0 (fun _ => 0) (fun _ => 0) (fun _ => 0) 0 0 (fun _ => 0) (fun _ => 0) (fun _ => 0) (fun _ => 0) (fun _ => 0)) := hD
  rw [rs_q0_e v.2] at hP hD
  refine lv_astore_n hx hb dL_law_15 rfl hl (lv' := [(2, .ref hm), (1, .ref h), (0, .ref b)]) (by decide) rfl (fun ls hl => ?_)
  refine lv_iconst hx hb dL_law_16 (v := nI 0) (by decide) ?_
  refine lv_istore_n hx hb dL_law_17 rfl hl (lv' := [(3, .int (nI 0)), (2, .ref hm), (1, .ref h), (0, .ref b)]) (by decide) rfl (fun ls hl => ?_)
  exact rs_loop hx hb hr hlk hml hown hts hK hN hA hA2 hX hbl hbA hL (L + 5) 0 H locs ls (by omega) (Nat.zero_le _) (lv_sub hl [3, 2, 1, 0] rfl) ⟨0, 0, 0, (fun _ => nI 0), (fun _ => nI 0), (fun _ => nI 0), (fun _ => 0), 0, (fun _ => 0), 0, (fun _ => 0), (fun _ _ _ => 0), _, (v.1, 0, 0, 0, (fun _ => nI 0), (fun _ => nI 0), (fun _ => nI 0), (fun _ => 0), 0, (fun _ => 0), (fun _ => 0), (fun _ => 0), 0, 0, (fun _ => 0), (fun _ => 0), (fun _ => 0), (fun _ => 0), (fun _ => 0)), rs_RC_0 u.1 u.2.1 u.2.2.1 u.2.2.2, rs_RM_0 v.1, hP, hD⟩ hS
set_option maxHeartbeats 4000000 in
theorem lw_walk (l : Launch) (b : Addr) (xs : List Int32) : MetFree l x (headSpec (Jvm.Cond.code x code maxLocals ret :: tables_1) room_1) (lw_P b xs) (fun _ _ _ _ _ => True) lw_Q := by
  refine MetFree.of_bodyS (code := code) (maxLocals := maxLocals) (ret := ret) (by decide) ?_ ?_
  · intro args s m h hn
    obtain ⟨meth, c, h1, h2, h3, h4, h5, h6, -, -⟩ := Cond.code_spec hn (atoms_spec (ws := Jvm.Cond.code x code maxLocals ret :: tables_1) h _ List.mem_cons_self)
    exact ⟨meth, c, h1, h2, h3, h4, h5, h6⟩
  · intro p e s m args below meth c s₁ B hml0 hP _
    obtain ⟨rfl, hx, hbd, hgv⟩ := hP
    obtain ⟨scr, harrAt, hlist, hof, hsmall⟩ := hx
    obtain ⟨hcb, hkn, -, -⟩ := State.arrayAt?_spec harrAt
    have hown : s.vm.findClass R_law = some m.cls := findClass_of_methodNamed B.named
    have hts0 : ∀ c ∈ (Jvm.Cond.code x code maxLocals ret :: tables_1), c.before #[Value.ref b] s = true := atoms_spec (ws := Jvm.Cond.code x code maxLocals ret :: tables_1) B.pre
    have hts : ∀ w ∈ lw_tbl, w.before #[Value.ref b] s = true := k2_hts_sels lw_privs (fun w hw => hts0 w (List.mem_cons_of_mem _ hw)) lw_privs_ok
    have hml : c.maxLocals = 4 := B.maxLocals_eq (hts0 _ List.mem_cons_self)
    have X₀ : Stand p l e room_1 s m #[Value.ref b] below meth c s₁ [] 0 0 := Stand.of_body B
    have hh0 : s₁.heap = s.heap := by rw [B.state]; rfl
    have hsz : scr.slots.size = xs.length := by rw [← Array.length_toList, hlist, List.length_map]
    have hval : ∀ j : Nat, j < xs.length → scr.slots[j]? = some (.int (xs.getD j 0)) := fun j hj => by
      rw [← Array.getElem?_toList, hlist]
      simp [hj]
    have hbl : b < s.heap.size := (Array.getElem?_eq_some_iff.mp hcb).1
    have hX : va_X b xs.length (fun j => xs.getD j 0) s s.heap := ⟨scr, hcb, hof, hkn, hsz, hval⟩
    have K : W p l e room_1 s m #[Value.ref b] below meth c s₁.heap [] 0 0 (lw_Z below #[Value.ref b] s) (entryFrame m ([Value.ref b] : List Value).toArray 4) := by
      rw [hh0]
      exact whole_start l hbd ⟨B.exec, B.bytes, B.returns, hml, hown, hts, hX, hbl, B.notSynchronized, hgv⟩
    obtain ⟨t, a1, o, b1, b2, b3⟩ := K s₁ rfl X₀
    exact ⟨t, o, a1, b1, b2, b3⟩
theorem lw_pre_spec {args : Array Value} {s : State} (h : (Jvm.Cond.and given_1 narrow_1).before args s = true) (hr : rest_1_c.before args s = true) : ∃ (b : Addr) (xs : List Int32), lw_P b xs args s := by
  have hs := flat_of_before _ h
  have hq := flat_of_before _ hr
  have hc : (Cond.count 1).before args s = true := hs _ (by decide +kernel)
  have harr : (Cond.arrayOf (.arg 0) .int).before args s = true := hs _ (by decide +kernel)
  have hle : (Cond.le (.length (.arg 0)) (.int 2048)).before args s = true := hs _ (by decide +kernel)
  have hlen : (Cond.isInt (.length (.arg 0))).before args s = true := hq _ (by decide +kernel)
  have hall : (Cond.all (.arg 0) (.isInt (.elem (.arg 0) (.index 0)))).before args s = true := hq _ (by decide +kernel)
  obtain ⟨b, xs, hb, hx⟩ := State.ints_of_pre rfl harr hlen hall
  have hsm : xs.length < 2 ^ 31 := hx.choose_spec.2.2.2
  have hev : (Term.length (.arg 0)).eval args s none [] s = some (.int xs.length.toInt32) := hx.length_eval hb
  have hv := Cond.le_ints hev (show (Term.int 2048).eval args s none [] s = some (.int 2048) from rfl)
  have hd : xs.length.toInt32 ≤ 2048 := by
    simpa [Cond.before, Cond.holds, hv] using hle
  have hN : xs.length ≤ 2048 := (Int32.ofNat_le_ofNat hsm (by decide)).mp (show Int32.ofNat xs.length ≤ Int32.ofNat 2048 from hd)
  exact ⟨b, xs, Cond.one_arg hc (show args[0]? = some (.ref b) from hb), hx, hN, h⟩
theorem lw_comes (l : Launch) : Comes l x (Jvm.Cond.code x code maxLocals ret :: tables_1) room_1 (fun tb e args s => Calls_1 tb e args s ∧ rest_1 tb e args s ∧ Pre_1 tb e args s)
    (fun _ _ args s o t => lw_Q args s o t) := by
  intro p e ha hc hk s m args below hf hfit hheap happ hpre
  obtain ⟨b, xs, hP⟩ := lw_pre_spec hpre.2.2 hpre.2.1
  obtain ⟨k, o, h1, h2, h3, hQ⟩ := lw_walk l b xs p e ha hc hk s m args below hf ((Spec.applies_iff_loose hf).mp happ).1 hP trivial
  exact ⟨k, o, h1, h2, h3, hQ⟩
theorem lw_frame {s t : State} {o : Outcome} {args : Array Value} (h : Framed s o t [] 600000 7302250) :
    Framed s o t (fieldLocs frame_1_writes args s ++ arrayLocs frame_1_arrays args s ++ staticLocs frame_1_statics s) 600000 7302250 := h
theorem lw_limb (L : Cond) (hL : ∀ (args : Array Value) (s t : State), L.after args s (.returned (some (.int 1))) t = true) :
    ArmFor flags0 classFile x code maxLocals ret World_1 tables_1 room_1 Calls_1 rest_1 Pre_1
      (fun tb e a s o t => postC L tb e a s o t ∧ Framed s o t (fieldLocs frame_1_writes a s ++ arrayLocs frame_1_arrays a s ++ staticLocs frame_1_statics s) 600000 7302250) := by
  intro l _ _ _ p e ha hc hk s m args below hf hfit hheap happ hpre
  obtain ⟨k, o, h1, h2, h3, rfl, hF⟩ := lw_comes l p e ha hc hk s m args below hf hfit hheap happ hpre
  exact ⟨k, _, h1, h2, h3, hL args s _, lw_frame hF⟩
theorem i_vc : Claimed_1_1 ∧ Claimed_1_2 := ⟨lw_limb limb_1_1 (fun args s t => by simp [limb_1_1, Cond.after, Cond.holds, Cond.value]), lw_limb limb_1_2 (fun args s t => Cond.after_iff.mpr (by
  first | (rw [show limb_1_2 = Cond.eq .result (.int 1) from rfl, Cond.eq_ints (x := 1) (y := 1) rfl rfl]; simp; done) | (simp [limb_1_2, Cond.value, Term.eval]; done)))⟩

