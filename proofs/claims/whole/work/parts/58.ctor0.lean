/-! Constructors: contracts of methods that make cells. -/
def rs_O (U : State) : Prop := (Cond.arrayOver (.array .long)).before #[] U = true
theorem rs_O.moved {u U : State} (hal : u.vm.Alike U.vm) (h : rs_O u) : rs_O U := over_moved hal h
theorem rs_O.use {U : State} (h : rs_O U) {A : Array Value} : (Cond.arrayOver (.array .long)).before A U = true := over_moved (Vm.Alike.refl U.vm) h
def rs_inC (D : va_G) (cl : List vw_C) (tys : List (ClassId × FieldType)) (nw : List Cond) (ws : va_W) (sz : Nat) (U : State) : Prop := rs_in D cl tys nw ws sz U ∧ rs_O U
/-- the contract of a constructor: from the world ws it comes to ws', with mc cells of ms places more -/
def rs_MC {S : Type} (l : Launch) (y : MethodName) (wy : List Cond) (rm : Room) (D : va_G) (cl : List vw_C) (tys : List (ClassId × FieldType)) (nw : List Cond) (av : List Value) (ws : va_W) (sz : Nat) (ws' : S → va_W) (mc ms : Nat) : Prop := Met l y wy rm (va_Pc av (rs_inC D cl tys nw ws sz)) (rs_QV D cl tys ws' (va_A ws sz)) mc ms (va_A ws sz)
theorem rs_blindC {D : va_G} {cl : List vw_C} {tys : List (ClassId × FieldType)} {nw : List Cond} {ws : va_W} {sz : Nat} {av : List Value} : FrameBlind (va_Pc av (rs_inC D cl tys nw ws sz)) := by
  intro a U g mk q
  obtain ⟨q0, ⟨q1, qP, qK, qD, qN⟩, qO⟩ := q
  exact ⟨q0, ⟨q1, qP, va_K.moved (u := U) (U := U.calling g mk a) (Vm.Alike.refl U.vm) qK, qD, rs_N.same (u := U) (U := U.calling g mk a) rfl qN⟩, rs_O.moved (u := U) (U := U.calling g mk a) (Vm.Alike.refl U.vm) qO⟩
section RSEC
variable {l : Launch} {y : MethodName} {wy wy' : List Cond} {rm : Room} {D : va_G} {cl : List vw_C} {tys : List (ClassId × FieldType)} {nw : List Cond} {av : List Value} {ws ws' : va_W} {sz mc ms : Nat} {cc : ByteArray} {maxL : Nat} {ret : Option FieldType}
theorem rs_entC {Qc : (Nat → Prop) → Array Value → State → Outcome → State → Prop} (hy : plainName y.cls = true) (hw : wy = Cond.code y cc maxL ret :: wy') (hal : (lg_sl av).length ≤ maxL)
    (body : ∀ (p : Program) (e : Env) (s : State) (m : MethodId) (args : Array Value) (below : List Frame) (meth : Method) (c : Code) (ls : Array Slot) (A : Nat → Prop) (Q : State → Prop),
    p.tables.exec = Jvm.exec → c.code = cc → meth.sig.returnType = ret → c.maxLocals = maxL → meth.locks = false → (∀ w ∈ wy', w.before args s = true) → s.vm.findClass y.cls = some m.cls → meth.name = y.name →
    va_K D cl tys s → rs_N nw s → rs_O s → va_P D cl ws s.heap → va_D A ws → va_S A s.heap s.heap [] → (∀ q, s.heap.size ≤ q → A q) → Q = MQ below (Qc A) args s mc ms A → lv_has ls maxL (lv_args 0 av) →
    W p l e rm s m args below meth c s.heap [] 0 0 Q (F0 m 0 ls [])) : Met l y wy rm (va_Pc av (rs_inC D cl tys nw ws sz)) (Qc (va_A ws sz)) mc ms (va_A ws sz) := by
  refine Met.ofW (cc := cc) (maxL := maxL) (ret := ret) hy hw ?_
  intro p e s m args below meth c s₁ B hml hv
  obtain ⟨rfl, ⟨hsz, hP, hK, hD0, hN⟩, hO⟩ := hv
  have hts0 := atoms_spec (ws := wy) B.pre
  have hts : ∀ w ∈ wy', w.before av.toArray s = true := fun w h => hts0 w (by rw [hw]; exact List.mem_cons_of_mem _ h)
  have hl := lv_entry av (n := maxL) hal
  rw [lg_entry_eq]
  subst hsz
  exact body p e s m _ below meth c _ (va_A ws s.heap.size) _ B.exec B.bytes B.returns hml B.notSynchronized hts (findClass_of_methodNamed B.named) (name_of_methodNamed B.named B.method).1 hK hN hO hP hD0.self va_S.rf (fun q h => Or.inr h) rfl hl
end RSEC
theorem rs_inner (c : ClassId) : Jvm.Free.Multi.innerC c 19 (defaultValue .long) = vp_cell c (19, .inr (.inl (fun _ => 0))) := by
  show ({ cls := c, slots := Array.replicate 19 (.long 0), vm := .none } : Cell) = arrV c 19 (fun _ => .long 0)
  rw [arrV_new]
section RSNC
variable {p : Program} {l : Launch} {e : Env} {R : Room} {s : State} {m : MethodId} {args : Array Value} {below : List Frame} {meth : Method} {c : Code} {H : Heap} {locs : List Loc} {cells slots : Nat} {Q : State → Prop}
variable {cc : ByteArray} {pc : Nat} {ls : Array Slot} {rest : List Value} {D : va_G} {cl : List vw_C} {A : Nat → Prop} {a : Nat} {tys : List (ClassId × FieldType)} {ws : va_W} {H0 : Heap} {S : Type} {ws' : S → va_W}
theorem rs_vretC (u : S) (hx : p.tables.exec = Jvm.exec) (hb : c.code = cc) (hr : meth.sig.returnType = none) (hlk : meth.locks = false) (hQ : Q = MQ below (rs_QV D cl tys ws' A) args s cells slots A) (hK : va_K D cl tys s) (hP : va_P D cl ws H) (hD : va_D A ws) (hS : va_S A s.heap H locs) (hw : ws = ws' u) (hdg : decode cc pc = .ok (.return_, 1)) : W p l e R s m args below meth c H locs cells slots Q (F0 m pc ls []) := by
  subst hQ; subst hw
  exact W.vret hx hb hr (fun t ht hW => ⟨⟨u, rfl, trivial, by rw [ht]; exact hP, va_K.moved hW.alike hK, hD⟩, hS.F ht⟩) hS.2.2 hdg hlk
theorem rs_newI (hx : p.tables.exec = Jvm.exec) (hb : c.code = cc) (harr : (Cond.arrayClass .int).before args s = true) (hK : va_K D cl tys s) (t0 : Nat) {cA : ClassId} (ht : tys[t0]? = some (cA, .int)) (hP : va_P D cl ws H) (hD : va_D A ws) (hS : va_S A H0 H locs) (hA : ∀ q, H0.size ≤ q → A q)
    {n : Nat} (hn : n ≤ 1000) (hcells : cells + 1 ≤ R.cells) (hslots : slots + n ≤ R.slots) (hdg : decode cc pc = .ok (.newarray .int, 2))
    (kk : ∀ (q : Nat) (H1 : Heap), va_P D cl (ws ++ [(q, .inl (cA, n, .inl (fun _ => nI 0)))]) H1 → va_D A (ws ++ [(q, .inl (cA, n, .inl (fun _ => nI 0)))]) → va_S A H0 H1 locs →
      W p l e R s m args below meth c H1 locs (cells + 1) (slots + n) Q (F0 m (pc + 2) ls (.ref q :: rest))) : W p l e R s m args below meth c H locs cells slots Q (F0 m pc ls (.int (nI n) :: rest)) := by
  refine va_newa (atype := .int) (ty := .int) (a0 := (n, .inl (fun _ => nI 0))) hx hb harr rfl hK hP hD hS hA (fun _ => rfl) (nI_pos (by omega)) (nI_clamp (by omega)) (by show n * 4 ≤ _; omega) hcells hslots hdg ?_
  intro q cB H1 hK1 hP1 hD1 hS1
  have h1 := (hK1.2 tys.length (cB, .int) (by simp)).2
  have h2 := (hK.2 t0 _ ht).2
  have e1 : some cA = some cB := h2.symm.trans h1
  cases e1
  exact kk q H1 hP1 hD1 hS1
theorem rs_newJ (hx : p.tables.exec = Jvm.exec) (hb : c.code = cc) (harr : (Cond.arrayClass .long).before args s = true) (hK : va_K D cl tys s) (t0 : Nat) {cA : ClassId} (ht : tys[t0]? = some (cA, .long)) (hP : va_P D cl ws H) (hD : va_D A ws) (hS : va_S A H0 H locs) (hA : ∀ q, H0.size ≤ q → A q)
    {n : Nat} (hn : n ≤ 1000) (hcells : cells + 1 ≤ R.cells) (hslots : slots + n ≤ R.slots) (hdg : decode cc pc = .ok (.newarray .long, 2))
    (kk : ∀ (q : Nat) (H1 : Heap), va_P D cl (ws ++ [(q, .inl (cA, n, .inr (.inl (fun _ => 0))))]) H1 → va_D A (ws ++ [(q, .inl (cA, n, .inr (.inl (fun _ => 0))))]) → va_S A H0 H1 locs →
      W p l e R s m args below meth c H1 locs (cells + 1) (slots + n) Q (F0 m (pc + 2) ls (.ref q :: rest))) : W p l e R s m args below meth c H locs cells slots Q (F0 m pc ls (.int (nI n) :: rest)) := by
  refine va_newa (atype := .long) (ty := .long) (a0 := (n, .inr (.inl (fun _ => 0)))) hx hb harr rfl hK hP hD hS hA (fun _ => rfl) (nI_pos (by omega)) (nI_clamp (by omega)) (by show n * 8 ≤ _; omega) hcells hslots hdg ?_
  intro q cB H1 hK1 hP1 hD1 hS1
  have h1 := (hK1.2 tys.length (cB, .long) (by simp)).2
  have h2 := (hK.2 t0 _ ht).2
  have e1 : some cA = some cB := h2.symm.trans h1
  cases e1
  exact kk q H1 hP1 hD1 hS1
theorem rs_newR {own : String} {index : Nat} (hx : p.tables.exec = Jvm.exec) (hb : c.code = cc) (hown : s.vm.findClass own = some m.cls) (hclink : (Cond.classLink own index "[[J").before args s = true) (hO : rs_O s) (harr : (Cond.arrayClass .long).before args s = true) (hK : va_K D cl tys s) (t0 t1 : Nat) {cA cJ : ClassId} (ht : tys[t0]? = some (cA, .array .long)) (ht1 : tys[t1]? = some (cJ, .long)) (hP : va_P D cl ws H) (hD : va_D A ws) (hS : va_S A H0 H locs) (hA : ∀ q, H0.size ≤ q → A q)
    (hcells : cells + 4 ≤ R.cells) (hslots : slots + 60 ≤ R.slots) (hdg : decode cc pc = .ok (.multianewarray index 2, 4))
    (kk : ∀ (q : Nat) (r : Nat → Nat) (H1 : Heap), va_P D cl (ws ++ [(q, .inl (cA, 3, .inr (.inr (.inr (.inr (fun i => if i < 3 then some (r i) else none)))))), (r 0, .inl (cJ, 19, .inr (.inl (fun _ => 0)))), (r 1, .inl (cJ, 19, .inr (.inl (fun _ => 0)))), (r 2, .inl (cJ, 19, .inr (.inl (fun _ => 0))))]) H1 → va_D A (ws ++ [(q, .inl (cA, 3, .inr (.inr (.inr (.inr (fun i => if i < 3 then some (r i) else none)))))), (r 0, .inl (cJ, 19, .inr (.inl (fun _ => 0)))), (r 1, .inl (cJ, 19, .inr (.inl (fun _ => 0)))), (r 2, .inl (cJ, 19, .inr (.inl (fun _ => 0))))]) → va_S A H0 H1 locs →
      W p l e R s m args below meth c H1 locs (cells + 4) (slots + 60) Q (F0 m (pc + 4) ls (.ref q :: rest))) : W p l e R s m args below meth c H locs cells slots Q (F0 m pc ls (.int (nI 19) :: .int (nI 3) :: rest)) := by
  have f0 : Nat → va_E := fun _ => .inr (0, [])
  have hP0 : va_P D cl (ws ++ va_pl [] f0) H := by rw [show va_pl [] f0 = [] from rfl, List.append_nil]; exact hP
  have hD0 : va_D A (ws ++ va_pl [] f0) := by rw [show va_pl [] f0 = [] from rfl, List.append_nil]; exact hD
  refine va_mna (ty := .long) (cy := cJ) (N' := 3) (K' := 19) (z := (19, .inr (.inl (fun _ => 0)))) hx hb hown hclink hO.use harr (hK.2 t1 _ ht1).2 hK hP0 hD0 hS hA (nI_pos (by omega)) (nI_pos (by omega)) (nI_clamp (by omega)) (nI_clamp (by omega)) (by omega) (by decide) (by omega) (by decide) (by decide) hcells hslots (fun c => rs_inner c) hdg ?_
  intro q r cB H1 hr hrL hK1 hP1 hD1 hS1
  have h1 := (hK1.2 tys.length (cB, .array .long) (by simp)).2
  have h2 := (hK.2 t0 _ ht).2
  have e1 : some cA = some cB := h2.symm.trans h1
  cases e1
  have e3 : ∀ g : Nat → va_E, va_pl ([] ++ (List.range 3).map r) g = [(r 0, g (r 0)), (r 1, g (r 1)), (r 2, g (r 2))] := fun g => rfl
  have e4 : ∀ (v : va_E) (k : Nat), k < 3 → vr_up f0 ((List.range 3).map r) v (r k) = v := fun v k hk => vr_up_in (List.mem_map.mpr ⟨k, List.mem_range.mpr hk, rfl⟩)
  rw [e3, e4 _ 0 (by omega), e4 _ 1 (by omega), e4 _ 2 (by omega), List.append_assoc] at hP1 hD1
  exact kk q r H1 hP1 hD1 hS1
theorem rs_Pref {cA : ClassId} {n : Nat} {f g : Nat → Option Nat} (hP : va_P D cl ws H) (hD : va_D A ws) (k : Nat) (he : ws[k]? = some (a, .inl (cA, n, .inr (.inr (.inr (.inr f)))))) (hfg : ∀ j, j < n → f j = g j) {wz : va_W} (hw : ws.set k (a, .inl (cA, n, .inr (.inr (.inr (.inr g))))) = wz) : va_P D cl wz H ∧ va_D A wz := by
  subst hw
  refine ⟨hP.set hD he ?_ (fun q _ => rfl), hD.set he⟩
  have h0 := hP k _ he
  show H[a]? = some (vp_cell cA (n, .inr (.inr (.inr (.inr g)))))
  have h1 : H[a]? = some (vp_cell cA (n, .inr (.inr (.inr (.inr f))))) := h0
  rw [h1]
  show some (arrV cA n (fun j => va_rf (f j))) = some (arrV cA n (fun j => va_rf (g j)))
  congr 1
  unfold arrV
  congr 1
  congr 1
  funext j
  show va_rf (f j.val) = va_rf (g j.val)
  rw [hfg j.val j.isLt]
end RSNC
