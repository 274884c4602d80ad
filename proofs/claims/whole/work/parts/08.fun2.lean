/-! More of what the class computes. -/
def rs_fd (x y : Int64) : Int64 := if (x ^^^ y) < 0 ∧ ¬ x / y * y = x then x / y - 1 else x / y
def rs_th (x w : Int64) : Int32 := if w = 0 then nI 0 else (rs_fd (1000 * x) w).toInt32
def rs_sumL (F : Nat → Int64) : Nat → Int64
  | 0 => 0
  | v + 1 => rs_sumL F v + F v
/-- the knots i + 1 .. but the one v + 1 further, in sixtieths -/
def rs_us (kn2 : Nat → Nat) (i v : Nat) : Nat → Nat := fun k => 60 * kn2 (i + (if k < v then k + 1 else k + 2))
theorem rs_us_eq {kn2 : Nat → Nat} {i v w f : Nat} (h : (w < v ∧ f = w) ∨ (v < w ∧ f + 1 = w)) : 60 * kn2 (i + (w + 1)) = rs_us kn2 i v f := by
  unfold rs_us
  rcases h with ⟨h1, rfl⟩ | ⟨h1, rfl⟩
  · rw [if_pos h1]
  · rw [if_neg (by omega)]
def rs_rai (kn : Nat → Nat) (d n : Nat) (rz : Nat → Nat → Int64) (kn2 : Nat → Nat) (ax i : Nat) : Int64 :=
  rs_quo (rs_sumL (fun v => rs_bl kn d n rz (rs_us kn2 i v) ax (rs_sp kn d (60 * kn2 i) (n - (d + 1))) d d) (d + 1)) (rs_p60 (lN (d + 1)) d)
/-- how many knots are filled before turn i, where the last of each kind is laid twice -/
def rs_rf (kn : Nat → Nat) (tot : Nat) : Nat → Nat
  | 0 => 0
  | i + 1 => if i + 1 = tot ∨ kn i < kn (i + 1) then rs_rf kn tot i + 2 else rs_rf kn tot i + 1
theorem rs_rf_lt (kn : Nat → Nat) (tot : Nat) {x i : Nat} (h : x < i) : rs_rf kn tot x < rs_rf kn tot i ∧ ((x + 1 = tot ∨ kn x < kn (x + 1)) → rs_rf kn tot x + 1 < rs_rf kn tot i) := by
  induction i with
  | zero => exact absurd h (Nat.not_lt_zero _)
  | succ i ih =>
    have hs : rs_rf kn tot i < rs_rf kn tot (i + 1) := by
      by_cases hl : i + 1 = tot ∨ kn i < kn (i + 1)
      · have e1 : rs_rf kn tot (i + 1) = rs_rf kn tot i + 2 := if_pos hl
        omega
      · have e1 : rs_rf kn tot (i + 1) = rs_rf kn tot i + 1 := if_neg hl
        omega
    by_cases e : x = i
    · subst e
      refine ⟨hs, fun hl => ?_⟩
      have : rs_rf kn tot (x + 1) = rs_rf kn tot x + 2 := if_pos hl
      omega
    · have := ih (by omega)
      refine ⟨by omega, fun hl => ?_⟩
      have := this.2 hl
      omega
def rs_RK (kn : Nat → Nat) (tot : Nat) (k2 : Nat → Nat) (i : Nat) : Prop := ∀ x, x < i → k2 (rs_rf kn tot x) = kn x ∧ ((x + 1 = tot ∨ kn x < kn (x + 1)) → k2 (rs_rf kn tot x + 1) = kn x)
theorem rs_RK.zero {kn k2 : Nat → Nat} {tot : Nat} : rs_RK kn tot k2 0 := fun x h => absurd h (Nat.not_lt_zero _)
theorem rs_RK_a {kn k2 : Nat → Nat} {tot i : Nat} (h : rs_RK kn tot k2 i) (hl : ¬ (i + 1 = tot ∨ kn i < kn (i + 1))) : rs_RK kn tot (rs_up k2 (rs_rf kn tot i) (kn i)) (i + 1) := by
  intro x hx
  by_cases e : x = i
  · subst e
    exact ⟨rs_up_s _ _ _, fun z => absurd z hl⟩
  · have h1 := rs_rf_lt kn tot (x := x) (i := i) (by omega)
    have h2 := h x (by omega)
    refine ⟨?_, fun z => ?_⟩
    · rw [rs_up_n (by omega)]; exact h2.1
    · have := h1.2 z
      rw [rs_up_n (by omega)]; exact h2.2 z
theorem rs_RK_b {kn k2 : Nat → Nat} {tot i : Nat} (h : rs_RK kn tot k2 i) (_ : i + 1 = tot ∨ kn i < kn (i + 1)) : rs_RK kn tot (rs_up (rs_up k2 (rs_rf kn tot i) (kn i)) (rs_rf kn tot i + 1) (kn i)) (i + 1) := by
  intro x hx
  by_cases e : x = i
  · subst e
    exact ⟨by rw [rs_up_n (by omega), rs_up_s], fun _ => rs_up_s _ _ _⟩
  · have h1 := rs_rf_lt kn tot (x := x) (i := i) (by omega)
    have h2 := h x (by omega)
    refine ⟨?_, fun z => ?_⟩
    · rw [rs_up_n (by omega), rs_up_n (by omega)]; exact h2.1
    · have := h1.2 z
      rw [rs_up_n (by omega), rs_up_n (by omega)]; exact h2.2 z
theorem rs_gT {own : String} {idx : Nat} {y : MethodName} {bytes : ByteArray} {maxL : Nat} {ret : Option FieldType} (h1 : Cond.methodLink own idx y ∈ rsW) (h2 : Cond.static y ∈ rsW) (h4 : Cond.initialized y.cls ∈ rsW) (h5 : Cond.code y bytes maxL ret ∈ rsW) : GoodIn rsW (va_wsS own idx y (Cond.code y bytes maxL ret :: rsW)) := by
  intro w hw
  unfold va_wsS at hw
  rcases List.mem_append.mp hw with h | h
  · simp only [List.mem_cons, List.not_mem_nil, or_false] at h
    rcases h with e | e | e <;> rw [e]
    · exact rs_gd h1
    · exact rs_gd h2
    · exact rs_gd h4
  · exact rs_gN h5 w h
theorem rs_fd_1 {x y : Int64} (h : 0 ≤ x ^^^ y) : x / y = rs_fd x y := by
  unfold rs_fd
  rw [if_neg (fun z => Int64.not_lt.mpr h z.1)]
theorem rs_fd_2 {x y : Int64} (h : x / y * y = x) : x / y = rs_fd x y := by
  unfold rs_fd
  rw [if_neg (fun z => z.2 h)]
theorem rs_fd_3 {x y : Int64} (h1 : ¬ 0 ≤ x ^^^ y) (h2 : ¬ x / y * y = x) : x / y - 1 = rs_fd x y := by
  unfold rs_fd
  rw [if_pos ⟨Int64.not_le.mp h1, h2⟩]
/-- a contract of a method whose class has natives that are the machine's own, itself none of them -/
theorem rs_entF {l : Launch} {y : MethodName} {wy wy' : List Cond} {rm : Room} {D : va_G} {cl : List vw_C} {tys : List (ClassId × FieldType)} {nw : List Cond} {av : List Value} {ws : va_W} {sz : Nat} {cc : ByteArray} {maxL : Nat} {ret : Option FieldType}
    {Qc : (Nat → Prop) → Array Value → State → Outcome → State → Prop} (hy : plainFor y = true) (hw : wy = Cond.code y cc maxL ret :: wy') (hal : (lg_sl av).length ≤ maxL)
    (body : rs_Ent l y wy' rm D cl tys nw av ws cc maxL ret Qc) : Met l y wy rm (va_Pc av (rs_in D cl tys nw ws sz)) (Qc (va_A ws sz)) 0 0 (va_A ws sz) := by
  refine MetFree.of_bodySF (code := cc) (maxLocals := maxL) (ret := ret) hy ?_ ?_
  · intro args s m h hn
    obtain ⟨meth, c, h1, h2, h3, h4, h5, h6, -, -⟩ := Cond.code_spec hn (atoms_spec (ws := wy) h _ (by rw [hw]; exact List.mem_cons_self))
    exact ⟨meth, c, h1, h2, h3, h4, h5, h6⟩
  · intro p e s m args below meth c s₁ B hml hv _
    obtain ⟨rfl, hsz, hP, hK, hD0, hN⟩ := hv
    have hts0 := atoms_spec (ws := wy) B.pre
    have hts : ∀ w ∈ wy', w.before av.toArray s = true := fun w h => hts0 w (by rw [hw]; exact List.mem_cons_of_mem _ h)
    have hl := lv_entry av (n := maxL) hal
    subst hsz
    have hh0 : s₁.heap = s.heap := by rw [B.state]; rfl
    have K := body p e s m _ below meth c _ (va_A ws s.heap.size) _ B.exec B.bytes B.returns hml B.notSynchronized hts (findClass_of_methodNamed B.named) (name_of_methodNamed B.named B.method).1 hK hN hP hD0.self va_S.rf (fun q h => Or.inr h) rfl hl
    rw [← lg_entry_eq] at K
    obtain ⟨t, a1, o, b1, b2, b3⟩ := K s₁ hh0 (Stand.of_body B)
    exact ⟨t, o, a1, b1, b2, ⟨b3.1, b3.2⟩⟩
