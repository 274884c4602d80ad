/-! The model's cutting with a stack. -/
def rs_stk (ea la : Nat → Nat) : Nat → List (Nat × Nat)
  | 0 => []
  | s + 1 => (ea s, la s) :: rs_stk ea la s
def rs_todo (ok : Nat → Nat → Bool) : Nat → List (Nat × Nat) → List Nat
  | _, [] => []
  | f, (e, l) :: st => rs_cut ok l f e ++ rs_todo ok e st
def rs_mu (la : Nat → Nat) : Nat → Nat
  | 0 => 0
  | s + 1 => rs_mu la s + (2 ^ (la s + 1) - 1)
theorem rs_stk_cg {ea la eb lb : Nat → Nat} : ∀ s, (∀ i, i < s → ea i = eb i) → (∀ i, i < s → la i = lb i) → rs_stk ea la s = rs_stk eb lb s
  | 0, _, _ => rfl
  | s + 1, h1, h2 => by
    show (ea s, la s) :: rs_stk ea la s = (eb s, lb s) :: rs_stk eb lb s
    rw [h1 s (Nat.lt_succ_self _), h2 s (Nat.lt_succ_self _), rs_stk_cg s (fun i hi => h1 i (by omega)) (fun i hi => h2 i (by omega))]
theorem rs_mu_cg {la lb : Nat → Nat} : ∀ s, (∀ i, i < s → la i = lb i) → rs_mu la s = rs_mu lb s
  | 0, _ => rfl
  | s + 1, h => by
    show rs_mu la s + (2 ^ (la s + 1) - 1) = rs_mu lb s + (2 ^ (lb s + 1) - 1)
    rw [h s (Nat.lt_succ_self _), rs_mu_cg s (fun i hi => h i (by omega))]
theorem rs_cut_one {ok : Nat → Nat → Bool} {l f e : Nat} (h : l = 0 ∨ e - f < 2 ∨ ok f e = true) : rs_cut ok l f e = [e] := by
  cases l with
  | zero => rfl
  | succ l =>
    show (if e - f < 2 then _ else _) = _
    by_cases g : e - f < 2
    · rw [if_pos g]
    · rw [if_neg g]
      rcases h with h | h | h
      · omega
      · exact absurd h g
      · rw [h]; rfl
theorem rs_cut_two {ok : Nat → Nat → Bool} {l f e : Nat} (h0 : 0 < l) (h1 : ¬ e - f < 2) (h2 : ok f e = false) : rs_cut ok l f e = rs_cut ok (l - 1) f ((f + e) / 2) ++ rs_cut ok (l - 1) ((f + e) / 2) e := by
  obtain ⟨b, rfl⟩ : ∃ b, l = b + 1 := ⟨l - 1, by omega⟩
  show (if e - f < 2 then _ else _) = _
  rw [if_neg h1, h2]
  rfl
theorem rs_todo_pop {ok : Nat → Nat → Bool} {ea la : Nat → Nat} {f s : Nat} (h : la s = 0 ∨ ea s - f < 2 ∨ ok f (ea s) = true) : rs_todo ok f (rs_stk ea la (s + 1)) = ea s :: rs_todo ok (ea s) (rs_stk ea la s) := by
  show rs_cut ok (la s) f (ea s) ++ rs_todo ok (ea s) (rs_stk ea la s) = _
  rw [rs_cut_one h]
  rfl
theorem rs_todo_split {ok : Nat → Nat → Bool} {ea la : Nat → Nat} {f s : Nat} (h0 : 0 < la s) (h1 : ¬ ea s - f < 2) (h2 : ok f (ea s) = false) : rs_todo ok f (rs_stk (rs_up ea (s + 1) ((f + ea s) / 2)) (rs_up (rs_up la s (la s - 1)) (s + 1) (la s - 1)) (s + 2)) = rs_todo ok f (rs_stk ea la (s + 1)) := by
  show rs_cut ok (rs_up (rs_up la s (la s - 1)) (s + 1) (la s - 1) (s + 1)) f (rs_up ea (s + 1) ((f + ea s) / 2) (s + 1)) ++ (rs_cut ok (rs_up (rs_up la s (la s - 1)) (s + 1) (la s - 1) s) (rs_up ea (s + 1) ((f + ea s) / 2) (s + 1)) (rs_up ea (s + 1) ((f + ea s) / 2) s) ++ rs_todo ok (rs_up ea (s + 1) ((f + ea s) / 2) s) (rs_stk (rs_up ea (s + 1) ((f + ea s) / 2)) (rs_up (rs_up la s (la s - 1)) (s + 1) (la s - 1)) s)) = rs_cut ok (la s) f (ea s) ++ rs_todo ok (ea s) (rs_stk ea la s)
  have e1 : rs_up (rs_up la s (la s - 1)) (s + 1) (la s - 1) s = la s - 1 := (rs_up_n (by omega)).trans (rs_up_s _ _ _)
  have e2 : rs_up ea (s + 1) ((f + ea s) / 2) s = ea s := rs_up_n (by omega)
  have e3 : rs_up ea (s + 1) ((f + ea s) / 2) (s + 1) = (f + ea s) / 2 := rs_up_s _ _ _
  have e4 : rs_up (rs_up la s (la s - 1)) (s + 1) (la s - 1) (s + 1) = la s - 1 := rs_up_s _ _ _
  rw [e1, e2, e3, e4, rs_cut_two h0 h1 h2, List.append_assoc, rs_stk_cg (eb := ea) (lb := la) s (fun i hi => rs_up_n (by omega)) (fun i hi => (rs_up_n (by omega)).trans (rs_up_n (by omega)))]
theorem rs_mu_pop (la : Nat → Nat) (s : Nat) : rs_mu la s < rs_mu la (s + 1) := by
  show rs_mu la s < rs_mu la s + (2 ^ (la s + 1) - 1)
  have : 2 ≤ 2 ^ (la s + 1) := by
    rw [Nat.pow_succ]
    have := Nat.one_le_two_pow (n := la s)
    omega
  omega
theorem rs_mu_split {la : Nat → Nat} {s : Nat} (h0 : 0 < la s) : rs_mu (rs_up (rs_up la s (la s - 1)) (s + 1) (la s - 1)) (s + 2) < rs_mu la (s + 1) := by
  show rs_mu (rs_up (rs_up la s (la s - 1)) (s + 1) (la s - 1)) s + (2 ^ (rs_up (rs_up la s (la s - 1)) (s + 1) (la s - 1) s + 1) - 1) + (2 ^ (rs_up (rs_up la s (la s - 1)) (s + 1) (la s - 1) (s + 1) + 1) - 1) < rs_mu la s + (2 ^ (la s + 1) - 1)
  have e1 : rs_up (rs_up la s (la s - 1)) (s + 1) (la s - 1) s = la s - 1 := (rs_up_n (by omega)).trans (rs_up_s _ _ _)
  have e4 : rs_up (rs_up la s (la s - 1)) (s + 1) (la s - 1) (s + 1) = la s - 1 := rs_up_s _ _ _
  rw [e1, e4, rs_mu_cg (lb := la) s (fun i hi => (rs_up_n (by omega)).trans (rs_up_n (by omega))), show la s - 1 + 1 = la s by omega, Nat.pow_succ]
  have := Nat.one_le_two_pow (n := la s)
  omega
