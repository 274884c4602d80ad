/-! All chords. -/
def rs_all (ok : Nat → Nat → Bool) (h : Nat) (kn : Nat → Nat) (d : Nat) : Nat → List Nat
  | 0 => [0]
  | j + 1 => rs_all ok h kn d j ++ (if kn (d + j) < kn (d + j + 1) then rs_cut ok h (60 * kn (d + j)) (60 * kn (d + j + 1)) else [])
theorem rs_all_y {ok : Nat → Nat → Bool} {h : Nat} {kn : Nat → Nat} {d j : Nat} (g : kn (d + j) < kn (d + j + 1)) : rs_all ok h kn d (j + 1) = rs_all ok h kn d j ++ rs_cut ok h (60 * kn (d + j)) (60 * kn (d + j + 1)) := by
  show rs_all ok h kn d j ++ (if kn (d + j) < kn (d + j + 1) then _ else _) = _
  rw [if_pos g]
theorem rs_all_n {ok : Nat → Nat → Bool} {h : Nat} {kn : Nat → Nat} {d j : Nat} (g : ¬ kn (d + j) < kn (d + j + 1)) : rs_all ok h kn d (j + 1) = rs_all ok h kn d j := by
  show rs_all ok h kn d j ++ (if kn (d + j) < kn (d + j + 1) then _ else _) = _
  rw [if_neg g, List.append_nil]
theorem rs_lay_a0 (vt : Nat → Nat) (L M : List Nat) : rs_lay (rs_lay vt 0 L) L.length M = rs_lay vt 0 (L ++ M) := by
  have := rs_lay_a vt 0 L M
  rw [Nat.zero_add] at this
  exact this
theorem rs_all_0 (ok : Nat → Nat → Bool) (h : Nat) (kn : Nat → Nat) (d : Nat) : ∀ j, 0 < (rs_all ok h kn d j).length
  | 0 => Nat.zero_lt_one
  | j + 1 => by
    show 0 < (rs_all ok h kn d j ++ _).length
    rw [List.length_append]
    have := rs_all_0 ok h kn d j
    omega
