/-! For the cutting: what was looked at stays right. -/
theorem rs_updL {f L : Nat → Int32} {m a : Nat} (h : f a = L a) : upd f m (L m) a = L a := by
  unfold upd
  by_cases e : a = m
  · rw [if_pos e, e]
  · rw [if_neg e]; exact h
theorem rs_updS (f L : Nat → Int32) (m : Nat) : upd f m (L m) m = L m := if_pos rfl
def rs_okc (kn : Nat → Nat) (d n : Nat) (rz : Nat → Nat → Int64) (ho tl : Int32) (a b : Nat) : Bool := decide (rs_str ho tl (rs_LX kn d n rz a) (rs_LX kn d n rz ((a + b) / 2)) (rs_LX kn d n rz b)) && decide (rs_str ho tl (rs_LY kn d n rz a) (rs_LY kn d n rz ((a + b) / 2)) (rs_LY kn d n rz b))
def rm_X0_cut (h : Nat) : Room := { frames := 20 + h, cells := 0, slots := 0, locals := 1500 + 100 * h }
