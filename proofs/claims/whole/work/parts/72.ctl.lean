/-! The control numbers of a curve that is given by its pieces. -/
/-- the knots -/
abbrev rs_t (g : Nat) (tm : Nat → Nat) (i : Nat) : Nat := rs_val (rs_cu g tm) i
/-- the numerator of the control number i, by the piece of its first knot -/
def rs_ct (g : Nat) (tm : Nat → Nat) (a : Nat → Nat → Int) (i : Nat) : Int :=
  rs_nu g (a (rs_t g tm i)) ((rs_t g tm (i + 1) : Int) - rs_t g tm i) ((rs_t g tm (i + 2) : Int) - rs_t g tm i) ((rs_t g tm (i + 3) : Int) - rs_t g tm i)
/-- the pieces fit at the knots up to J -/
def rs_sm (J g : Nat) (tm : Nat → Nat) (a : Nat → Nat → Int) : Prop := ∀ k, 1 ≤ k → k ≤ J → ∀ d, d < 4 → d < (if tm k = 0 then 4 else g - tm k + 1) → rs_sh (a (k - 1)) d = a k d
def rs_dg (g : Nat) (a : Nat → Nat → Int) : Prop := ∀ j, (g ≤ 2 → a j 3 = 0) ∧ (g ≤ 1 → a j 2 = 0)
theorem rs_ct_any {J g : Nat} {tm : Nat → Nat} {a : Nat → Nat → Int} (hg : 1 ≤ g) (hg3 : g ≤ 3) (htm : ∀ k, tm k ≤ g) (hJ : J ≤ 5) (hs : rs_sm J g tm a) (hd : rs_dg g a) {i j : Nat} (h1 : rs_t g tm i ≤ j) (h2 : j < rs_t g tm (i + g + 1)) (h5 : j ≤ J) :
    rs_nu g (a j) ((rs_t g tm (i + 1) : Int) - j) ((rs_t g tm (i + 2) : Int) - j) ((rs_t g tm (i + 3) : Int) - j) = rs_ct g tm a i := by
  induction j with
  | zero =>
    have e : rs_t g tm i = 0 := Nat.le_zero.mp h1
    unfold rs_ct
    rw [e]
  | succ j ih =>
    by_cases hb : rs_t g tm i = j + 1
    · unfold rs_ct
      rw [hb]
    · have ih := ih (by omega) (by omega) (by omega)
      rw [← ih]
      have hc := rs_cu_asc g tm
      have hm := htm (j + 1)
      have hcs := rs_cu_s g tm (k := j + 1) (by omega)
      have k1 : ¬ rs_cu g tm (j + 1) ≤ i := fun z => by
        have := (rs_val_k hc (k := j + 1) (by omega) (by omega) i).2 z
        have h1' : rs_val (rs_cu g tm) i ≤ j + 1 := h1
        have hb' : ¬ rs_val (rs_cu g tm) i = j + 1 := hb
        omega
      have k2 : rs_cu g tm (j + 1 + 1) ≤ i + g + 1 := (rs_val_k hc (k := j + 1 + 1) (by omega) (by omega) (i + g + 1)).1 h2
      have at' : ∀ x, rs_cu g tm (j + 1) ≤ x → x < rs_cu g tm (j + 1 + 1) → (rs_t g tm x : Int) - ((j + 1 : Nat) : Int) = 0 := fun x h3 h4 => by
        have := rs_val_at hc (k := j + 1) (by omega) (by omega) h3 h4
        have : rs_t g tm x = j + 1 := this
        rw [this]
        omega
      have sm := hs (j + 1) (by omega) h5
      rw [Nat.add_sub_cancel] at sm
      have r1 : ∀ x : Nat, (rs_t g tm x : Int) - (j : Int) = ((rs_t g tm x : Int) - ((j + 1 : Nat) : Int)) + 1 := fun x => by omega
      rw [r1, r1, r1]
      symm
      have hgc : g = 1 ∨ g = 2 ∨ g = 3 := by omega
      rcases hgc with rfl | rfl | rfl
      · have hdj := (hd j).1 (by omega)
        have hdj' := (hd j).2 (by omega)
        have hdk := (hd (j + 1)).1 (by omega)
        have hdk' := (hd (j + 1)).2 (by omega)
        refine rs_nb1 hdj' hdj hdk' hdk ?_ ?_
        · refine sm 0 (by omega) ?_; split <;> omega
        · by_cases e : tm (j + 1) = 0
          · left; refine sm 1 (by omega) ?_; rw [if_pos e]; omega
          · right; exact at' (i + 1) (by omega) (by omega)
      · have hdj := (hd j).1 (by omega)
        have hdk := (hd (j + 1)).1 (by omega)
        have hmc : tm (j + 1) = 0 ∨ tm (j + 1) = 1 ∨ tm (j + 1) = 2 := by omega
        refine rs_nb2 hdj hdk ?_ ?_ ?_
        · refine sm 0 (by omega) ?_; split <;> omega
        · rcases hmc with e | e | e
          · left; refine sm 1 (by omega) ?_; rw [if_pos e]; omega
          · left; refine sm 1 (by omega) ?_; rw [if_neg (by omega)]; omega
          · right; exact ⟨at' (i + 1) (by omega) (by omega), at' (i + 2) (by omega) (by omega)⟩
        · rcases hmc with e | e | e
          · left; refine sm 2 (by omega) ?_; rw [if_pos e]; omega
          · right
            by_cases p : rs_cu 2 tm (j + 1) = i + 1
            · left; exact at' (i + 1) (by omega) (by omega)
            · right; exact at' (i + 2) (by omega) (by omega)
          · right; left; exact at' (i + 1) (by omega) (by omega)
      · have hmc : tm (j + 1) = 0 ∨ tm (j + 1) = 1 ∨ tm (j + 1) = 2 ∨ tm (j + 1) = 3 := by omega
        refine rs_nb3 ?_ ?_ ?_ ?_
        · refine sm 0 (by omega) ?_; split <;> omega
        · rcases hmc with e | e | e | e
          · left; refine sm 1 (by omega) ?_; rw [if_pos e]; omega
          · left; refine sm 1 (by omega) ?_; rw [if_neg (by omega)]; omega
          · left; refine sm 1 (by omega) ?_; rw [if_neg (by omega)]; omega
          · right; exact ⟨at' (i + 1) (by omega) (by omega), at' (i + 2) (by omega) (by omega), at' (i + 3) (by omega) (by omega)⟩
        · rcases hmc with e | e | e | e
          · left; refine sm 2 (by omega) ?_; rw [if_pos e]; omega
          · left; refine sm 2 (by omega) ?_; rw [if_neg (by omega)]; omega
          · right
            by_cases p : rs_cu 3 tm (j + 1) = i + 1
            · left; exact ⟨at' (i + 1) (by omega) (by omega), at' (i + 2) (by omega) (by omega)⟩
            · right; right; exact ⟨at' (i + 2) (by omega) (by omega), at' (i + 3) (by omega) (by omega)⟩
          · right; left; exact ⟨at' (i + 1) (by omega) (by omega), at' (i + 2) (by omega) (by omega)⟩
        · rcases hmc with e | e | e | e
          · left; refine sm 3 (by omega) ?_; rw [if_pos e]; omega
          · right
            by_cases p : rs_cu 3 tm (j + 1) = i + 1
            · left; exact at' (i + 1) (by omega) (by omega)
            · right
              by_cases p2 : rs_cu 3 tm (j + 1) = i + 2
              · left; exact at' (i + 2) (by omega) (by omega)
              · right; exact at' (i + 3) (by omega) (by omega)
          · right; right; left; exact at' (i + 2) (by omega) (by omega)
          · right; left; exact at' (i + 1) (by omega) (by omega)
