/-! The stack's invariant; the model's tessellation, reversal and thinning as functions. -/
def rs_SI (ok : Nat → Nat → Bool) (dep a b f s : Nat) (ea la : Nat → Nat) (L : List Nat) : Prop := (∀ i, i < s → la i + i ≤ dep) ∧ (∀ i, i < s → f < ea i ∧ ea i ≤ b) ∧ (∀ i j, i < j → j < s → ea j < ea i) ∧ a ≤ f ∧ f ≤ b ∧ L ++ rs_todo ok f (rs_stk ea la s) = rs_cut ok dep a b
theorem rs_SI_0 {ok : Nat → Nat → Bool} {dep a b : Nat} {ea la : Nat → Nat} (h : a < b) : rs_SI ok dep a b a 1 (rs_up ea 0 b) (rs_up la 0 dep) [] := by
  refine ⟨fun i hi => ?_, fun i hi => ?_, fun i j h1 h2 => absurd h2 (by omega), Nat.le_refl _, by omega, ?_⟩
  · have e : i = 0 := by omega
    subst e
    rw [rs_up_s]
    omega
  · have e : i = 0 := by omega
    subst e
    rw [rs_up_s]
    omega
  · show [] ++ (rs_cut ok (rs_up la 0 dep 0) a (rs_up ea 0 b 0) ++ []) = _
    rw [rs_up_s, rs_up_s, List.append_nil, List.nil_append]
theorem rs_SI_pop {ok : Nat → Nat → Bool} {dep a b f s : Nat} {ea la : Nat → Nat} {L : List Nat} (H : rs_SI ok dep a b f s ea la L) (h0 : 0 < s) (h : la (s - 1) = 0 ∨ ea (s - 1) - f < 2 ∨ ok f (ea (s - 1)) = true) : rs_SI ok dep a b (ea (s - 1)) (s - 1) ea la (L ++ [ea (s - 1)]) := by
  obtain ⟨s, rfl⟩ : ∃ r, s = r + 1 := ⟨s - 1, by omega⟩
  simp only [Nat.add_sub_cancel] at *
  obtain ⟨k1, k2, k3, k4, k5, k6⟩ := H
  have k7 := k2 s (by omega)
  refine ⟨fun i hi => k1 i (by omega), fun i hi => ⟨k3 i s hi (by omega), (k2 i (by omega)).2⟩, fun i j h1 h2 => k3 i j h1 (by omega), by omega, k7.2, ?_⟩
  rw [rs_todo_pop h] at k6
  rw [← k6, List.append_assoc]
  rfl
theorem rs_SI_split {ok : Nat → Nat → Bool} {dep a b f s : Nat} {ea la : Nat → Nat} {L : List Nat} (H : rs_SI ok dep a b f s ea la L) (h0 : 0 < s) (h1 : 0 < la (s - 1)) (h2 : ¬ ea (s - 1) - f < 2) (h3 : ok f (ea (s - 1)) = false) : rs_SI ok dep a b f (s + 1) (rs_up ea s ((f + ea (s - 1)) / 2)) (rs_up (rs_up la (s - 1) (la (s - 1) - 1)) s (la (s - 1) - 1)) L := by
  obtain ⟨s, rfl⟩ : ∃ r, s = r + 1 := ⟨s - 1, by omega⟩
  simp only [Nat.add_sub_cancel] at *
  obtain ⟨k1, k2, k3, k4, k5, k6⟩ := H
  have k7 := k2 s (by omega)
  have k8 := k1 s (by omega)
  refine ⟨fun i hi => ?_, fun i hi => ?_, fun i j g1 g2 => ?_, k4, k5, ?_⟩
  · by_cases e : i = s + 1
    · subst e
      rw [rs_up_s]
      omega
    · rw [rs_up_n e]
      by_cases e2 : i = s
      · subst e2
        rw [rs_up_s]
        omega
      · rw [rs_up_n e2]
        exact k1 i (by omega)
  · by_cases e : i = s + 1
    · subst e
      rw [rs_up_s]
      omega
    · rw [rs_up_n e]
      exact k2 i (by omega)
  · rw [rs_up_n (show i ≠ s + 1 by omega)]
    by_cases e : j = s + 1
    · subst e
      rw [rs_up_s]
      by_cases e2 : i = s
      · subst e2; omega
      · have := k3 i s (by omega) (by omega)
        omega
    · rw [rs_up_n e]
      exact k3 i j g1 (by omega)
  · rw [rs_todo_split h1 h2 h3]
    exact k6
theorem rs_todo_pos {ok : Nat → Nat → Bool} {ea la : Nat → Nat} {f s : Nat} (h : f < ea s) : 0 < (rs_todo ok f (rs_stk ea la (s + 1))).length := by
  show 0 < (rs_cut ok (la s) f (ea s) ++ rs_todo ok (ea s) (rs_stk ea la s)).length
  rw [List.length_append]
  have := (rs_cut_len ok (la s) f (ea s) h).2
  omega
theorem rs_SI_b {ok : Nat → Nat → Bool} {dep a b f s : Nat} {ea la : Nat → Nat} {L : List Nat} (H : rs_SI ok dep a b f s ea la L) (h0 : 0 < s) (hab : a < b) : L.length < b - a ∧ f < ea (s - 1) ∧ ea (s - 1) ≤ b ∧ la (s - 1) + s ≤ dep + 1 ∧ f ≤ b := by
  obtain ⟨s, rfl⟩ : ∃ r, s = r + 1 := ⟨s - 1, by omega⟩
  simp only [Nat.add_sub_cancel] at *
  obtain ⟨k1, k2, k3, k4, k5, k6⟩ := H
  have k7 := k2 s (by omega)
  have k8 := k1 s (by omega)
  have k9 := rs_todo_pos (ok := ok) (ea := ea) (la := la) k7.1
  have k10 := (rs_cut_len ok dep a b hab).1
  rw [← k6, List.length_append] at k10
  omega
theorem rs_SI_s {ok : Nat → Nat → Bool} {dep a b f s : Nat} {ea la : Nat → Nat} {L : List Nat} (H : rs_SI ok dep a b f s ea la L) : s ≤ dep + 1 := by
  cases s with
  | zero => omega
  | succ s => have := H.1 s (by omega); omega
theorem rs_SI_e {ok : Nat → Nat → Bool} {dep a b f s : Nat} {ea la : Nat → Nat} {L : List Nat} (H : rs_SI ok dep a b f s ea la L) (h0 : s = 0) : L = rs_cut ok dep a b := by
  subst h0
  obtain ⟨k1, k2, k3, k4, k5, k6⟩ := H
  rw [← k6]
  exact (List.append_nil L).symm
theorem rs_mu_p {la : Nat → Nat} {s : Nat} (h : 0 < s) : rs_mu la (s - 1) < rs_mu la s := by
  obtain ⟨s, rfl⟩ : ∃ r, s = r + 1 := ⟨s - 1, by omega⟩
  exact rs_mu_pop la s
theorem rs_mu_t {la : Nat → Nat} {s : Nat} (h : 0 < s) (h0 : 0 < la (s - 1)) : rs_mu (rs_up (rs_up la (s - 1) (la (s - 1) - 1)) s (la (s - 1) - 1)) (s + 1) < rs_mu la s := by
  obtain ⟨s, rfl⟩ : ∃ r, s = r + 1 := ⟨s - 1, by omega⟩
  exact rs_mu_split h0
theorem rs_lay_p (vt : Nat → Nat) (c x : Nat) (L : List Nat) : rs_up (rs_lay vt c L) (c + L.length) x = rs_lay vt c (L ++ [x]) := by
  rw [rs_lay_1, rs_lay_a]
theorem rs_lay_0 (vt : Nat → Nat) (c : Nat) : rs_lay vt c [] = vt := by
  funext j
  show (if c ≤ j ∧ j < c + 0 then _ else _) = _
  rw [if_neg (by omega)]
theorem rs_ap1 (c x : Nat) (L : List Nat) : c + L.length + 1 = c + (L ++ [x]).length := by
  rw [List.length_append]
  rfl
/-- the model's vertices and the last end, after v knots -/
def rs_tel (ok : Nat → Nat → Bool) (dep : Nat) (tm : Nat → Nat) : Nat → List Nat × Nat
  | 0 => ([0], 0)
  | k + 1 => if k + 1 = 6 ∨ 0 < tm (k + 1) then ((rs_tel ok dep tm k).1 ++ rs_cut ok dep (rs_tel ok dep tm k).2 (60 * (k + 1)), 60 * (k + 1)) else rs_tel ok dep tm k
theorem rs_tel_y {ok : Nat → Nat → Bool} {dep : Nat} {tm : Nat → Nat} {k : Nat} (h : k + 1 = 6 ∨ 0 < tm (k + 1)) : (rs_tel ok dep tm (k + 1)).1 = (rs_tel ok dep tm k).1 ++ rs_cut ok dep (rs_tel ok dep tm k).2 (60 * (k + 1)) ∧ (rs_tel ok dep tm (k + 1)).2 = 60 * (k + 1) := by
  have e : rs_tel ok dep tm (k + 1) = ((rs_tel ok dep tm k).1 ++ rs_cut ok dep (rs_tel ok dep tm k).2 (60 * (k + 1)), 60 * (k + 1)) := if_pos h
  rw [e]
  exact ⟨rfl, rfl⟩
theorem rs_tel_n {ok : Nat → Nat → Bool} {dep : Nat} {tm : Nat → Nat} {k : Nat} (h : ¬ (k + 1 = 6 ∨ 0 < tm (k + 1))) : rs_tel ok dep tm (k + 1) = rs_tel ok dep tm k := if_neg h
theorem rs_tel_b (ok : Nat → Nat → Bool) (dep : Nat) (tm : Nat → Nat) : ∀ k, (rs_tel ok dep tm k).2 ≤ 60 * k ∧ (rs_tel ok dep tm k).1.length ≤ (rs_tel ok dep tm k).2 + 1 ∧ 0 < (rs_tel ok dep tm k).1.length
  | 0 => ⟨Nat.le_refl _, Nat.le_refl _, Nat.zero_lt_one⟩
  | k + 1 => by
    have ih := rs_tel_b ok dep tm k
    by_cases h : k + 1 = 6 ∨ 0 < tm (k + 1)
    · obtain ⟨e1, e2⟩ := rs_tel_y (ok := ok) (dep := dep) h
      rw [e1, e2, List.length_append]
      have := rs_cut_len ok dep (rs_tel ok dep tm k).2 (60 * (k + 1)) (by omega)
      omega
    · rw [rs_tel_n h]
      omega
/-- the model's reversed pieces -/
def rs_rv (pz : Nat → Int64) (ax y : Nat) : Int64 := if (y % 4) % 2 = 0 then rs_su pz (24 * ax + 4 * (5 - y / 4)) (y % 4) (4 - y % 4) else -rs_su pz (24 * ax + 4 * (5 - y / 4)) (y % 4) (4 - y % 4)
def rs_rvk (pz : Nat → Int64) (c : Nat) : Nat → Int64 := fun x => if x < c then rs_rv pz (x / 24) (x % 24) else pz x
theorem rs_rvk_0 (pz : Nat → Int64) : rs_rvk pz 0 = pz := by
  funext x
  exact if_neg (Nat.not_lt_zero _)
theorem rs_rvk_g {pz : Nat → Int64} {c x : Nat} (h : c ≤ x) : rs_rvk pz c x = pz x := if_neg (by omega)
theorem rs_rvk_s {pz : Nat → Int64} {c a k : Nat} {v : Int64} (hc : c = 24 * a + k) (hk : k < 24) (hv : v = rs_rv pz a k) : rs_rvk pz (c + 1) = vp_updL (rs_rvk pz c) c v := by
  subst hc; subst hv
  funext x
  show (if x < 24 * a + k + 1 then _ else _) = if x = 24 * a + k then _ else (if x < 24 * a + k then _ else _)
  by_cases e : x = 24 * a + k
  · subst e
    rw [if_pos (by omega), if_pos rfl, show (24 * a + k) / 24 = a by omega, show (24 * a + k) % 24 = k by omega]
  · rw [if_neg e]
    by_cases e2 : x < 24 * a + k
    · rw [if_pos (by omega), if_pos e2]
    · rw [if_neg (by omega), if_neg e2]
theorem rs_rv_s {pz vl : Nat → Int64} {a j d c : Nat} {v : Int64} (hd : d < 4) (hv : ∀ y, y < 4 * j + d → vl y = rs_rv pz a y) (h : v = if d % 2 = 0 then rs_su pz (24 * a + 4 * (5 - j)) d (4 - d) else -rs_su pz (24 * a + 4 * (5 - j)) d (4 - d)) (hc : c = 4 * j + (d + 1)) : ∀ y, y < c → vp_updL vl (4 * j + d) v y = rs_rv pz a y := by
  intro y hy
  show (if y = 4 * j + d then v else vl y) = _
  by_cases e : y = 4 * j + d
  · subst e
    rw [if_pos rfl, h]
    unfold rs_rv
    rw [show (4 * j + d) % 4 = d by omega, show (4 * j + d) / 4 = j by omega]
  · rw [if_neg e]
    exact hv y (by omega)
def rs_trk (tm : Nat → Nat) : Nat → Nat → Nat
  | 0 => tm
  | v + 1 => rs_up (rs_up (rs_trk tm v) (v + 1) (rs_trk tm v (6 - (v + 1)))) (6 - (v + 1)) (rs_trk tm v (v + 1))
/-- one turn of the model's thinning -/
abbrev rs_okt (pz : Nat → Int64) (g : Nat) (tm : Nat → Nat) (k : Nat) : Prop := 0 < tm k ∧ rs_okd pz g tm k
def rs_t1 (pz : Nat → Int64) (g k : Nat) (tm : Nat → Nat) : Nat → Nat := if rs_okt pz g tm k then rs_up tm k (tm k - 1) else tm
theorem rs_t1_y {pz : Nat → Int64} {g k : Nat} {tm : Nat → Nat} (h : rs_okt pz g tm k) : rs_t1 pz g k tm = rs_up tm k (tm k - 1) := if_pos h
theorem rs_t1_n {pz : Nat → Int64} {g k : Nat} {tm : Nat → Nat} (h : ¬ rs_okt pz g tm k) : rs_t1 pz g k tm = tm := if_neg h
theorem rs_t1_le {pz : Nat → Int64} {g k b : Nat} {tm : Nat → Nat} (h : ∀ j, tm j ≤ b) : ∀ j, rs_t1 pz g k tm j ≤ b := by
  by_cases e : rs_okt pz g tm k
  · rw [rs_t1_y e]; exact rs_up_dec h
  · rw [rs_t1_n e]; exact h
/-- three turns for a knot, w of them -/
def rs_t3 (pz : Nat → Int64) (g k : Nat) (tm : Nat → Nat) : Nat → (Nat → Nat) × Nat
  | 0 => (tm, 0)
  | w + 1 => (rs_t1 pz g k (rs_t3 pz g k tm w).1, (rs_t3 pz g k tm w).2 + if rs_okt pz g (rs_t3 pz g k tm w).1 k then 1 else 0)
/-- the model's thinning after v knots (5, 4, ..) -/
def rs_t5 (pz : Nat → Int64) (g : Nat) (tm : Nat → Nat) : Nat → (Nat → Nat) × Nat
  | 0 => (tm, 0)
  | v + 1 => ((rs_t3 pz g (5 - v) (rs_t5 pz g tm v).1 3).1, (rs_t5 pz g tm v).2 + (rs_t3 pz g (5 - v) (rs_t5 pz g tm v).1 3).2)
theorem rs_t3_le {pz : Nat → Int64} {g k b : Nat} {tm : Nat → Nat} (h : ∀ j, tm j ≤ b) : ∀ w, (∀ j, (rs_t3 pz g k tm w).1 j ≤ b) ∧ (rs_t3 pz g k tm w).2 ≤ w
  | 0 => ⟨h, Nat.le_refl _⟩
  | w + 1 => by
    have ih := rs_t3_le (pz := pz) (g := g) (k := k) h w
    refine ⟨rs_t1_le ih.1, ?_⟩
    show (rs_t3 pz g k tm w).2 + (if rs_okt pz g (rs_t3 pz g k tm w).1 k then 1 else 0) ≤ w + 1
    split <;> omega
theorem rs_t5_le {pz : Nat → Int64} {g b : Nat} {tm : Nat → Nat} (h : ∀ j, tm j ≤ b) : ∀ v, (∀ j, (rs_t5 pz g tm v).1 j ≤ b) ∧ (rs_t5 pz g tm v).2 ≤ 3 * v
  | 0 => ⟨h, Nat.le_refl _⟩
  | v + 1 => by
    have ih := rs_t5_le (pz := pz) (g := g) h v
    have i3 := rs_t3_le (pz := pz) (g := g) (k := 5 - v) ih.1 3
    refine ⟨i3.1, ?_⟩
    show (rs_t5 pz g tm v).2 + (rs_t3 pz g (5 - v) (rs_t5 pz g tm v).1 3).2 ≤ 3 * (v + 1)
    omega
