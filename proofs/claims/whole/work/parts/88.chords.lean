/-! The chords. -/
theorem rs_absI {f tol : Int32} (h : ¬ tol < 0) : rs_abs f ≤ tol ↔ (f ≤ tol ∧ -f ≤ tol) := by
  have h0 : (0 : Int32) ≤ tol := Int32.not_lt.mp h
  unfold rs_abs
  by_cases e : 0 ≤ f
  · rw [if_pos e]
    refine ⟨fun z => ⟨z, ?_⟩, fun z => z.1⟩
    refine Int32.le_trans ?_ h0
    rw [Int32.le_iff_toInt_le] at e ⊢
    have h1 := Int32.toInt_lt f
    have e0 : (0 : Int32).toInt = 0 := rfl
    rw [e0] at e ⊢
    rw [Int32.toInt_neg, Int.bmod_eq_of_le (by omega) (by omega)]
    omega
  · rw [if_neg e, Int32.zero_sub]
    exact ⟨fun z => ⟨Int32.le_trans (Int32.le_of_lt (Int32.not_le.mp e)) h0, z⟩, fun z => z.2⟩
theorem rs_cut_cg {ok ok' : Nat → Nat → Bool} (h : ∀ a b, a < b → b ≤ 360 → ok a b = ok' a b) : ∀ l a b, a < b → b ≤ 360 → rs_cut ok l a b = rs_cut ok' l a b
  | 0, _, _, _, _ => rfl
  | l + 1, a, b, h1, h2 => by
    show (if b - a < 2 then [b] else cond (ok a b) [b] (rs_cut ok l a ((a + b) / 2) ++ rs_cut ok l ((a + b) / 2) b)) = if b - a < 2 then [b] else cond (ok' a b) [b] (rs_cut ok' l a ((a + b) / 2) ++ rs_cut ok' l ((a + b) / 2) b)
    by_cases e : b - a < 2
    · rw [if_pos e, if_pos e]
    · rw [if_neg e, if_neg e, h a b h1 h2, rs_cut_cg h l a ((a + b) / 2) (by omega) (by omega), rs_cut_cg h l ((a + b) / 2) b (by omega) (by omega)]
theorem rs_all_cg {ok ok' : Nat → Nat → Bool} (h : ∀ a b, a < b → b ≤ 360 → ok a b = ok' a b) {dep d : Nat} {kn kv : Nat → Nat} (h6 : ∀ i, kn i ≤ 6) : ∀ j, (∀ i, i ≤ d + j → kn i = kv i) → rs_all ok dep kn d j = rs_all ok' dep kv d j
  | 0, _ => rfl
  | j + 1, hk => by
    show rs_all ok dep kn d j ++ (if kn (d + j) < kn (d + j + 1) then rs_cut ok dep (60 * kn (d + j)) (60 * kn (d + j + 1)) else []) = rs_all ok' dep kv d j ++ (if kv (d + j) < kv (d + j + 1) then rs_cut ok' dep (60 * kv (d + j)) (60 * kv (d + j + 1)) else [])
    have h7 := h6 (d + j + 1)
    rw [rs_all_cg h h6 j (fun i hi => hk i (by omega)), ← hk (d + j) (by omega), ← hk (d + j + 1) (by omega)]
    by_cases e : kn (d + j) < kn (d + j + 1)
    · rw [if_pos e, if_pos e, rs_cut_cg h dep _ _ (by omega) (by omega)]
    · rw [if_neg e, if_neg e]
theorem rs_tel_gap {ok : Nat → Nat → Bool} {dep : Nat} {tm : Nat → Nat} {v w : Nat} (h6 : w ≤ 6) (hz : ∀ k, v < k → k < w → tm k = 0) : ∀ k, v ≤ k → k < w → rs_tel ok dep tm k = rs_tel ok dep tm v
  | 0, h1, _ => by rw [Nat.le_zero.mp h1]
  | k + 1, h1, h2 => by
    by_cases e : v = k + 1
    · rw [e]
    · rw [rs_tel_n (by have := hz (k + 1) (by omega) h2; omega)]
      exact rs_tel_gap h6 hz k (by omega) (by omega)
theorem rs_all_tel {ok : Nat → Nat → Bool} {dep g : Nat} {tm : Nat → Nat} : ∀ j, j ≤ rs_cu g tm 6 - g → rs_all ok dep (rs_t g tm) g j = (rs_tel ok dep tm (rs_t g tm (g + j))).1 ∧ (rs_tel ok dep tm (rs_t g tm (g + j))).2 = 60 * rs_t g tm (g + j)
  | 0, _ => by
    rw [Nat.add_zero, rs_tg (Nat.le_refl _)]
    exact ⟨rfl, rfl⟩
  | j + 1, hj => by
    obtain ⟨i1, i2⟩ := rs_all_tel (ok := ok) (dep := dep) (g := g) (tm := tm) j (by omega)
    have hc := rs_cu_asc g tm
    have hm : rs_t g tm (g + j) ≤ rs_t g tm (g + (j + 1)) := rs_val_mono hc (by omega)
    have h6 := rs_t6 g tm (g + (j + 1))
    show rs_all ok dep (rs_t g tm) g j ++ (if rs_t g tm (g + j) < rs_t g tm (g + j + 1) then _ else _) = _ ∧ _
    rw [show g + j + 1 = g + (j + 1) by omega, i1]
    by_cases e : rs_t g tm (g + j) < rs_t g tm (g + (j + 1))
    · rw [if_pos e]
      generalize hv : rs_t g tm (g + j) = v at *
      generalize hw : rs_t g tm (g + (j + 1)) = w at *
      obtain ⟨y, rfl⟩ : ∃ y, w = y + 1 := ⟨w - 1, by omega⟩
      have gap : ∀ k, v < k → k < y + 1 → tm k = 0 := fun k k1 k2 => by
        have ha := rs_val_k hc (k := k) (by omega) (by omega) (g + j)
        have ha' : k ≤ rs_t g tm (g + j) ↔ rs_cu g tm k ≤ g + j := ha
        have hb := rs_val_k hc (k := k + 1) (by omega) (by omega) (g + (j + 1))
        have hb' : k + 1 ≤ rs_t g tm (g + (j + 1)) ↔ rs_cu g tm (k + 1) ≤ g + (j + 1) := hb
        have hs := rs_cu_s g tm (k := k) (by omega)
        omega
      have last : y + 1 = 6 ∨ 0 < tm (y + 1) := by
        by_cases e6 : y + 1 = 6
        · exact Or.inl e6
        · right
          have ha := rs_val_k hc (k := y + 1) (by omega) (by omega) (g + (j + 1))
          have ha' : y + 1 ≤ rs_t g tm (g + (j + 1)) ↔ rs_cu g tm (y + 1) ≤ g + (j + 1) := ha
          have hb := rs_val_k hc (k := y + 1 + 1) (by omega) (by omega) (g + (j + 1))
          have hb' : y + 1 + 1 ≤ rs_t g tm (g + (j + 1)) ↔ rs_cu g tm (y + 1 + 1) ≤ g + (j + 1) := hb
          have hs := rs_cu_s g tm (k := y + 1) (by omega)
          omega
      obtain ⟨y1, y2⟩ := rs_tel_y (ok := ok) (dep := dep) last
      have eg := rs_tel_gap (ok := ok) (dep := dep) h6 gap y (by omega) (by omega)
      rw [y1, y2, eg, i2]
      exact ⟨rfl, rfl⟩
    · rw [if_neg e, show rs_t g tm (g + (j + 1)) = rs_t g tm (g + j) by omega, List.append_nil]
      exact ⟨rfl, i2⟩
theorem rs_tess_eq {g n : Nat} {tm kn : Nat → Nat} {a : Nat → Nat → Nat → Int} {rz : Nat → Nat → Int64} {pz : Nat → Int64} (hP : rs_PI g tm a) (hC : rs_CI g tm a n kn rz) (hz : rs_pzI pz a) {how tol : Int32} (htol : ¬ tol < 0) (dep : Nat) :
    rs_all (rs_okc kn g n rz how tol) dep kn g (n - g) = (rs_tel (fun x y => decide (0 < rs_sa pz how tol x y 2)) dep tm 6).1 := by
  obtain ⟨hn, hk, hk6, hr⟩ := hC
  have hC : rs_CI g tm a n kn rz := ⟨hn, hk, hk6, hr⟩
  have c1 : rs_cu g tm 1 = g + 1 := rfl
  have m0 : rs_cu g tm 1 ≤ rs_cu g tm 6 := rs_cu_mono g tm (by omega)
  have hok : ∀ x y, x < y → y ≤ 360 → rs_okc kn g n rz how tol x y = (fun x y => decide (0 < rs_sa pz how tol x y 2)) x y := fun x y h1 h2 => by
    have X1 : ∀ u, u ≤ 360 → rs_LX kn g n rz u = rs_loc pz 0 u := fun u hu => (rs_loc_eq hP hC hz (by omega) hu).1
    have Y1 : ∀ u, u ≤ 360 → rs_LY kn g n rz u = rs_loc pz 1 u := fun u hu => (rs_loc_eq hP hC hz (by omega) hu).1
    unfold rs_okc
    rw [X1 x (by omega), X1 y h2, X1 _ (by omega), Y1 x (by omega), Y1 y h2, Y1 _ (by omega), ← Bool.decide_and]
    refine decide_eq_decide.mpr ?_
    have A : ∀ ax, rs_str how tol (rs_loc pz ax x) (rs_loc pz ax ((x + y) / 2)) (rs_loc pz ax y) ↔ rs_fo pz how tol x y ax := fun ax => by
      show rs_abs (rs_far pz how x y ax) ≤ tol ↔ _
      exact rs_absI htol
    rw [A 0, A 1]
    unfold rs_sa
    constructor
    · intro z
      rw [if_pos (fun b hb => by
        have hb2 : b = 0 ∨ b = 1 := by omega
        rcases hb2 with rfl | rfl
        · exact z.1
        · exact z.2)]
      exact Nat.zero_lt_one
    · intro z
      by_cases e : ∀ b, b < 2 → rs_fo pz how tol x y b
      · exact ⟨e 0 (by omega), e 1 (by omega)⟩
      · rw [if_neg e] at z
        exact absurd z (Nat.lt_irrefl _)
  rw [rs_all_cg hok hk6 (kv := rs_t g tm) (n - g) (fun i hi => hk i (by omega)), hn, (rs_all_tel _ (Nat.le_refl _)).1, rs_tn (by omega)]
