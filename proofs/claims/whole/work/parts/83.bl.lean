/-! De Boor's levels are the blossom. -/
theorem rs_bl_s {kn : Nat → Nat} {d n : Nat} {rz : Nat → Nat → Int64} {ar : Nat → Nat} {ax r v j lo hi : Nat} {F0 F1 F' : Int} (hj : v + 1 ≤ j) (h1 : rs_bl kn d n rz ar ax r v j = lI F1) (h0 : rs_bl kn d n rz ar ax r v (j - 1) = lI F0) (hlo : kn (r - d + j) = lo) (hhi : kn (r + j + 1 - (v + 1)) = hi) (hlt : lo < hi) (h6 : hi ≤ 6) (har : ar v ≤ 360)
    (hid : ((ar v : Int) - 60 * lo) * F1 + (60 * hi - ar v) * F0 = ((hi : Int) - lo) * F') (hb : -50000000000000000 ≤ F' ∧ F' ≤ 50000000000000000) : rs_bl kn d n rz ar ax r (v + 1) j = lI F' := by
  show (if v + 1 ≤ j then _ else _) = _
  rw [if_pos hj, h1, h0, hlo, hhi, rs_isub64 (by omega) (by omega), rs_isub64 (by omega) (by omega), rs_isub64 (by omega) (by omega), rs_mul, rs_mul, rs_add]
  have e : ((ar v : Nat) : Int) - ((60 * lo : Nat) : Int) = (ar v : Int) - 60 * lo := by omega
  have e2 : ((60 * hi : Nat) : Int) - ((ar v : Nat) : Int) = 60 * hi - (ar v : Int) := by omega
  rw [e, e2, hid]
  have hp := rs_absmul (a := (hi : Int) - lo) (A := 6) (by omega) (by omega) hb.1 hb.2
  exact rs_quo_ex (by omega) (by omega) (by omega) (by omega) (by omega)
section RSC
variable {kn : Nat → Nat} {n : Nat} {rz : Nat → Nat → Int64} {ar : Nat → Nat} {ax s J : Nat} {b : Nat → Int}
theorem rs_bl1 (hb : (-3456000000 ≤ b 0 ∧ b 0 ≤ 3456000000) ∧ (-20736000000 ≤ b 1 ∧ b 1 ≤ 20736000000) ∧ (-41472000000 ≤ b 2 ∧ b 2 ≤ 41472000000) ∧ (-27648000000 ≤ b 3 ∧ b 3 ≤ 27648000000))
    (h0 : ∀ j, j ≤ 1 → rs_bl kn 1 n rz ar ax (s + 1) 0 j = lI (rs_bh 1 b 1 ((kn (s + j + 1) : Int) - J) 1 ((kn (s + j + 2) : Int) - J) 1 ((kn (s + j + 3) : Int) - J)))
    (hl : ∀ j, j ≤ 1 → kn (s + j) ≤ J) (hh : ∀ j, 2 ≤ j → j ≤ 2 → J < kn (s + j)) (h6 : ∀ i, kn i ≤ 6) (har : ∀ v, ar v ≤ 360) (hJ : J ≤ 5) :
    rs_bl kn 1 n rz ar ax (s + 1) 1 1 = lI (rs_bh 1 b 60 ((ar 0 : Int) - 60 * J) 60 ((ar 1 : Int) - 60 * J) 60 ((ar 2 : Int) - 60 * J)) := by
  have a0 := har 0
  have a1 := har 1
  have a2 := har 2
  have l1 := hl 1 (by omega)
  have g2 := hh 2 (by omega) (by omega)
  have u2 := h6 (s + 2)
  refine rs_bl_s (v := 0) (lo := kn (s + 1)) (hi := kn (s + 2)) (Nat.le_refl _) (h0 1 (by omega)) (h0 0 (by omega)) (congrArg kn (by omega)) (congrArg kn (by omega)) (by omega) u2 a0 ?_ ?_
  · simp only [Nat.add_zero, Nat.add_assoc, Nat.reduceAdd, rs_bh1]
    grind
  · exact rs_bh_b (g := 1) (by omega) (by omega) hb (M := 360) (Or.inr ⟨by omega, rfl⟩) (by omega) (by omega) (by omega) (by omega) (by omega) (by omega)
theorem rs_bl2 (hb : (-3456000000 ≤ b 0 ∧ b 0 ≤ 3456000000) ∧ (-20736000000 ≤ b 1 ∧ b 1 ≤ 20736000000) ∧ (-41472000000 ≤ b 2 ∧ b 2 ≤ 41472000000) ∧ (-27648000000 ≤ b 3 ∧ b 3 ≤ 27648000000))
    (h0 : ∀ j, j ≤ 2 → rs_bl kn 2 n rz ar ax (s + 2) 0 j = lI (rs_bh 2 b 1 ((kn (s + j + 1) : Int) - J) 1 ((kn (s + j + 2) : Int) - J) 1 ((kn (s + j + 3) : Int) - J)))
    (hl : ∀ j, j ≤ 2 → kn (s + j) ≤ J) (hh : ∀ j, 3 ≤ j → j ≤ 4 → J < kn (s + j)) (h6 : ∀ i, kn i ≤ 6) (har : ∀ v, ar v ≤ 360) (hJ : J ≤ 5) :
    rs_bl kn 2 n rz ar ax (s + 2) 2 2 = lI (rs_bh 2 b 60 ((ar 0 : Int) - 60 * J) 60 ((ar 1 : Int) - 60 * J) 60 ((ar 2 : Int) - 60 * J)) := by
  have a0 := har 0
  have a1 := har 1
  have a2 := har 2
  have l1 := hl 1 (by omega)
  have l2 := hl 2 (by omega)
  have g3 := hh 3 (by omega) (by omega)
  have g4 := hh 4 (by omega) (by omega)
  have u3 := h6 (s + 3)
  have u4 := h6 (s + 4)
  have v11 : rs_bl kn 2 n rz ar ax (s + 2) 1 1 = lI (rs_bh 2 b 60 ((ar 0 : Int) - 60 * J) 1 ((kn (s + 2) : Int) - J) 1 0) := by
    refine rs_bl_s (v := 0) (lo := kn (s + 1)) (hi := kn (s + 3)) (Nat.le_refl _) (h0 1 (by omega)) (h0 0 (by omega)) (congrArg kn (by omega)) (congrArg kn (by omega)) (by omega) u3 a0 ?_ ?_
    · simp only [Nat.add_zero, Nat.add_assoc, Nat.reduceAdd, rs_bh2]
      grind
    · exact rs_bh_b (g := 2) (by omega) (by omega) hb (M := 360) (Or.inr ⟨by omega, rfl⟩) (by omega) (by omega) (by omega) (by omega) (by omega) (by omega)
  have v12 : rs_bl kn 2 n rz ar ax (s + 2) 1 2 = lI (rs_bh 2 b 60 ((ar 0 : Int) - 60 * J) 1 ((kn (s + 3) : Int) - J) 1 0) := by
    refine rs_bl_s (v := 0) (lo := kn (s + 2)) (hi := kn (s + 4)) (by omega) (h0 2 (by omega)) (h0 1 (by omega)) (congrArg kn (by omega)) (congrArg kn (by omega)) (by omega) u4 a0 ?_ ?_
    · simp only [Nat.add_zero, Nat.add_assoc, Nat.reduceAdd, rs_bh2]
      grind
    · exact rs_bh_b (g := 2) (by omega) (by omega) hb (M := 360) (Or.inr ⟨by omega, rfl⟩) (by omega) (by omega) (by omega) (by omega) (by omega) (by omega)
  refine rs_bl_s (v := 1) (lo := kn (s + 2)) (hi := kn (s + 3)) (by omega) v12 v11 (congrArg kn (by omega)) (congrArg kn (by omega)) (by omega) u3 a1 ?_ ?_
  · simp only [rs_bh2]
    grind
  · exact rs_bh_b (g := 2) (by omega) (by omega) hb (M := 360) (Or.inr ⟨by omega, rfl⟩) (by omega) (by omega) (by omega) (by omega) (by omega) (by omega)
theorem rs_bl3 (hb : (-3456000000 ≤ b 0 ∧ b 0 ≤ 3456000000) ∧ (-20736000000 ≤ b 1 ∧ b 1 ≤ 20736000000) ∧ (-41472000000 ≤ b 2 ∧ b 2 ≤ 41472000000) ∧ (-27648000000 ≤ b 3 ∧ b 3 ≤ 27648000000))
    (h0 : ∀ j, j ≤ 3 → rs_bl kn 3 n rz ar ax (s + 3) 0 j = lI (rs_bh 3 b 1 ((kn (s + j + 1) : Int) - J) 1 ((kn (s + j + 2) : Int) - J) 1 ((kn (s + j + 3) : Int) - J)))
    (hl : ∀ j, j ≤ 3 → kn (s + j) ≤ J) (hh : ∀ j, 4 ≤ j → j ≤ 6 → J < kn (s + j)) (h6 : ∀ i, kn i ≤ 6) (har : ∀ v, ar v ≤ 360) (hJ : J ≤ 5) (hw : ∀ v, 60 * J ≤ ar v + 60 ∧ ar v ≤ 60 * J + 60) :
    rs_bl kn 3 n rz ar ax (s + 3) 3 3 = lI (rs_bh 3 b 60 ((ar 0 : Int) - 60 * J) 60 ((ar 1 : Int) - 60 * J) 60 ((ar 2 : Int) - 60 * J)) := by
  have a0 := har 0
  have a1 := har 1
  have a2 := har 2
  have w0 := hw 0
  have w1 := hw 1
  have w2 := hw 2
  have l1 := hl 1 (by omega)
  have l2 := hl 2 (by omega)
  have l3 := hl 3 (by omega)
  have g4 := hh 4 (by omega) (by omega)
  have g5 := hh 5 (by omega) (by omega)
  have g6 := hh 6 (by omega) (by omega)
  have u4 := h6 (s + 4)
  have u5 := h6 (s + 5)
  have u6 := h6 (s + 6)
  have v11 : rs_bl kn 3 n rz ar ax (s + 3) 1 1 = lI (rs_bh 3 b 60 ((ar 0 : Int) - 60 * J) 1 ((kn (s + 2) : Int) - J) 1 ((kn (s + 3) : Int) - J)) := by
    refine rs_bl_s (v := 0) (lo := kn (s + 1)) (hi := kn (s + 4)) (Nat.le_refl _) (h0 1 (by omega)) (h0 0 (by omega)) (congrArg kn (by omega)) (congrArg kn (by omega)) (by omega) u4 a0 ?_ ?_
    · simp only [Nat.add_zero, Nat.add_assoc, Nat.reduceAdd, rs_bh3]
      grind
    · exact rs_bh_b (g := 3) (by omega) (by omega) hb (M := 60) (Or.inl ⟨rfl, rfl⟩) (by omega) (by omega) (by omega) (by omega) (by omega) (by omega)
  have v12 : rs_bl kn 3 n rz ar ax (s + 3) 1 2 = lI (rs_bh 3 b 60 ((ar 0 : Int) - 60 * J) 1 ((kn (s + 3) : Int) - J) 1 ((kn (s + 4) : Int) - J)) := by
    refine rs_bl_s (v := 0) (lo := kn (s + 2)) (hi := kn (s + 5)) (by omega) (h0 2 (by omega)) (h0 1 (by omega)) (congrArg kn (by omega)) (congrArg kn (by omega)) (by omega) u5 a0 ?_ ?_
    · simp only [Nat.add_zero, Nat.add_assoc, Nat.reduceAdd, rs_bh3]
      grind
    · exact rs_bh_b (g := 3) (by omega) (by omega) hb (M := 60) (Or.inl ⟨rfl, rfl⟩) (by omega) (by omega) (by omega) (by omega) (by omega) (by omega)
  have v13 : rs_bl kn 3 n rz ar ax (s + 3) 1 3 = lI (rs_bh 3 b 60 ((ar 0 : Int) - 60 * J) 1 ((kn (s + 4) : Int) - J) 1 ((kn (s + 5) : Int) - J)) := by
    refine rs_bl_s (v := 0) (lo := kn (s + 3)) (hi := kn (s + 6)) (by omega) (h0 3 (by omega)) (h0 2 (by omega)) (congrArg kn (by omega)) (congrArg kn (by omega)) (by omega) u6 a0 ?_ ?_
    · simp only [Nat.add_zero, Nat.add_assoc, Nat.reduceAdd, rs_bh3]
      grind
    · exact rs_bh_b (g := 3) (by omega) (by omega) hb (M := 60) (Or.inl ⟨rfl, rfl⟩) (by omega) (by omega) (by omega) (by omega) (by omega) (by omega)
  have v22 : rs_bl kn 3 n rz ar ax (s + 3) 2 2 = lI (rs_bh 3 b 60 ((ar 0 : Int) - 60 * J) 60 ((ar 1 : Int) - 60 * J) 1 ((kn (s + 3) : Int) - J)) := by
    refine rs_bl_s (v := 1) (lo := kn (s + 2)) (hi := kn (s + 4)) (by omega) v12 v11 (congrArg kn (by omega)) (congrArg kn (by omega)) (by omega) u4 a1 ?_ ?_
    · simp only [rs_bh3]
      grind
    · exact rs_bh_b (g := 3) (by omega) (by omega) hb (M := 60) (Or.inl ⟨rfl, rfl⟩) (by omega) (by omega) (by omega) (by omega) (by omega) (by omega)
  have v23 : rs_bl kn 3 n rz ar ax (s + 3) 2 3 = lI (rs_bh 3 b 60 ((ar 0 : Int) - 60 * J) 60 ((ar 1 : Int) - 60 * J) 1 ((kn (s + 4) : Int) - J)) := by
    refine rs_bl_s (v := 1) (lo := kn (s + 3)) (hi := kn (s + 5)) (by omega) v13 v12 (congrArg kn (by omega)) (congrArg kn (by omega)) (by omega) u5 a1 ?_ ?_
    · simp only [rs_bh3]
      grind
    · exact rs_bh_b (g := 3) (by omega) (by omega) hb (M := 60) (Or.inl ⟨rfl, rfl⟩) (by omega) (by omega) (by omega) (by omega) (by omega) (by omega)
  refine rs_bl_s (v := 2) (lo := kn (s + 3)) (hi := kn (s + 4)) (by omega) v23 v22 (congrArg kn (by omega)) (congrArg kn (by omega)) (by omega) u4 a2 ?_ ?_
  · simp only [rs_bh3]
    grind
  · exact rs_bh_b (g := 3) (by omega) (by omega) hb (M := 60) (Or.inl ⟨rfl, rfl⟩) (by omega) (by omega) (by omega) (by omega) (by omega) (by omega)
end RSC
/-- the class's blossom -/
theorem rs_bl_bh {g n : Nat} {tm kn : Nat → Nat} {a : Nat → Nat → Nat → Int} {rz : Nat → Nat → Int64} (hP : rs_PI g tm a) (hC : rs_CI g tm a n kn rz) {ar : Nat → Nat} {ax r J : Nat} (hax : ax < 3) (h1 : g ≤ r) (h2 : r < n) (h3 : rs_t g tm r ≤ J) (h4 : J < rs_t g tm (r + 1)) (har : ∀ v, ar v ≤ 360) (hw : g = 3 → ∀ v, 60 * J ≤ ar v + 60 ∧ ar v ≤ 60 * J + 60) :
    rs_bl kn g n rz ar ax r g g = lI (rs_bh g (rs_al g (a ax J)) 60 ((ar 0 : Int) - 60 * J) 60 ((ar 1 : Int) - 60 * J) 60 ((ar 2 : Int) - 60 * J)) := by
  obtain ⟨⟨hg, hg3⟩, htm, -, hA, -⟩ := hP
  obtain ⟨hs, hd, hv, hb⟩ := hA ax hax
  obtain ⟨hn, hk, hk6, hr⟩ := hC
  have hc := rs_cu_asc g tm
  have t6 := rs_t6 g tm (r + 1)
  have hJ : J ≤ 5 := by omega
  have hn19 := rs_cu6_b hg3 htm
  have hal := rs_al_b hg hg3 (hb J (by omega))
  have mono : ∀ i j, i ≤ j → rs_t g tm i ≤ rs_t g tm j := fun i j h => rs_val_mono hc h
  obtain ⟨s, rfl⟩ : ∃ s, r = s + g := ⟨r - g, by omega⟩
  have hl : ∀ j, j ≤ g → kn (s + j) ≤ J := fun j hj => by
    rw [hk _ (by omega)]
    have := mono (s + j) (s + g) (by omega)
    omega
  have hh : ∀ j, g + 1 ≤ j → j ≤ 2 * g → J < kn (s + j) := fun j hj hj2 => by
    rw [hk _ (by omega)]
    have := mono (s + g + 1) (s + j) (by omega)
    omega
  have h0 : ∀ j, j ≤ g → rs_bl kn g n rz ar ax (s + g) 0 j = lI (rs_bh g (rs_al g (a ax J)) 1 ((rs_t g tm (s + j + 1) : Int) - J) 1 ((rs_t g tm (s + j + 2) : Int) - J) 1 ((rs_t g tm (s + j + 3) : Int) - J)) := fun j hj => by
    show rs_num rz n ax (nI (s + g - g + j)) = _
    rw [show s + g - g + j = s + j by omega, rs_num_in (by omega) (by omega), hr ax (s + j) hax (by omega), rs_bh_1 hg hg3]
    rw [rs_cc_any hg hg3 htm hs hd hv (i := s + j) (j := J) (by have := mono (s + j) (s + g) (by omega); omega) (by have := mono (s + g + 1) (s + j + g + 1) (by omega); omega) hJ]
  have hkk : ∀ j x, j ≤ g → x ≤ g → kn (s + j + x) = rs_t g tm (s + j + x) := fun j x h5 h6 => hk _ (by omega)
  have hgc : g = 1 ∨ g = 2 ∨ g = 3 := by omega
  rcases hgc with rfl | rfl | rfl
  · refine rs_bl1 (s := s) hal (fun j hj => ?_) hl hh hk6 har hJ
    rw [h0 j hj, rs_bh1, rs_bh1, hkk j 1 hj (by omega)]
  · refine rs_bl2 (s := s) hal (fun j hj => ?_) hl hh hk6 har hJ
    rw [h0 j hj, rs_bh2, rs_bh2, hkk j 1 hj (by omega), hkk j 2 hj (by omega)]
  · refine rs_bl3 (s := s) hal (fun j hj => ?_) hl hh hk6 har hJ (hw rfl)
    rw [h0 j hj, rs_bh3, rs_bh3, hkk j 1 hj (by omega), hkk j 2 hj (by omega), hkk j 3 hj (by omega)]
