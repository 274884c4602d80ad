/-! What both sides hold, and calls that are told by it. -/
abbrev rs_TD : Type := (Nat → Nat) × Nat × Nat × Nat × (Nat → Int32) × (Nat → Int32) × (Nat → Int32) × (Nat → Nat)
abbrev rs_TH : Type := (Nat → Nat) × Nat × Int32 × Int32 × (Nat → Nat) × (Nat → Int32) × (Nat → Int32)
abbrev rs_TC : Type := (Nat → Nat) × Nat × Nat × (Nat → Nat) × (Nat → Nat → Int64) × Int32 × Int32 × (Nat → Nat) × (Nat → Int64)
abbrev rs_SC : Type := rs_TD × rs_TH × rs_TC × rs_TC
abbrev rs_SM : Type := (Nat → Nat) × Nat × Nat × Nat × (Nat → Int32) × (Nat → Int32) × (Nat → Int32) × (Nat → Nat) × Nat × (Nat → Nat) × (Nat → Int64) × (Nat → Nat) × Nat × Nat × (Nat → Nat) × (Nat → Int64) × (Nat → Int64) × (Nat → Nat) × (Nat → Nat)
abbrev rs_wX (aI aJ aL : ClassId) (h : Nat) (x : rs_SC) : va_W := (wS aI aJ aL h (x.1.1 0) (x.2.1.1 0) (x.2.2.1.1 0) (x.2.2.2.1 0)) ++ (wDr aI aJ aL x.1.1 x.1.2.1 x.1.2.2.1 x.1.2.2.2.1 x.1.2.2.2.2.1 x.1.2.2.2.2.2.1 x.1.2.2.2.2.2.2.1 x.1.2.2.2.2.2.2.2) ++ (wCh aI aJ aL x.2.1.1 x.2.1.2.1 x.2.1.2.2.1 x.2.1.2.2.2.1 x.2.1.2.2.2.2.1 x.2.1.2.2.2.2.2.1 x.2.1.2.2.2.2.2.2) ++ (wC aI aJ aL x.2.2.1.1 x.2.2.1.2.1 x.2.2.1.2.2.1 x.2.2.1.2.2.2.1 x.2.2.1.2.2.2.2.1 x.2.2.1.2.2.2.2.2.1 x.2.2.1.2.2.2.2.2.2.1 x.2.2.1.2.2.2.2.2.2.2.1 x.2.2.1.2.2.2.2.2.2.2.2) ++ (wC aI aJ aL x.2.2.2.1 x.2.2.2.2.1 x.2.2.2.2.2.1 x.2.2.2.2.2.2.1 x.2.2.2.2.2.2.2.1 x.2.2.2.2.2.2.2.2.1 x.2.2.2.2.2.2.2.2.2.1 x.2.2.2.2.2.2.2.2.2.2.1 x.2.2.2.2.2.2.2.2.2.2.2)
/-- addresses with the first one given -/
def rs_q0 (h : Nat) (q : Nat → Nat) : Nat → Nat
  | 0 => h
  | j + 1 => q (j + 1)
theorem rs_q0_e {h : Nat} {q : Nat → Nat} (e : q 0 = h) : q = rs_q0 h q := by
  funext j
  cases j with
  | zero => exact e
  | succ j => rfl
abbrev rs_wN (aI aJ aL : ClassId) (h : Nat) (x : rs_SM) : va_W := wM aI aJ aL (rs_q0 h x.1) x.2.1 x.2.2.1 x.2.2.2.1 x.2.2.2.2.1 x.2.2.2.2.2.1 x.2.2.2.2.2.2.1 x.2.2.2.2.2.2.2.1 x.2.2.2.2.2.2.2.2.1 x.2.2.2.2.2.2.2.2.2.1 x.2.2.2.2.2.2.2.2.2.2.1 x.2.2.2.2.2.2.2.2.2.2.2.1 x.2.2.2.2.2.2.2.2.2.2.2.2.1 x.2.2.2.2.2.2.2.2.2.2.2.2.2.1 x.2.2.2.2.2.2.2.2.2.2.2.2.2.2.1 x.2.2.2.2.2.2.2.2.2.2.2.2.2.2.2.1 x.2.2.2.2.2.2.2.2.2.2.2.2.2.2.2.2.1 x.2.2.2.2.2.2.2.2.2.2.2.2.2.2.2.2.2.1 x.2.2.2.2.2.2.2.2.2.2.2.2.2.2.2.2.2.2
/-- the class's cells stand for: a draft, vertices, a curve -/
def rs_RC (dd dc di : Nat) (xs ys wt : Nat → Int32) (inn : Nat → Nat) (cs : Nat) (vf : Nat → Nat) (d : Nat) (tm : Nat → Nat) (a : Nat → Nat → Nat → Int) (x : rs_SC) : Prop :=
  ∃ (qd qc : Nat → Nat) (ho tl : Int32) (vt : Nat → Nat) (xa ya : Nat → Int32) (q : Nat → Nat) (n : Nat) (kn : Nat → Nat) (rz : Nat → Nat → Int64) (ac up : Int32) (ar : Nat → Nat) (wk : Nat → Int64) (q2 : Nat → Nat) (d2 n2 : Nat) (kn2 : Nat → Nat) (rz2 : Nat → Nat → Int64) (ac2 up2 : Int32) (ar2 : Nat → Nat) (wk2 : Nat → Int64),
    x = ((qd, dd, dc, di, xs, ys, wt, inn), (qc, cs, ho, tl, vt, xa, ya), (q, d, n, kn, rz, ac, up, ar, wk), (q2, d2, n2, kn2, rz2, ac2, up2, ar2, wk2)) ∧ rs_DI dd dc di xs ys wt inn ∧ cs ≤ 361 ∧ (∀ i, i < cs → vt i = vf i) ∧ (∀ i, kn i ≤ 6) ∧ (∀ i, kn2 i ≤ 6) ∧ d ≤ 3 ∧ n ≤ 19 ∧ (d = 0 → n = 0 ∧ ∀ k, tm k = 0) ∧ (0 < d → rs_JJ d a tm n kn rz)
/-- the model's cells stand for the same -/
def rs_RM (dd dc di : Nat) (xs ys wt : Nat → Int32) (inn : Nat → Nat) (cs : Nat) (vf : Nat → Nat) (d : Nat) (tm : Nat → Nat) (a : Nat → Nat → Nat → Int) (x : rs_SM) : Prop :=
  ∃ (q : Nat → Nat) (pz : Nat → Int64) (tk : Nat → Nat) (nn : Nat) (vt : Nat → Nat) (po vl : Nat → Int64) (ea la : Nat → Nat),
    x = (q, dd, dc, di, xs, ys, wt, inn, d, tm, pz, tk, nn, cs, vt, po, vl, ea, la) ∧ (∀ i, i < cs → vt i = vf i) ∧ (∀ i, tk i ≤ 6) ∧ nn ≤ 19 ∧ (0 < d → rs_pzI pz a ∧ nn = rs_cu d tm 6 ∧ ∀ i, i < rs_cu d tm 6 + (d + 1) → tk i = rs_val (rs_cu d tm) i)
theorem rs_MI_map {S1 S2 : Type} {l : Launch} {y : MethodName} {wy : List Cond} {rm : Room} {D : va_G} {cl : List vw_C} {tys : List (ClassId × FieldType)} {nw : List Cond} {av : List Value} {ws : va_W} {sz : Nat} {r r' : Int32} {w1 : S1 → va_W} {w2 : S2 → va_W} (h : rs_MI (S := S1) l y wy rm D cl tys nw av ws sz r w1) (f : S1 → S2) (hf : ∀ u, w1 u = w2 (f u)) (hr : r = r') : rs_MI (S := S2) l y wy rm D cl tys nw av ws sz r' w2 := by
  subst hr
  intro p e ha hc hk s m args below hfr happ hp hk'
  obtain ⟨n, o, h1, h2, h3, h4, h5⟩ := h p e ha hc hk s m args below hfr happ hp hk'
  refine ⟨n, o, h1, h2, h3, ?_, h5⟩
  obtain ⟨⟨z, u, e1, e2, e3⟩, e4⟩ := h4
  exact ⟨⟨z, f u, e1, e2, by
    show rs_at D cl tys (w2 (f u)) _ _
    rw [← hf u]; exact e3⟩, e4⟩
theorem rs_ML_map {S1 S2 : Type} {l : Launch} {y : MethodName} {wy : List Cond} {rm : Room} {D : va_G} {cl : List vw_C} {tys : List (ClassId × FieldType)} {nw : List Cond} {av : List Value} {ws : va_W} {sz : Nat} {r r' : Int64} {w1 : S1 → va_W} {w2 : S2 → va_W} (h : rs_ML (S := S1) l y wy rm D cl tys nw av ws sz r w1) (f : S1 → S2) (hf : ∀ u, w1 u = w2 (f u)) (hr : r = r') : rs_ML (S := S2) l y wy rm D cl tys nw av ws sz r' w2 := by
  subst hr
  intro p e ha hc hk s m args below hfr happ hp hk'
  obtain ⟨n, o, h1, h2, h3, h4, h5⟩ := h p e ha hc hk s m args below hfr happ hp hk'
  refine ⟨n, o, h1, h2, h3, ?_, h5⟩
  obtain ⟨⟨z, u, e1, e2, e3⟩, e4⟩ := h4
  exact ⟨⟨z, f u, e1, e2, by
    show rs_at D cl tys (w2 (f u)) _ _
    rw [← hf u]; exact e3⟩, e4⟩
/-- one call on both sides: the same answer, and what both sides hold is again the same -/
def rs_OI (l : Launch) (D : va_G) (aI aJ aL : ClassId) (h hm : Nat) (y3 : MethodName) (c3 : Cond) (rm3 : Room) (y4 : MethodName) (c4 : Cond) (rm4 : Room) (As : List Value) (x : rs_SC) (z : rs_SM) : Prop :=
  ∃ (dd dc di : Nat) (xs ys wt : Nat → Int32) (inn : Nat → Nat) (cs : Nat) (vf : Nat → Nat) (d : Nat) (tm : Nat → Nat) (a : Nat → Nat → Nat → Int) (r : Int32),
    (∀ sz, rs_MI (S := {u : rs_SC // rs_RC dd dc di xs ys wt inn cs vf d tm a u}) l y3 (c3 :: rsW) rm3 D vwCl (rs_tys aI aJ aL) rs_nw (.ref h :: As) (rs_wX aI aJ aL h x) sz r (fun u => rs_wX aI aJ aL h u.1)) ∧
    ∀ sz, rs_MI (S := {u : rs_SM // rs_RM dd dc di xs ys wt inn cs vf d tm a u}) l y4 (c4 :: rsW) rm4 D vwCl (rs_tys aI aJ aL) rs_nw (.ref hm :: As) (rs_wN aI aJ aL hm z) sz r (fun u => rs_wN aI aJ aL hm u.1)
def rs_OL (l : Launch) (D : va_G) (aI aJ aL : ClassId) (h hm : Nat) (y3 : MethodName) (c3 : Cond) (rm3 : Room) (y4 : MethodName) (c4 : Cond) (rm4 : Room) (As : List Value) (x : rs_SC) (z : rs_SM) : Prop :=
  ∃ (dd dc di : Nat) (xs ys wt : Nat → Int32) (inn : Nat → Nat) (cs : Nat) (vf : Nat → Nat) (d : Nat) (tm : Nat → Nat) (a : Nat → Nat → Nat → Int) (r : Int64),
    (∀ sz, rs_ML (S := {u : rs_SC // rs_RC dd dc di xs ys wt inn cs vf d tm a u}) l y3 (c3 :: rsW) rm3 D vwCl (rs_tys aI aJ aL) rs_nw (.ref h :: As) (rs_wX aI aJ aL h x) sz r (fun u => rs_wX aI aJ aL h u.1)) ∧
    ∀ sz, rs_ML (S := {u : rs_SM // rs_RM dd dc di xs ys wt inn cs vf d tm a u}) l y4 (c4 :: rsW) rm4 D vwCl (rs_tys aI aJ aL) rs_nw (.ref hm :: As) (rs_wN aI aJ aL hm z) sz r (fun u => rs_wN aI aJ aL hm u.1)
/-! Numbers in a range, and what the two sides' small answers have in common. -/
theorem rs_rng (lo hi : Nat) (hlo : lo < 2 ^ 31) (hhi : hi < 2 ^ 31) (x : Int32) : (x < nI lo ∨ nI hi < x) ∨ ∃ k, lo ≤ k ∧ k ≤ hi ∧ x = nI k := by
  by_cases h1 : x < nI lo
  · exact Or.inl (Or.inl h1)
  · by_cases h2 : nI hi < x
    · exact Or.inl (Or.inr h2)
    · right
      have h0 : ¬ x < 0 := fun z => h1 (Int32.lt_of_lt_of_le z (nI_pos' hlo))
      obtain ⟨j, hj, rfl⟩ := nI_of h0
      refine ⟨j, ?_, ?_, rfl⟩
      · exact Nat.le_of_not_lt (fun z => h1 ((nI_ltI hj hlo).2 z))
      · exact Nat.le_of_not_lt (fun z => h2 ((nI_ltI hhi hj).2 z))
theorem rs_1_0 {k : Int32} : k < nI 1 ↔ ¬ 0 < k := by
  rw [← Int32.not_le, Int32.lt_iff_toInt_lt, Int32.le_iff_toInt_le, nI_toInt (by decide)]
  show ¬ ((1 : Nat) : Int) ≤ k.toInt ↔ ¬ (0 : Int) < k.toInt
  omega
theorem rs_5_6 {k : Int32} : nI 5 < k ↔ ¬ k < nI 6 := by
  rw [Int32.lt_iff_toInt_lt, Int32.lt_iff_toInt_lt, nI_toInt (by decide), nI_toInt (by decide)]
  omega
theorem rs_kat_eq {kn tk : Nat → Nat} {d n : Nat} (hn : n + d + 1 < 2 ^ 31) (h : 0 < d → ∀ i, i < n + d + 1 → kn i = tk i) (i : Int32) : rs_kat kn d n i = rs_kat tk d n i := by
  unfold rs_kat
  by_cases h0 : 0 < d
  · rw [if_pos h0, if_pos h0]
    by_cases h1 : i < 0
    · rw [if_pos h1, if_pos h1]
    · rw [if_neg h1, if_neg h1]
      by_cases h2 : i < nI (n + d + 1)
      · rw [if_pos h2, if_pos h2]
        obtain ⟨j, hj, rfl⟩ := nI_of h1
        rw [nI_clamp hj, h h0 j ((nI_ltI hj hn).1 h2)]
      · rw [if_neg h2, if_neg h2]
  · rw [if_neg h0, if_neg h0]
theorem rs_vtx_eq {vt vu : Nat → Nat} {cs : Nat} (hc : cs < 2 ^ 31) (h : ∀ i, i < cs → vt i = vu i) (i : Int32) : rs_vtx vt cs i = rs_vtx vu cs i := by
  unfold rs_vtx
  by_cases h1 : i < 0
  · rw [if_pos h1, if_pos h1]
  · rw [if_neg h1, if_neg h1]
    by_cases h2 : i < nI cs
    · rw [if_pos h2, if_pos h2]
      obtain ⟨j, hj, rfl⟩ := nI_of h1
      rw [nI_clamp hj, h j ((nI_ltI hj hc).1 h2)]
    · rw [if_neg h2, if_neg h2]
theorem rs_tm_0 {kn : Nat → Nat} {d : Nat} {k : Int32} : ∀ j, (∀ i, i < j → ¬ nI (kn (d + 1 + i)) = k) → rs_tm kn d k j = 0
  | 0, _ => rfl
  | j + 1, h => by
    show (if nI (kn (d + 1 + j)) = k then _ else _) = _
    rw [if_neg (h j (by omega))]
    exact rs_tm_0 j (fun i hi => h i (by omega))
/-- no number out of 1 .. 5 is an inner knot -/
theorem rs_tm_out {d n : Nat} {tm kn : Nat → Nat} {a : Nat → Nat → Nat → Int} {rz : Nat → Nat → Int64} (hJ : rs_JJ d a tm n kn rz) {k : Int32} (hk : k < nI 1 ∨ nI 5 < k) : rs_tm kn d k (n - (d + 1)) = 0 := by
  obtain ⟨hP, hn, hkk, h6, -⟩ := hJ
  have hc := rs_cu_asc d tm
  refine rs_tm_0 _ (fun i hi e => ?_)
  have e1 := hkk (d + 1 + i) (by omega)
  have a1 := rs_val_k hc (k := 1) (by omega) (by omega) (d + 1 + i)
  have a1' : 1 ≤ rs_t d tm (d + 1 + i) ↔ d + 1 ≤ d + 1 + i := a1
  have a2 := rs_val_5 (g := d) (tm := tm) (i := d + 1 + i) (by omega)
  have a2' : rs_t d tm (d + 1 + i) ≤ 5 := a2
  rw [← e, e1] at hk
  rcases hk with z | z
  · have := (nI_ltI (by omega) (by omega)).1 z
    omega
  · have := (nI_ltI (by omega) (by omega)).1 z
    omega
theorem rs_fault_0 {dd dc di : Nat} (h : rs_fault dd dc di = 0) : 0 < dd ∧ dd + 1 ≤ dc ∧ di = dc - dd - 1 := by
  unfold rs_fault at h
  by_cases h1 : dd = 0
  · rw [if_pos h1] at h
    exact absurd h (by decide)
  · rw [if_neg h1] at h
    by_cases h2 : dc < dd + 1
    · rw [if_pos h2] at h
      exact absurd h (by decide)
    · rw [if_neg h2] at h
      by_cases h3 : di = dc - dd - 1
      · exact ⟨by omega, by omega, h3⟩
      · rw [if_neg h3] at h
        exact absurd h (by decide)
theorem rs_num_0 {rz : Nat → Nat → Int64} {n ax : Nat} {i : Int32} (h : i < 0 ∨ nI n ≤ i) : rs_num rz n ax i = 0 := by
  unfold rs_num
  by_cases h1 : i < 0
  · rw [if_pos h1]
  · rw [if_neg h1, if_pos (by
      rcases h with z | z
      · exact absurd z h1
      · exact z)]
theorem rs_span_eq {kn tk : Nat → Nat} {g n u : Nat} (hg : g + 1 ≤ n) (h : ∀ i, i < n + g + 1 → kn i = tk i) : rs_sp kn g u (n - (g + 1)) = rs_ms tk g u (n - g) := by
  rw [show n - g = n - (g + 1) + 1 by omega, rs_ms_sp]
  exact rs_sp_cg _ (fun i hi => h i (by omega))
theorem rs_lay_get (vt : Nat → Nat) (L : List Nat) {i : Nat} (h : i < L.length) : rs_lay vt 0 L i = L.getD i 0 := by
  unfold rs_lay
  rw [if_pos (by omega), Nat.sub_zero]
theorem rs_dck_le {g : Nat} {tm : Nat → Nat} (h : ∀ k, tm k ≤ g) (j k : Nat) : rs_dck g tm j k ≤ g := by
  unfold rs_dck
  split
  · exact Nat.le_refl _
  · exact h k
