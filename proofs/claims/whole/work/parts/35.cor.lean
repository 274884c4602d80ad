theorem c_X2_addPoint_T (l : Launch) (D : va_G) (aI aJ aL : ClassId) (sz : Nat) (q : Nat → Nat) (dd : Nat) (dc : Nat) (di : Nat) (xs : Nat → Int32) (ys : Nat → Int32) (wt : Nat → Int32) (inn : Nat → Nat) (x : Int32) (y : Int32) (w : Int32) (hdd : dd ≤ 3) (hdc : dc ≤ 19) (hdi : di ≤ 15) (hok : rs_okp dd dc x y w) : rs_MI (S := Unit) l yX2_addPoint (Cond.code yX2_addPoint prog_4_method_4_code 4 (some .boolean) :: rsW) rm_X2_addPoint D vwCl (rs_tys aI aJ aL) rs_nw [.ref (q 0), .int x, .int y, .int w] (wDr aI aJ aL q dd dc di xs ys wt inn) sz (nI 1) (fun uu => wDr aI aJ aL q dd (dc + 1) di (upd xs dc x) (upd ys dc y) (upd wt dc w) inn) := by
  have h := c_X2_addPoint l D aI aJ aL sz q dd dc di xs ys wt inn x y w hdd hdc hdi
  rw [← rs_bT hok] at h
  simp only [if_pos hok] at h
  exact h
theorem c_X2_addPoint_F (l : Launch) (D : va_G) (aI aJ aL : ClassId) (sz : Nat) (q : Nat → Nat) (dd : Nat) (dc : Nat) (di : Nat) (xs : Nat → Int32) (ys : Nat → Int32) (wt : Nat → Int32) (inn : Nat → Nat) (x : Int32) (y : Int32) (w : Int32) (hdd : dd ≤ 3) (hdc : dc ≤ 19) (hdi : di ≤ 15) (hok : ¬ (rs_okp dd dc x y w)) : rs_MI (S := Unit) l yX2_addPoint (Cond.code yX2_addPoint prog_4_method_4_code 4 (some .boolean) :: rsW) rm_X2_addPoint D vwCl (rs_tys aI aJ aL) rs_nw [.ref (q 0), .int x, .int y, .int w] (wDr aI aJ aL q dd dc di xs ys wt inn) sz (nI 0) (fun uu => wDr aI aJ aL q dd dc di xs ys wt inn) := by
  have h := c_X2_addPoint l D aI aJ aL sz q dd dc di xs ys wt inn x y w hdd hdc hdi
  rw [← rs_bF hok] at h
  simp only [if_neg hok] at h
  exact h

theorem c_X2_addKnot_T (l : Launch) (D : va_G) (aI aJ aL : ClassId) (sz : Nat) (q : Nat → Nat) (dd : Nat) (dc : Nat) (di : Nat) (xs : Nat → Int32) (ys : Nat → Int32) (wt : Nat → Int32) (inn : Nat → Nat) (k : Nat) (hdd : dd ≤ 3) (hdc : dc ≤ 19) (hdi : di ≤ 15) (hk1 : 1 ≤ k) (hk5 : k ≤ 5) (hin9 : ∀ i, inn i ≤ 6) (hok : rs_okk dd di inn k) : rs_MI (S := Unit) l yX2_addKnot (Cond.code yX2_addKnot prog_4_method_5_code 2 (some .boolean) :: rsW) rm_X2_addKnot D vwCl (rs_tys aI aJ aL) rs_nw [.ref (q 0), .int (nI k)] (wDr aI aJ aL q dd dc di xs ys wt inn) sz (nI 1) (fun uu => wDr aI aJ aL q dd dc (di + 1) xs ys wt (rs_up inn di k)) := by
  have h := c_X2_addKnot l D aI aJ aL sz q dd dc di xs ys wt inn k hdd hdc hdi hk1 hk5 hin9
  rw [← rs_bT hok] at h
  simp only [if_pos hok] at h
  exact h
theorem c_X2_addKnot_F (l : Launch) (D : va_G) (aI aJ aL : ClassId) (sz : Nat) (q : Nat → Nat) (dd : Nat) (dc : Nat) (di : Nat) (xs : Nat → Int32) (ys : Nat → Int32) (wt : Nat → Int32) (inn : Nat → Nat) (k : Nat) (hdd : dd ≤ 3) (hdc : dc ≤ 19) (hdi : di ≤ 15) (hk1 : 1 ≤ k) (hk5 : k ≤ 5) (hin9 : ∀ i, inn i ≤ 6) (hok : ¬ (rs_okk dd di inn k)) : rs_MI (S := Unit) l yX2_addKnot (Cond.code yX2_addKnot prog_4_method_5_code 2 (some .boolean) :: rsW) rm_X2_addKnot D vwCl (rs_tys aI aJ aL) rs_nw [.ref (q 0), .int (nI k)] (wDr aI aJ aL q dd dc di xs ys wt inn) sz (nI 0) (fun uu => wDr aI aJ aL q dd dc di xs ys wt inn) := by
  have h := c_X2_addKnot l D aI aJ aL sz q dd dc di xs ys wt inn k hdd hdc hdi hk1 hk5 hin9
  rw [← rs_bF hok] at h
  simp only [if_neg hok] at h
  exact h

theorem c_X3_takeOut_T (l : Launch) (D : va_G) (aI aJ aL : ClassId) (sz : Nat) (h : Nat) (a1 : Nat) (a2 : Nat) (q : Nat → Nat) (d : Nat) (n : Nat) (kn : Nat → Nat) (rz : Nat → Nat → Int64) (ac : Int32) (up : Int32) (ar : Nat → Nat) (wk : Nat → Int64) (q2 : Nat → Nat) (d2 : Nat) (n2 : Nat) (kn2 : Nat → Nat) (rz2 : Nat → Nat → Int64) (ac2 : Int32) (up2 : Int32) (ar2 : Nat → Nat) (wk2 : Nat → Int64) (k : Nat) (hd : d ≤ 3) (hn : n ≤ 19) (hdn : d + 2 ≤ n) (hk : ∀ i, kn i ≤ 6) (hk2 : ∀ i, kn2 i ≤ 6) (hk5 : k ≤ 5) (hok : rs_okr kn kn2 d n rz k) : rs_MI (S := {x : Nat → Nat → Int64 // rs_F (fun b j => rs_coa (rs_kout kn kn2 (rs_sp kn d (60 * k) (n - (d + 1))) (n + d + 1)) d n rz k b j) x (n - 1) 0}) l yX3_takeOut (Cond.code yX3_takeOut prog_1_method_24_code 2 (some .boolean) :: rsW) rm_X3_takeOut D vwCl (rs_tys aI aJ aL) rs_nw [.ref h, .int (nI k)] ((wS aI aJ aL h a1 a2 (q 0) (q2 0)) ++ (wC aI aJ aL q d n kn rz ac up ar wk) ++ (wC aI aJ aL q2 d2 n2 kn2 rz2 ac2 up2 ar2 wk2)) sz (nI 1) (fun uu => wS aI aJ aL h a1 a2 (q2 0) (q 0) ++ wC aI aJ aL q2 d (n - 1) (rs_kout kn kn2 (rs_sp kn d (60 * k) (n - (d + 1))) (n + d + 1)) uu.1 ac2 up2 ar2 wk2 ++ wC aI aJ aL q d n kn rz ac up ar wk) := by
  have h := c_X3_takeOut l D aI aJ aL sz h a1 a2 q d n kn rz ac up ar wk q2 d2 n2 kn2 rz2 ac2 up2 ar2 wk2 k hd hn hdn hk hk2 hk5
  rw [← rs_bT hok] at h
  simp only [if_pos hok] at h
  exact h
theorem c_X3_takeOut_F (l : Launch) (D : va_G) (aI aJ aL : ClassId) (sz : Nat) (h : Nat) (a1 : Nat) (a2 : Nat) (q : Nat → Nat) (d : Nat) (n : Nat) (kn : Nat → Nat) (rz : Nat → Nat → Int64) (ac : Int32) (up : Int32) (ar : Nat → Nat) (wk : Nat → Int64) (q2 : Nat → Nat) (d2 : Nat) (n2 : Nat) (kn2 : Nat → Nat) (rz2 : Nat → Nat → Int64) (ac2 : Int32) (up2 : Int32) (ar2 : Nat → Nat) (wk2 : Nat → Int64) (k : Nat) (hd : d ≤ 3) (hn : n ≤ 19) (hdn : d + 2 ≤ n) (hk : ∀ i, kn i ≤ 6) (hk2 : ∀ i, kn2 i ≤ 6) (hk5 : k ≤ 5) (hok : ¬ (rs_okr kn kn2 d n rz k)) : rs_MI (S := {x : Nat → Nat → Int64 // rs_F (fun b j => rs_coa (rs_kout kn kn2 (rs_sp kn d (60 * k) (n - (d + 1))) (n + d + 1)) d n rz k b j) x (n - 1) 0}) l yX3_takeOut (Cond.code yX3_takeOut prog_1_method_24_code 2 (some .boolean) :: rsW) rm_X3_takeOut D vwCl (rs_tys aI aJ aL) rs_nw [.ref h, .int (nI k)] ((wS aI aJ aL h a1 a2 (q 0) (q2 0)) ++ (wC aI aJ aL q d n kn rz ac up ar wk) ++ (wC aI aJ aL q2 d2 n2 kn2 rz2 ac2 up2 ar2 wk2)) sz (nI 0) (fun uu => wS aI aJ aL h a1 a2 (q 0) (q2 0) ++ wC aI aJ aL q d n kn rz ac up ar wk ++ wC aI aJ aL q2 d (n - 1) (rs_kout kn kn2 (rs_sp kn d (60 * k) (n - (d + 1))) (n + d + 1)) uu.1 ac2 up2 ar2 wk2) := by
  have h := c_X3_takeOut l D aI aJ aL sz h a1 a2 q d n kn rz ac up ar wk q2 d2 n2 kn2 rz2 ac2 up2 ar2 wk2 k hd hn hdn hk hk2 hk5
  rw [← rs_bF hok] at h
  simp only [if_neg hok] at h
  exact h

theorem c_X4_point_T (l : Launch) (D : va_G) (aI aJ aL : ClassId) (sz : Nat) (q : Nat → Nat) (dd : Nat) (dp : Nat) (dk : Nat) (dx : Nat → Int32) (dy : Nat → Int32) (dw : Nat → Int32) (dn : Nat → Nat) (g : Nat) (tm : Nat → Nat) (pz : Nat → Int64) (tk : Nat → Nat) (nn : Nat) (vn : Nat) (vt : Nat → Nat) (po : Nat → Int64) (vl : Nat → Int64) (ea : Nat → Nat) (la : Nat → Nat) (x : Int32) (y : Int32) (w : Int32) (hdd : dd ≤ 3) (hdp : dp ≤ 19) (hok : rs_okp dd dp x y w) : rs_MI (S := Unit) l yX4_point (Cond.code yX4_point prog_6_method_3_code 4 (some .boolean) :: rsW) rm_X4_point D vwCl (rs_tys aI aJ aL) rs_nw [.ref (q 0), .int x, .int y, .int w] (wM aI aJ aL q dd dp dk dx dy dw dn g tm pz tk nn vn vt po vl ea la) sz (nI 1) (fun uu => wM aI aJ aL q dd (dp + 1) dk (upd dx dp x) (upd dy dp y) (upd dw dp w) dn g tm pz tk nn vn vt po vl ea la) := by
  have h := c_X4_point l D aI aJ aL sz q dd dp dk dx dy dw dn g tm pz tk nn vn vt po vl ea la x y w hdd hdp
  rw [← rs_bT hok] at h
  simp only [if_pos hok] at h
  exact h
theorem c_X4_point_F (l : Launch) (D : va_G) (aI aJ aL : ClassId) (sz : Nat) (q : Nat → Nat) (dd : Nat) (dp : Nat) (dk : Nat) (dx : Nat → Int32) (dy : Nat → Int32) (dw : Nat → Int32) (dn : Nat → Nat) (g : Nat) (tm : Nat → Nat) (pz : Nat → Int64) (tk : Nat → Nat) (nn : Nat) (vn : Nat) (vt : Nat → Nat) (po : Nat → Int64) (vl : Nat → Int64) (ea : Nat → Nat) (la : Nat → Nat) (x : Int32) (y : Int32) (w : Int32) (hdd : dd ≤ 3) (hdp : dp ≤ 19) (hok : ¬ (rs_okp dd dp x y w)) : rs_MI (S := Unit) l yX4_point (Cond.code yX4_point prog_6_method_3_code 4 (some .boolean) :: rsW) rm_X4_point D vwCl (rs_tys aI aJ aL) rs_nw [.ref (q 0), .int x, .int y, .int w] (wM aI aJ aL q dd dp dk dx dy dw dn g tm pz tk nn vn vt po vl ea la) sz (nI 0) (fun uu => wM aI aJ aL q dd dp dk dx dy dw dn g tm pz tk nn vn vt po vl ea la) := by
  have h := c_X4_point l D aI aJ aL sz q dd dp dk dx dy dw dn g tm pz tk nn vn vt po vl ea la x y w hdd hdp
  rw [← rs_bF hok] at h
  simp only [if_neg hok] at h
  exact h

theorem c_X4_knot_T (l : Launch) (D : va_G) (aI aJ aL : ClassId) (sz : Nat) (q : Nat → Nat) (dd : Nat) (dp : Nat) (dk : Nat) (dx : Nat → Int32) (dy : Nat → Int32) (dw : Nat → Int32) (dn : Nat → Nat) (g : Nat) (tm : Nat → Nat) (pz : Nat → Int64) (tk : Nat → Nat) (nn : Nat) (vn : Nat) (vt : Nat → Nat) (po : Nat → Int64) (vl : Nat → Int64) (ea : Nat → Nat) (la : Nat → Nat) (k : Nat) (hdd : dd ≤ 3) (hdk : dk ≤ 15) (hk1 : 1 ≤ k) (hk5 : k ≤ 5) (hdn : ∀ i, dn i ≤ 6) (hful : rs_okm dd dk dn k → dk < 15) (hok : rs_okm dd dk dn k) : rs_MI (S := Unit) l yX4_knot (Cond.code yX4_knot prog_6_method_4_code 4 (some .boolean) :: rsW) rm_X4_knot D vwCl (rs_tys aI aJ aL) rs_nw [.ref (q 0), .int (nI k)] (wM aI aJ aL q dd dp dk dx dy dw dn g tm pz tk nn vn vt po vl ea la) sz (nI 1) (fun uu => wM aI aJ aL q dd dp (dk + 1) dx dy dw (rs_up dn dk k) g tm pz tk nn vn vt po vl ea la) := by
  have h := c_X4_knot l D aI aJ aL sz q dd dp dk dx dy dw dn g tm pz tk nn vn vt po vl ea la k hdd hdk hk1 hk5 hdn hful
  rw [← rs_bT hok] at h
  simp only [if_pos hok] at h
  exact h
theorem c_X4_knot_F (l : Launch) (D : va_G) (aI aJ aL : ClassId) (sz : Nat) (q : Nat → Nat) (dd : Nat) (dp : Nat) (dk : Nat) (dx : Nat → Int32) (dy : Nat → Int32) (dw : Nat → Int32) (dn : Nat → Nat) (g : Nat) (tm : Nat → Nat) (pz : Nat → Int64) (tk : Nat → Nat) (nn : Nat) (vn : Nat) (vt : Nat → Nat) (po : Nat → Int64) (vl : Nat → Int64) (ea : Nat → Nat) (la : Nat → Nat) (k : Nat) (hdd : dd ≤ 3) (hdk : dk ≤ 15) (hk1 : 1 ≤ k) (hk5 : k ≤ 5) (hdn : ∀ i, dn i ≤ 6) (hful : rs_okm dd dk dn k → dk < 15) (hok : ¬ (rs_okm dd dk dn k)) : rs_MI (S := Unit) l yX4_knot (Cond.code yX4_knot prog_6_method_4_code 4 (some .boolean) :: rsW) rm_X4_knot D vwCl (rs_tys aI aJ aL) rs_nw [.ref (q 0), .int (nI k)] (wM aI aJ aL q dd dp dk dx dy dw dn g tm pz tk nn vn vt po vl ea la) sz (nI 0) (fun uu => wM aI aJ aL q dd dp dk dx dy dw dn g tm pz tk nn vn vt po vl ea la) := by
  have h := c_X4_knot l D aI aJ aL sz q dd dp dk dx dy dw dn g tm pz tk nn vn vt po vl ea la k hdd hdk hk1 hk5 hdn hful
  rw [← rs_bF hok] at h
  simp only [if_neg hok] at h
  exact h
