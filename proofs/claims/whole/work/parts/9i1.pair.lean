theorem pr_setOrder (l : Launch) (hst : l.stackTraces = false) (D : va_G) (Z : Nat → ClassId) (z : Nat → Nat → Nat) (b : Nat → Nat) (qo : Nat) (S : LawS) (hI : LI S) (xa xn : Int32) : ∃ (K : Nat) (N : Int32) (S2 : LawS), LI S2 ∧ S2.th = K ∧ K ≤ 2 ∧ (K = 0 → S2.fo 0 = N.toInt64) ∧ Xh l yL_setOrder wsL_setOrder 8 133 2 12 D Z [.ref (z 0 0), .int xa, .int xn, .ref qo] (czW Z z S ++ joW Z qo S.fo) K (czW Z z S2 ++ joW Z qo S2.fo) ∧ Ci l yX8_setOrder wsX8_setOrder 2 45 D Z [.ref (b 0), .int xa, .int xn] (mdW Z b S) N (mdW Z b S2) := by
  have hI9 := hI
  obtain ⟨hJ, ho, hn, hH, ht, htl, hti⟩ := hI9
  have e0 := hJ.2.2.1.2.2.1
  have b8 := hJ.1.1.2.2.2.1
  have horg : ixI (min (S.X.1.2.2.2 + 1) 8) xa ↔ rgI 0 S.M.1.2.2.2 xa ∧ xa < nI 8 := by rw [← e0]; exact ord_rg b8
  have hlt : ixI (min (S.X.1.2.2.2 + 1) 8) xa → toN xa ≤ S.X.1.2.2.2 ∧ toN xa < 8 := fun h => by have := ix_toN (by omega) h; omega
  rcases kind2 (P := (ixI (min (S.X.1.2.2.2 + 1) 8) xa)) (Q := (rgI 0 5 xn)) (P' := (rgI 0 S.M.1.2.2.2 xa ∧ xa < nI 8)) (Q' := (rgI 0 5 xn)) eIXs eIAs (by decide) horg Iff.rfl with ⟨hp, hq, hx, hk⟩ | ⟨F, hx, hcd, hk0, hk2⟩
  · have hans : nI (max S.X.1.2.2.2 (toN xa + 1)) = (nI (S.M.1.2.2.2 + bP (toN xa = S.M.1.2.2.2))) := congrArg nI (J_ord (i := toN xa) (p := toN xn) hJ (hlt hp).1 (hlt hp).2 (rg_toN (by decide) (by decide) hq).2).2.2.1.2.2.1
    refine ⟨0, (nI (S.M.1.2.2.2 + bP (toN xa = S.M.1.2.2.2))), (LawS.mk (stOrd S.X (toN xa) (toN xn)) (mOrd S.M (toN xa) (toN xn)) (svO S.o S.n) (svN S.n + 1) (svX S.o S.n S.Y S.X) S.tl S.ti S.ta S.tr S.t S.k S.P9 (vp_updL S.fo 0 (nI (max S.X.1.2.2.2 (toN xa + 1))).toInt64) (svS S.sv S.n S.M) S.sd 0 S.pl S.ro S.nu S.r), ⟨(J_ord (i := toN xa) (p := toN xn) hJ (hlt hp).1 (hlt hp).2 (rg_toN (by decide) (by decide) hq).2), svO_lt ho, svN_le hn, H_save ho hn hH hJ, ht, htl, hti⟩, rfl, by decide, fun _ => (congrFun LawS_fo 0).trans (upd0.trans (congrArg Int32.toInt64 hans)), ?_, ?_⟩
    · have h := c_L_setOrder l hst D Z z S.X S.o S.n S.Y S.tl S.ti S.ta S.tr S.t S.k S.P9 xa xn qo S.fo ho hn hJ.1
      rw [cd2_n hx, selW_n hx] at h
      exact h
    · have h := c_X8_setOrder l D Z b S.M  S.sv S.sd S.n S.th S.tl S.pl S.ro S.nu S.t S.r xa xn hn hJ.2.1.1.2.2.2.1
      rw [hk] at h
      exact h
  · refine ⟨(kC (rgI 0 S.M.1.2.2.2 xa ∧ xa < nI 8) (rgI 0 5 xn)), nI 0, (LawS.mk S.X S.M S.o S.n S.Y S.tl S.ti S.ta S.tr S.t S.k S.P9 S.fo S.sv S.sd (kC (rgI 0 S.M.1.2.2.2 xa ∧ xa < nI 8) (rgI 0 5 xn)) S.pl S.ro S.nu S.r), ⟨hJ, ho, hn, hH, ht, htl, hti⟩, rfl, hk2, fun h => absurd h hk0, ?_, ?_⟩
    · have h := c_L_setOrder l hst D Z z S.X S.o S.n S.Y S.tl S.ti S.ta S.tr S.t S.k S.P9 xa xn qo S.fo ho hn hJ.1
      rw [hcd, selW_s hx] at h
      exact h
    · have h := c_X8_setOrder l D Z b S.M  S.sv S.sd S.n S.th S.tl S.pl S.ro S.nu S.t S.r xa xn hn hJ.2.1.1.2.2.2.1
      simp only [ifz_s hk0] at h
      exact h

theorem pr_shorten (l : Launch) (hst : l.stackTraces = false) (D : va_G) (Z : Nat → ClassId) (z : Nat → Nat → Nat) (b : Nat → Nat) (qo : Nat) (S : LawS) (hI : LI S)  : ∃ (K : Nat) (N : Int32) (S2 : LawS), LI S2 ∧ S2.th = K ∧ K ≤ 2 ∧ (K = 0 → S2.fo 0 = N.toInt64) ∧ Xh l yL_shorten wsL_shorten 7 132 1 6 D Z [.ref (z 0 0), .ref qo] (czW Z z S ++ joW Z qo S.fo) K (czW Z z S2 ++ joW Z qo S2.fo) ∧ Ci l yX8_shorten wsX8_shorten 1 21 D Z [.ref (b 0)] (mdW Z b S) N (mdW Z b S2) := by
  have hI9 := hI
  obtain ⟨hJ, ho, hn, hH, ht, htl, hti⟩ := hI9
  have e0 := hJ.2.2.1.2.2.1
  have e1 := hJ.2.2.2.1 0 (by decide)
  have b1 := hJ.1.1.2.2.1
  have hsr : (¬ (S.X.1.2.2.2 - 1 = 0) ∧ S.X.2.1 0 ≠ S.X.1.2.2.2 - 1) ↔ (S.M.1.2.2.2 ≠ 1 ∧ S.M.2.1 0 ≠ S.M.1.2.2.2 - 1) := by rw [← e0, ← e1]; omega
  have hlt : (¬ (S.X.1.2.2.2 - 1 = 0) ∧ S.X.2.1 0 ≠ S.X.1.2.2.2 - 1) → S.X.1.2.2.2 ≠ 1 ∧ S.X.2.1 0 ≠ S.X.1.2.2.2 - 1 := fun h => by omega
  rcases kind1 (P := (¬ (S.X.1.2.2.2 - 1 = 0) ∧ S.X.2.1 0 ≠ S.X.1.2.2.2 - 1)) (P' := (S.M.1.2.2.2 ≠ 1 ∧ S.M.2.1 0 ≠ S.M.1.2.2.2 - 1)) eISs hsr with ⟨hp, hx, hk⟩ | ⟨F, hx, hcd, hk0, hk2⟩
  · have hans : nI (S.X.1.2.2.2 - 1) = (nI (S.M.1.2.2.2 - 1)) := congrArg nI (J_sho hJ (hlt hp).1 (hlt hp).2).2.2.1.2.2.1
    refine ⟨0, (nI (S.M.1.2.2.2 - 1)), (LawS.mk (stSho S.X) (mSho S.M) (svO S.o S.n) (svN S.n + 1) (svX S.o S.n S.Y S.X) S.tl S.ti S.ta S.tr S.t S.k S.P9 (vp_updL S.fo 0 (nI (S.X.1.2.2.2 - 1)).toInt64) (svS S.sv S.n S.M) S.sd 0 S.pl S.ro S.nu S.r), ⟨J_sho hJ (hlt hp).1 (hlt hp).2, svO_lt ho, svN_le hn, H_save ho hn hH hJ, ht, htl, hti⟩, rfl, by decide, fun _ => (congrFun LawS_fo 0).trans (upd0.trans (congrArg Int32.toInt64 hans)), ?_, ?_⟩
    · have h := c_L_shorten l hst D Z z S.X S.o S.n S.Y S.tl S.ti S.ta S.tr S.t S.k S.P9  qo S.fo ho hn hJ.1
      rw [cd1_n hx, selW_n hx] at h
      exact h
    · have h := c_X8_shorten l D Z b S.M  S.sv S.sd S.n S.th S.tl S.pl S.ro S.nu S.t S.r  hn hJ.2.1.1.2.2.2.1 hJ.2.1.1.2.2.1 (Nat.lt_of_lt_of_le hJ.2.1.2.1.1 hJ.2.1.1.2.2.2.1)
      rw [hk] at h
      exact h
  · refine ⟨(kC (S.M.1.2.2.2 ≠ 1 ∧ S.M.2.1 0 ≠ S.M.1.2.2.2 - 1) True), nI 0, (LawS.mk S.X S.M S.o S.n S.Y S.tl S.ti S.ta S.tr S.t S.k S.P9 S.fo S.sv S.sd (kC (S.M.1.2.2.2 ≠ 1 ∧ S.M.2.1 0 ≠ S.M.1.2.2.2 - 1) True) S.pl S.ro S.nu S.r), ⟨hJ, ho, hn, hH, ht, htl, hti⟩, rfl, hk2, fun h => absurd h hk0, ?_, ?_⟩
    · have h := c_L_shorten l hst D Z z S.X S.o S.n S.Y S.tl S.ti S.ta S.tr S.t S.k S.P9  qo S.fo ho hn hJ.1
      rw [hcd, selW_s hx] at h
      exact h
    · have h := c_X8_shorten l D Z b S.M  S.sv S.sd S.n S.th S.tl S.pl S.ro S.nu S.t S.r  hn hJ.2.1.1.2.2.2.1 hJ.2.1.1.2.2.1 (Nat.lt_of_lt_of_le hJ.2.1.2.1.1 hJ.2.1.1.2.2.2.1)
      simp only [ifz_s hk0] at h
      exact h

theorem pr_cell (l : Launch) (hst : l.stackTraces = false) (D : va_G) (Z : Nat → ClassId) (z : Nat → Nat → Nat) (b : Nat → Nat) (qo : Nat) (S : LawS) (hI : LI S) (xa xb xd xn : Int32) : ∃ (K : Nat) (N : Int32) (S2 : LawS), LI S2 ∧ S2.th = K ∧ K ≤ 2 ∧ (K = 0 → S2.fo 0 = N.toInt64) ∧ Xh l yL_cell wsL_cell 8 128 2 12 D Z [.ref (z 0 0), .int xa, .int xb, .int xd, .int xn, .ref qo] (czW Z z S ++ joW Z qo S.fo) K (czW Z z S2 ++ joW Z qo S2.fo) ∧ Ci l yX8_cell wsX8_cell 3 67 D Z [.ref (b 0), .int xa, .int xb, .int xd, .int xn] (mdW Z b S) N (mdW Z b S2) := by
  have hI9 := hI
  obtain ⟨hJ, ho, hn, hH, ht, htl, hti⟩ := hI9
  rcases kind2 (P := (celI xa xb xd)) (Q := (rgI 0 3 xn)) (P' := (rgI 0 5 xa ∧ rgI 0 7 xb ∧ rgI 0 3 xd)) (Q' := (rgI 0 3 xn)) eIXs eIAs (by decide) cel_rg Iff.rfl with ⟨hp, hq, hx, hk⟩ | ⟨F, hx, hcd, hk0, hk2⟩
  · have hans : nI (S.X.1.1 (cix (toN xa) (toN xb) (toN xd)) (toN xn)) = (nI (S.M.1.1 (cix (toN xa) (toN xb) (toN xd)) (toN xn))) := congrArg nI (hJ.2.2.1.1 _ (cix_lt (ix_toN (by decide) hp.1) (ix_toN (by decide) hp.2.1) (ix_toN (by decide) hp.2.2)) _ (by have := (rg_toN (by decide) (by decide) hq).2; omega))
    refine ⟨0, (nI (S.M.1.1 (cix (toN xa) (toN xb) (toN xd)) (toN xn))), (LawS.mk S.X S.M S.o S.n S.Y S.tl S.ti S.ta S.tr S.t S.k S.P9 (vp_updL S.fo 0 (nI (S.X.1.1 (cix (toN xa) (toN xb) (toN xd)) (toN xn))).toInt64) S.sv S.sd 0 S.pl S.ro S.nu S.r), ⟨hJ, ho, hn, hH, ht, htl, hti⟩, rfl, by decide, fun _ => (congrFun LawS_fo 0).trans (upd0.trans (congrArg Int32.toInt64 hans)), ?_, ?_⟩
    · have h := c_L_cell l hst D Z z S.X S.o S.n S.Y S.tl S.ti S.ta S.tr S.t S.k S.P9 xa xb xd xn qo S.fo hJ.1
      rw [cd2_n hx, selW_n hx] at h
      exact h
    · have h := c_X8_cell l D Z b S.M  S.sv S.sd S.n S.th S.tl S.pl S.ro S.nu S.t S.r xa xb xd xn 
      rw [hk] at h
      exact h
  · refine ⟨(kC (rgI 0 5 xa ∧ rgI 0 7 xb ∧ rgI 0 3 xd) (rgI 0 3 xn)), nI 0, (LawS.mk S.X S.M S.o S.n S.Y S.tl S.ti S.ta S.tr S.t S.k S.P9 S.fo S.sv S.sd (kC (rgI 0 5 xa ∧ rgI 0 7 xb ∧ rgI 0 3 xd) (rgI 0 3 xn)) S.pl S.ro S.nu S.r), ⟨hJ, ho, hn, hH, ht, htl, hti⟩, rfl, hk2, fun h => absurd h hk0, ?_, ?_⟩
    · have h := c_L_cell l hst D Z z S.X S.o S.n S.Y S.tl S.ti S.ta S.tr S.t S.k S.P9 xa xb xd xn qo S.fo hJ.1
      rw [hcd, selW_s hx] at h
      exact h
    · have h := c_X8_cell l D Z b S.M  S.sv S.sd S.n S.th S.tl S.pl S.ro S.nu S.t S.r xa xb xd xn 
      simp only [ifz_s hk0] at h
      exact h

theorem pr_pattern (l : Launch) (hst : l.stackTraces = false) (D : va_G) (Z : Nat → ClassId) (z : Nat → Nat → Nat) (b : Nat → Nat) (qo : Nat) (S : LawS) (hI : LI S) (xa xn : Int32) : ∃ (K : Nat) (N : Int32) (S2 : LawS), LI S2 ∧ S2.th = K ∧ K ≤ 2 ∧ (K = 0 → S2.fo 0 = N.toInt64) ∧ Xh l yL_pattern wsL_pattern 8 139 2 12 D Z [.ref (z 0 0), .int xa, .int xn, .ref qo] (czW Z z S ++ joW Z qo S.fo) K (czW Z z S2 ++ joW Z qo S2.fo) ∧ Ci l yX8_pattern wsX8_pattern 3 72 D Z [.ref (b 0), .int xa, .int xn] (mdW Z b S) N (mdW Z b S2) := by
  have hI9 := hI
  obtain ⟨hJ, ho, hn, hH, ht, htl, hti⟩ := hI9
  rcases kind2 (P := (ixI 6 xa)) (Q := (rgI 0 4 xn)) (P' := (rgI 0 5 xa)) (Q' := (rgI 0 4 xn)) eIXs eIAs (by decide) (ix_rg (by decide) (by decide)) Iff.rfl with ⟨hp, hq, hx, hk⟩ | ⟨F, hx, hcd, hk0, hk2⟩
  · have hans : nI (factP S.X.1 (toN xa) (toN xn)) = (nI (factP S.M.1 (toN xa) (toN xn))) := congrArg nI (factP_E hJ.1.1 hJ.2.2.1 (ix_toN (by decide) hp) _)
    refine ⟨0, (nI (factP S.M.1 (toN xa) (toN xn))), (LawS.mk S.X S.M S.o S.n S.Y S.tl S.ti S.ta S.tr S.t S.k S.P9 (vp_updL S.fo 0 (nI (factP S.X.1 (toN xa) (toN xn))).toInt64) S.sv S.sd 0 S.pl S.ro S.nu S.r), ⟨hJ, ho, hn, hH, ht, htl, hti⟩, rfl, by decide, fun _ => (congrFun LawS_fo 0).trans (upd0.trans (congrArg Int32.toInt64 hans)), ?_, ?_⟩
    · have h := c_L_pattern l hst D Z z S.X S.o S.n S.Y S.tl S.ti S.ta S.tr S.t S.k S.P9 xa xn qo S.fo hJ.1
      rw [cd2_n hx, selW_n hx] at h
      exact h
    · have h := c_X8_pattern l D Z b S.M  S.sv S.sd S.n S.th S.tl S.pl S.ro S.nu S.t S.r xa xn hJ.2.1.1
      rw [hk] at h
      exact h
  · refine ⟨(kC (rgI 0 5 xa) (rgI 0 4 xn)), nI 0, (LawS.mk S.X S.M S.o S.n S.Y S.tl S.ti S.ta S.tr S.t S.k S.P9 S.fo S.sv S.sd (kC (rgI 0 5 xa) (rgI 0 4 xn)) S.pl S.ro S.nu S.r), ⟨hJ, ho, hn, hH, ht, htl, hti⟩, rfl, hk2, fun h => absurd h hk0, ?_, ?_⟩
    · have h := c_L_pattern l hst D Z z S.X S.o S.n S.Y S.tl S.ti S.ta S.tr S.t S.k S.P9 xa xn qo S.fo hJ.1
      rw [hcd, selW_s hx] at h
      exact h
    · have h := c_X8_pattern l D Z b S.M  S.sv S.sd S.n S.th S.tl S.pl S.ro S.nu S.t S.r xa xn hJ.2.1.1
      simp only [ifz_s hk0] at h
      exact h

theorem pr_order (l : Launch) (hst : l.stackTraces = false) (D : va_G) (Z : Nat → ClassId) (z : Nat → Nat → Nat) (b : Nat → Nat) (qo : Nat) (S : LawS) (hI : LI S) (xa : Int32) : ∃ (K : Nat) (N : Int32) (S2 : LawS), LI S2 ∧ S2.th = K ∧ K ≤ 2 ∧ (K = 0 → S2.fo 0 = N.toInt64) ∧ Xh l yL_order wsL_order 8 124 1 6 D Z [.ref (z 0 0), .int xa, .ref qo] (czW Z z S ++ joW Z qo S.fo) K (czW Z z S2 ++ joW Z qo S2.fo) ∧ Ci l yX8_order wsX8_order 1 25 D Z [.ref (b 0), .int xa] (mdW Z b S) N (mdW Z b S2) := by
  have hI9 := hI
  obtain ⟨hJ, ho, hn, hH, ht, htl, hti⟩ := hI9
  have e0 := hJ.2.2.1.2.2.1
  have b8 := hJ.1.1.2.2.2.1
  have b1 := hJ.1.1.2.2.1
  have horg : ixI S.X.1.2.2.2 xa ↔ rgI 0 (S.M.1.2.2.2 - 1) xa := by rw [← e0]; exact ix_rg b1 (by omega)
  rcases kind1 (P := (ixI S.X.1.2.2.2 xa)) (P' := (rgI 0 (S.M.1.2.2.2 - 1) xa)) eIXs horg with ⟨hp, hx, hk⟩ | ⟨F, hx, hcd, hk0, hk2⟩
  · have hans : nI (S.X.1.2.2.1 (toN xa)) = (nI (S.M.1.2.2.1 (toN xa))) := congrArg nI (hJ.2.2.1.2.2.2 _ (ix_toN (by omega) hp))
    refine ⟨0, (nI (S.M.1.2.2.1 (toN xa))), (LawS.mk S.X S.M S.o S.n S.Y S.tl S.ti S.ta S.tr S.t S.k S.P9 (vp_updL S.fo 0 (nI (S.X.1.2.2.1 (toN xa))).toInt64) S.sv S.sd 0 S.pl S.ro S.nu S.r), ⟨hJ, ho, hn, hH, ht, htl, hti⟩, rfl, by decide, fun _ => (congrFun LawS_fo 0).trans (upd0.trans (congrArg Int32.toInt64 hans)), ?_, ?_⟩
    · have h := c_L_order l hst D Z z S.X S.o S.n S.Y S.tl S.ti S.ta S.tr S.t S.k S.P9 xa qo S.fo hJ.1
      rw [cd1_n hx, selW_n hx] at h
      exact h
    · have h := c_X8_order l D Z b S.M  S.sv S.sd S.n S.th S.tl S.pl S.ro S.nu S.t S.r xa hJ.2.1.1
      rw [hk] at h
      exact h
  · refine ⟨(kC (rgI 0 (S.M.1.2.2.2 - 1) xa) True), nI 0, (LawS.mk S.X S.M S.o S.n S.Y S.tl S.ti S.ta S.tr S.t S.k S.P9 S.fo S.sv S.sd (kC (rgI 0 (S.M.1.2.2.2 - 1) xa) True) S.pl S.ro S.nu S.r), ⟨hJ, ho, hn, hH, ht, htl, hti⟩, rfl, hk2, fun h => absurd h hk0, ?_, ?_⟩
    · have h := c_L_order l hst D Z z S.X S.o S.n S.Y S.tl S.ti S.ta S.tr S.t S.k S.P9 xa qo S.fo hJ.1
      rw [hcd, selW_s hx] at h
      exact h
    · have h := c_X8_order l D Z b S.M  S.sv S.sd S.n S.th S.tl S.pl S.ro S.nu S.t S.r xa hJ.2.1.1
      simp only [ifz_s hk0] at h
      exact h
