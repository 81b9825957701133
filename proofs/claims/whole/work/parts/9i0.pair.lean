theorem upd0 {f : Nat → Int64} {x : Int64} : vp_updL f 0 x 0 = x := if_pos rfl
theorem un_lt {t : Nat → Nat} {i x : Nat} (h : ∀ j, j < 100 → t j < 128) (hx : x < 128) : ∀ j, j < 100 → un t i x j < 128 := by
  intro j hj
  by_cases e : j = i
  · rw [e, un_eq]; exact hx
  · rw [un_ne e]; exact h j hj

theorem pr_setNote (l : Launch) (hst : l.stackTraces = false) (D : va_G) (Z : Nat → ClassId) (z : Nat → Nat → Nat) (b : Nat → Nat) (qo : Nat) (S : LawS) (hI : LI S) (xa xb xd xn xv : Int32) : ∃ (K : Nat) (N : Int32) (S2 : LawS), LI S2 ∧ S2.th = K ∧ K ≤ 2 ∧ (K = 0 → S2.fo 0 = N.toInt64) ∧ Xh l yL_setNote wsL_setNote 8 138 3 18 D Z [.ref (z 0 0), .int xa, .int xb, .int xd, .int xn, .int xv, .ref qo] (czW Z z S ++ joW Z qo S.fo) K (czW Z z S2 ++ joW Z qo S2.fo) ∧ Ci l yX8_setNote wsX8_setNote 3 67 D Z [.ref (b 0), .int xa, .int xb, .int xd, .int xn, .int xv] (mdW Z b S) N (mdW Z b S2) := by
  have hI9 := hI
  obtain ⟨hJ, ho, hn, hH, ht, htl, hti⟩ := hI9
  rcases kind3 (P := (celI xa xb xd)) (Q := (rgI 0 61 xn)) (Q2 := (rgI 0 15 xv)) (P' := (rgI 0 5 xa ∧ rgI 0 7 xb ∧ rgI 0 3 xd)) (Q' := (rgI 0 61 xn)) (Q2' := (rgI 0 15 xv)) eIXs eIAs (by decide) cel_rg Iff.rfl Iff.rfl with ⟨hp, hq, hq2, hx, hk⟩ | ⟨F, hx, hcd, hk0, hk2⟩
  · have hans : nI (S.X.1.1 (cix (toN xa) (toN xb) (toN xd)) 0) = (nI (S.M.1.1 (cix (toN xa) (toN xb) (toN xd)) 0)) := congrArg nI (hJ.2.2.1.1 _ (cix_lt (ix_toN (by decide) hp.1) (ix_toN (by decide) hp.2.1) (ix_toN (by decide) hp.2.2)) 0 (by decide))
    refine ⟨0, (nI (S.M.1.1 (cix (toN xa) (toN xb) (toN xd)) 0)), (LawS.mk (stNote S.X (cix (toN xa) (toN xb) (toN xd)) (toN xn) (toN xv)) (mNote S.M (cix (toN xa) (toN xb) (toN xd)) (toN xn) (toN xv)) (svO S.o S.n) (svN S.n + 1) (svX S.o S.n S.Y S.X) S.tl S.ti S.ta S.tr S.t S.k S.P9 (vp_updL S.fo 0 (nI (S.X.1.1 (cix (toN xa) (toN xb) (toN xd)) 0)).toInt64) (svS S.sv S.n S.M) S.sd 0 S.pl S.ro S.nu S.r), ⟨J_note hJ (cix_lt (ix_toN (by decide) hp.1) (ix_toN (by decide) hp.2.1) (ix_toN (by decide) hp.2.2)) (rg_toN (by decide) (by decide) hq).2 (rg_toN (by decide) (by decide) hq2).2, svO_lt ho, svN_le hn, H_save ho hn hH hJ, ht, htl, hti⟩, rfl, by decide, fun _ => (congrFun LawS_fo 0).trans (upd0.trans (congrArg Int32.toInt64 hans)), ?_, ?_⟩
    · have h := c_L_setNote l hst D Z z S.X S.o S.n S.Y S.tl S.ti S.ta S.tr S.t S.k S.P9 xa xb xd xn xv qo S.fo ho hn hJ.1
      rw [cd2_n hx, selW_n hx] at h
      exact h
    · have h := c_X8_setNote l D Z b S.M  S.sv S.sd S.n S.th S.tl S.pl S.ro S.nu S.t S.r xa xb xd xn xv hn
      rw [hk] at h
      exact h
  · refine ⟨(kC (rgI 0 5 xa ∧ rgI 0 7 xb ∧ rgI 0 3 xd) (rgI 0 61 xn ∧ rgI 0 15 xv)), nI 0, (LawS.mk S.X S.M S.o S.n S.Y S.tl S.ti S.ta S.tr S.t S.k S.P9 S.fo S.sv S.sd (kC (rgI 0 5 xa ∧ rgI 0 7 xb ∧ rgI 0 3 xd) (rgI 0 61 xn ∧ rgI 0 15 xv)) S.pl S.ro S.nu S.r), ⟨hJ, ho, hn, hH, ht, htl, hti⟩, rfl, hk2, fun h => absurd h hk0, ?_, ?_⟩
    · have h := c_L_setNote l hst D Z z S.X S.o S.n S.Y S.tl S.ti S.ta S.tr S.t S.k S.P9 xa xb xd xn xv qo S.fo ho hn hJ.1
      rw [hcd, selW_s hx] at h
      exact h
    · have h := c_X8_setNote l D Z b S.M  S.sv S.sd S.n S.th S.tl S.pl S.ro S.nu S.t S.r xa xb xd xn xv hn
      simp only [ifz_s hk0] at h
      exact h

theorem pr_setEffect (l : Launch) (hst : l.stackTraces = false) (D : va_G) (Z : Nat → ClassId) (z : Nat → Nat → Nat) (b : Nat → Nat) (qo : Nat) (S : LawS) (hI : LI S) (xa xb xd xn xv : Int32) : ∃ (K : Nat) (N : Int32) (S2 : LawS), LI S2 ∧ S2.th = K ∧ K ≤ 2 ∧ (K = 0 → S2.fo 0 = N.toInt64) ∧ Xh l yL_setEffect wsL_setEffect 8 138 3 18 D Z [.ref (z 0 0), .int xa, .int xb, .int xd, .int xn, .int xv, .ref qo] (czW Z z S ++ joW Z qo S.fo) K (czW Z z S2 ++ joW Z qo S2.fo) ∧ Ci l yX8_setEffect wsX8_setEffect 3 67 D Z [.ref (b 0), .int xa, .int xb, .int xd, .int xn, .int xv] (mdW Z b S) N (mdW Z b S2) := by
  have hI9 := hI
  obtain ⟨hJ, ho, hn, hH, ht, htl, hti⟩ := hI9
  rcases kind3 (P := (celI xa xb xd)) (Q := (rgI 0 7 xn)) (Q2 := (rgI 0 9 xv)) (P' := (rgI 0 5 xa ∧ rgI 0 7 xb ∧ rgI 0 3 xd)) (Q' := (rgI 0 7 xn)) (Q2' := (rgI 0 9 xv)) eIXs eIAs (by decide) cel_rg Iff.rfl Iff.rfl with ⟨hp, hq, hq2, hx, hk⟩ | ⟨F, hx, hcd, hk0, hk2⟩
  · have hans : nI (S.X.1.1 (cix (toN xa) (toN xb) (toN xd)) 2) = (nI (S.M.1.1 (cix (toN xa) (toN xb) (toN xd)) 2)) := congrArg nI (hJ.2.2.1.1 _ (cix_lt (ix_toN (by decide) hp.1) (ix_toN (by decide) hp.2.1) (ix_toN (by decide) hp.2.2)) 2 (by decide))
    refine ⟨0, (nI (S.M.1.1 (cix (toN xa) (toN xb) (toN xd)) 2)), (LawS.mk (stEff S.X (cix (toN xa) (toN xb) (toN xd)) (toN xn) (toN xv)) (mEff S.M (cix (toN xa) (toN xb) (toN xd)) (toN xn) (toN xv)) (svO S.o S.n) (svN S.n + 1) (svX S.o S.n S.Y S.X) S.tl S.ti S.ta S.tr S.t S.k S.P9 (vp_updL S.fo 0 (nI (S.X.1.1 (cix (toN xa) (toN xb) (toN xd)) 2)).toInt64) (svS S.sv S.n S.M) S.sd 0 S.pl S.ro S.nu S.r), ⟨J_eff hJ (cix_lt (ix_toN (by decide) hp.1) (ix_toN (by decide) hp.2.1) (ix_toN (by decide) hp.2.2)) (rg_toN (by decide) (by decide) hq).2 (rg_toN (by decide) (by decide) hq2).2, svO_lt ho, svN_le hn, H_save ho hn hH hJ, ht, htl, hti⟩, rfl, by decide, fun _ => (congrFun LawS_fo 0).trans (upd0.trans (congrArg Int32.toInt64 hans)), ?_, ?_⟩
    · have h := c_L_setEffect l hst D Z z S.X S.o S.n S.Y S.tl S.ti S.ta S.tr S.t S.k S.P9 xa xb xd xn xv qo S.fo ho hn hJ.1
      rw [cd2_n hx, selW_n hx] at h
      exact h
    · have h := c_X8_setEffect l D Z b S.M  S.sv S.sd S.n S.th S.tl S.pl S.ro S.nu S.t S.r xa xb xd xn xv hn
      rw [hk] at h
      exact h
  · refine ⟨(kC (rgI 0 5 xa ∧ rgI 0 7 xb ∧ rgI 0 3 xd) (rgI 0 7 xn ∧ rgI 0 9 xv)), nI 0, (LawS.mk S.X S.M S.o S.n S.Y S.tl S.ti S.ta S.tr S.t S.k S.P9 S.fo S.sv S.sd (kC (rgI 0 5 xa ∧ rgI 0 7 xb ∧ rgI 0 3 xd) (rgI 0 7 xn ∧ rgI 0 9 xv)) S.pl S.ro S.nu S.r), ⟨hJ, ho, hn, hH, ht, htl, hti⟩, rfl, hk2, fun h => absurd h hk0, ?_, ?_⟩
    · have h := c_L_setEffect l hst D Z z S.X S.o S.n S.Y S.tl S.ti S.ta S.tr S.t S.k S.P9 xa xb xd xn xv qo S.fo ho hn hJ.1
      rw [hcd, selW_s hx] at h
      exact h
    · have h := c_X8_setEffect l D Z b S.M  S.sv S.sd S.n S.th S.tl S.pl S.ro S.nu S.t S.r xa xb xd xn xv hn
      simp only [ifz_s hk0] at h
      exact h

theorem pr_setRows (l : Launch) (hst : l.stackTraces = false) (D : va_G) (Z : Nat → ClassId) (z : Nat → Nat → Nat) (b : Nat → Nat) (qo : Nat) (S : LawS) (hI : LI S) (xa xn : Int32) : ∃ (K : Nat) (N : Int32) (S2 : LawS), LI S2 ∧ S2.th = K ∧ K ≤ 2 ∧ (K = 0 → S2.fo 0 = N.toInt64) ∧ Xh l yL_setRows wsL_setRows 8 134 2 12 D Z [.ref (z 0 0), .int xa, .int xn, .ref qo] (czW Z z S ++ joW Z qo S.fo) K (czW Z z S2 ++ joW Z qo S2.fo) ∧ Ci l yX8_setRows wsX8_setRows 2 45 D Z [.ref (b 0), .int xa, .int xn] (mdW Z b S) N (mdW Z b S2) := by
  have hI9 := hI
  obtain ⟨hJ, ho, hn, hH, ht, htl, hti⟩ := hI9
  rcases kind2 (P := (ixI 6 xa)) (Q := (rgI 1 8 xn)) (P' := (rgI 0 5 xa)) (Q' := (rgI 1 8 xn)) eIXs eIAs (by decide) (ix_rg (by decide) (by decide)) Iff.rfl with ⟨hp, hq, hx, hk⟩ | ⟨F, hx, hcd, hk0, hk2⟩
  · have hans : nI (S.X.1.2.1 (toN xa)) = (nI (S.M.1.2.1 (toN xa))) := congrArg nI (hJ.2.2.1.2.1 _ (ix_toN (by decide) hp))
    refine ⟨0, (nI (S.M.1.2.1 (toN xa))), (LawS.mk (stRows S.X (toN xa) (toN xn)) (stRows S.M (toN xa) (toN xn)) (svO S.o S.n) (svN S.n + 1) (svX S.o S.n S.Y S.X) S.tl S.ti S.ta S.tr S.t S.k S.P9 (vp_updL S.fo 0 (nI (S.X.1.2.1 (toN xa))).toInt64) (svS S.sv S.n S.M) S.sd 0 S.pl S.ro S.nu S.r), ⟨J_rows hJ (rg_toN (by decide) (by decide) hq).1 (rg_toN (by decide) (by decide) hq).2, svO_lt ho, svN_le hn, H_save ho hn hH hJ, ht, htl, hti⟩, rfl, by decide, fun _ => (congrFun LawS_fo 0).trans (upd0.trans (congrArg Int32.toInt64 hans)), ?_, ?_⟩
    · have h := c_L_setRows l hst D Z z S.X S.o S.n S.Y S.tl S.ti S.ta S.tr S.t S.k S.P9 xa xn qo S.fo ho hn hJ.1
      rw [cd2_n hx, selW_n hx] at h
      exact h
    · have h := c_X8_setRows l D Z b S.M  S.sv S.sd S.n S.th S.tl S.pl S.ro S.nu S.t S.r xa xn hn
      rw [hk] at h
      exact h
  · refine ⟨(kC (rgI 0 5 xa) (rgI 1 8 xn)), nI 0, (LawS.mk S.X S.M S.o S.n S.Y S.tl S.ti S.ta S.tr S.t S.k S.P9 S.fo S.sv S.sd (kC (rgI 0 5 xa) (rgI 1 8 xn)) S.pl S.ro S.nu S.r), ⟨hJ, ho, hn, hH, ht, htl, hti⟩, rfl, hk2, fun h => absurd h hk0, ?_, ?_⟩
    · have h := c_L_setRows l hst D Z z S.X S.o S.n S.Y S.tl S.ti S.ta S.tr S.t S.k S.P9 xa xn qo S.fo ho hn hJ.1
      rw [hcd, selW_s hx] at h
      exact h
    · have h := c_X8_setRows l D Z b S.M  S.sv S.sd S.n S.th S.tl S.pl S.ro S.nu S.t S.r xa xn hn
      simp only [ifz_s hk0] at h
      exact h
