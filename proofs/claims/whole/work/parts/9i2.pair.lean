theorem pr_play (l : Launch) (hst : l.stackTraces = false) (D : va_G) (Z : Nat → ClassId) (z : Nat → Nat → Nat) (b : Nat → Nat) (qo : Nat) (S : LawS) (hI : LI S) (xa : Int32) : ∃ (K : Nat) (N : Int32) (S2 : LawS), LI S2 ∧ S2.th = K ∧ K ≤ 2 ∧ (K = 0 → S2.fo 0 = N.toInt64) ∧ Xh l yL_play wsL_play 8 166 2 12 D Z [.ref (z 0 0), .int xa, .ref qo] (czW Z z S ++ joW Z qo S.fo) K (czW Z z S2 ++ joW Z qo S2.fo) ∧ Ci l yX8_play wsX8_play 6 137 D Z [.ref (b 0), .int xa] (mdW Z b S) N (mdW Z b S2) := by
  have hI9 := hI
  obtain ⟨hJ, ho, hn, hH, ht, htl, hti⟩ := hI9
  have e4 := hJ.2.2.2.1 4 (by decide)
  have hpq : S.X.2.1 4 + toN xa ≤ 100000 ↔ S.M.2.1 4 + toN xa ≤ 100000 := by rw [e4]
  rcases kind2 (P := (rgI 1 500 xa)) (Q := (S.X.2.1 4 + toN xa ≤ 100000)) (P' := (rgI 1 500 xa)) (Q' := (S.M.2.1 4 + toN xa ≤ 100000)) eIAs eISs (by decide) Iff.rfl hpq with ⟨hp, hq, hx, hk⟩ | ⟨F, hx, hcd, hk0, hk2⟩
  · have hans : hsN S.X.1 S.X.2 (toN xa) = (hsN S.M.1 S.M.2 (toN xa)) := hsN_E hJ.1.1 hJ.1.2.1 hJ.2.2.1 hJ.2.2.2 _
    refine ⟨0, (hsN S.M.1 S.M.2 (toN xa)), (LawS.mk (S.X.1, tkN S.X.1 S.X.2 (toN xa)) (S.M.1, tkN S.M.1 S.M.2 (toN xa)) (svO S.o S.n) (svN S.n + 1) (svX S.o S.n S.Y S.X) S.tl S.ti S.ta S.tr S.t S.k S.P9 (vp_updL S.fo 0 (hsN S.X.1 S.X.2 (toN xa)).toInt64) (svS S.sv S.n S.M) S.sd 0 S.pl S.ro S.nu S.r), ⟨J_play hJ hq, svO_lt ho, svN_le hn, H_save ho hn hH hJ, ht, htl, hti⟩, rfl, by decide, fun _ => (congrFun LawS_fo 0).trans (upd0.trans (congrArg Int32.toInt64 hans)), ?_, ?_⟩
    · have h := c_L_play l hst D Z z S.X S.o S.n S.Y S.tl S.ti S.ta S.tr S.t S.k S.P9 xa qo S.fo ho hn hJ.1
      rw [cd2_n hx, selW_n hx] at h
      exact h
    · have h := c_X8_play l D Z b S.M  S.sv S.sd S.n S.th S.tl S.pl S.ro S.nu S.t S.r xa hn hJ.2.1
      rw [hk] at h
      exact h
  · refine ⟨(kC (rgI 1 500 xa) (S.M.2.1 4 + toN xa ≤ 100000)), nI 0, (LawS.mk S.X S.M S.o S.n S.Y S.tl S.ti S.ta S.tr S.t S.k S.P9 S.fo S.sv S.sd (kC (rgI 1 500 xa) (S.M.2.1 4 + toN xa ≤ 100000)) S.pl S.ro S.nu S.r), ⟨hJ, ho, hn, hH, ht, htl, hti⟩, rfl, hk2, fun h => absurd h hk0, ?_, ?_⟩
    · have h := c_L_play l hst D Z z S.X S.o S.n S.Y S.tl S.ti S.ta S.tr S.t S.k S.P9 xa qo S.fo ho hn hJ.1
      rw [hcd, selW_s hx] at h
      exact h
    · have h := c_X8_play l D Z b S.M  S.sv S.sd S.n S.th S.tl S.pl S.ro S.nu S.t S.r xa hn hJ.2.1
      simp only [ifz_s hk0] at h
      exact h

theorem pr_steal (l : Launch) (hst : l.stackTraces = false) (D : va_G) (Z : Nat → ClassId) (z : Nat → Nat → Nat) (b : Nat → Nat) (qo : Nat) (S : LawS) (hI : LI S) (xa xn xv : Int32) : ∃ (K : Nat) (N : Int32) (S2 : LawS), LI S2 ∧ S2.th = K ∧ K ≤ 2 ∧ (K = 0 → S2.fo 0 = N.toInt64) ∧ Xh l yL_steal wsL_steal 8 134 3 18 D Z [.ref (z 0 0), .int xa, .int xn, .int xv, .ref qo] (czW Z z S ++ joW Z qo S.fo) K (czW Z z S2 ++ joW Z qo S2.fo) ∧ Ci l yX8_steal wsX8_steal 2 45 D Z [.ref (b 0), .int xa, .int xn, .int xv] (mdW Z b S) N (mdW Z b S2) := by
  have hI9 := hI
  obtain ⟨hJ, ho, hn, hH, ht, htl, hti⟩ := hI9
  rcases kind3 (P := (ixI 4 xa)) (Q := (rgI 1 60 xn)) (Q2 := (rgI 1 99 xv)) (P' := (rgI 0 3 xa)) (Q' := (rgI 1 60 xn)) (Q2' := (rgI 1 99 xv)) eIXs eIAs (by decide) (ix_rg (by decide) (by decide)) Iff.rfl Iff.rfl with ⟨hp, hq, hq2, hx, hk⟩ | ⟨F, hx, hcd, hk0, hk2⟩
  · have hans : nI (S.X.2.2 (toN xa) 2) = (nI (S.M.2.2 (toN xa) 2)) := congrArg nI (hJ.2.2.2.2.1 _ (ix_toN (by decide) hp)).1
    refine ⟨0, (nI (S.M.2.2 (toN xa) 2)), (LawS.mk (S.X.1, stP S.X.2 (toN xa) (toN xn) (toN xv)) (mSt S.M (toN xa) (toN xn) (toN xv)) (svO S.o S.n) (svN S.n + 1) (svX S.o S.n S.Y S.X) S.tl S.ti S.ta S.tr S.t S.k S.P9 (vp_updL S.fo 0 (nI (S.X.2.2 (toN xa) 2)).toInt64) (svS S.sv S.n S.M) S.sd 0 S.pl S.ro S.nu S.r), ⟨J_steal hJ (ix_toN (by decide) hp) (rg_toN (by decide) (by decide) hq).2 (rg_toN (by decide) (by decide) hq2).2, svO_lt ho, svN_le hn, H_save ho hn hH hJ, ht, htl, hti⟩, rfl, by decide, fun _ => (congrFun LawS_fo 0).trans (upd0.trans (congrArg Int32.toInt64 hans)), ?_, ?_⟩
    · have h := c_L_steal l hst D Z z S.X S.o S.n S.Y S.tl S.ti S.ta S.tr S.t S.k S.P9 xa xn xv qo S.fo ho hn hJ.1
      rw [cd2_n hx, selW_n hx] at h
      exact h
    · have h := c_X8_steal l D Z b S.M  S.sv S.sd S.n S.th S.tl S.pl S.ro S.nu S.t S.r xa xn xv hn
      rw [hk] at h
      exact h
  · refine ⟨(kC (rgI 0 3 xa) (rgI 1 60 xn ∧ rgI 1 99 xv)), nI 0, (LawS.mk S.X S.M S.o S.n S.Y S.tl S.ti S.ta S.tr S.t S.k S.P9 S.fo S.sv S.sd (kC (rgI 0 3 xa) (rgI 1 60 xn ∧ rgI 1 99 xv)) S.pl S.ro S.nu S.r), ⟨hJ, ho, hn, hH, ht, htl, hti⟩, rfl, hk2, fun h => absurd h hk0, ?_, ?_⟩
    · have h := c_L_steal l hst D Z z S.X S.o S.n S.Y S.tl S.ti S.ta S.tr S.t S.k S.P9 xa xn xv qo S.fo ho hn hJ.1
      rw [hcd, selW_s hx] at h
      exact h
    · have h := c_X8_steal l D Z b S.M  S.sv S.sd S.n S.th S.tl S.pl S.ro S.nu S.t S.r xa xn xv hn
      simp only [ifz_s hk0] at h
      exact h

theorem pr_giveBack (l : Launch) (hst : l.stackTraces = false) (D : va_G) (Z : Nat → ClassId) (z : Nat → Nat → Nat) (b : Nat → Nat) (qo : Nat) (S : LawS) (hI : LI S) (xa : Int32) : ∃ (K : Nat) (N : Int32) (S2 : LawS), LI S2 ∧ S2.th = K ∧ K ≤ 2 ∧ (K = 0 → S2.fo 0 = N.toInt64) ∧ Xh l yL_giveBack wsL_giveBack 8 132 1 6 D Z [.ref (z 0 0), .int xa, .ref qo] (czW Z z S ++ joW Z qo S.fo) K (czW Z z S2 ++ joW Z qo S2.fo) ∧ Ci l yX8_giveBack wsX8_giveBack 2 45 D Z [.ref (b 0), .int xa] (mdW Z b S) N (mdW Z b S2) := by
  have hI9 := hI
  obtain ⟨hJ, ho, hn, hH, ht, htl, hti⟩ := hI9
  rcases kind1 (P := (ixI 4 xa)) (P' := (rgI 0 3 xa)) eIXs (ix_rg (by decide) (by decide)) with ⟨hp, hx, hk⟩ | ⟨F, hx, hcd, hk0, hk2⟩
  · have hans : nI (S.X.2.2 (toN xa) 2) = (nI (S.M.2.2 (toN xa) 2)) := congrArg nI (hJ.2.2.2.2.1 _ (ix_toN (by decide) hp)).1
    refine ⟨0, (nI (S.M.2.2 (toN xa) 2)), (LawS.mk (S.X.1, stP S.X.2 (toN xa) 0 0) (mGb S.M (toN xa)) (svO S.o S.n) (svN S.n + 1) (svX S.o S.n S.Y S.X) S.tl S.ti S.ta S.tr S.t S.k S.P9 (vp_updL S.fo 0 (nI (S.X.2.2 (toN xa) 2)).toInt64) (svS S.sv S.n S.M) S.sd 0 S.pl S.ro S.nu S.r), ⟨J_gb hJ (ix_toN (by decide) hp), svO_lt ho, svN_le hn, H_save ho hn hH hJ, ht, htl, hti⟩, rfl, by decide, fun _ => (congrFun LawS_fo 0).trans (upd0.trans (congrArg Int32.toInt64 hans)), ?_, ?_⟩
    · have h := c_L_giveBack l hst D Z z S.X S.o S.n S.Y S.tl S.ti S.ta S.tr S.t S.k S.P9 xa qo S.fo ho hn hJ.1
      rw [cd1_n hx, selW_n hx] at h
      exact h
    · have h := c_X8_giveBack l D Z b S.M  S.sv S.sd S.n S.th S.tl S.pl S.ro S.nu S.t S.r xa hn
      rw [hk] at h
      exact h
  · refine ⟨(kC (rgI 0 3 xa) True), nI 0, (LawS.mk S.X S.M S.o S.n S.Y S.tl S.ti S.ta S.tr S.t S.k S.P9 S.fo S.sv S.sd (kC (rgI 0 3 xa) True) S.pl S.ro S.nu S.r), ⟨hJ, ho, hn, hH, ht, htl, hti⟩, rfl, hk2, fun h => absurd h hk0, ?_, ?_⟩
    · have h := c_L_giveBack l hst D Z z S.X S.o S.n S.Y S.tl S.ti S.ta S.tr S.t S.k S.P9 xa qo S.fo ho hn hJ.1
      rw [hcd, selW_s hx] at h
      exact h
    · have h := c_X8_giveBack l D Z b S.M  S.sv S.sd S.n S.th S.tl S.pl S.ro S.nu S.t S.r xa hn
      simp only [ifz_s hk0] at h
      exact h

theorem pr_channel (l : Launch) (hst : l.stackTraces = false) (D : va_G) (Z : Nat → ClassId) (z : Nat → Nat → Nat) (b : Nat → Nat) (qo : Nat) (S : LawS) (hI : LI S) (xa xn : Int32) : ∃ (K : Nat) (N : Int32) (S2 : LawS), LI S2 ∧ S2.th = K ∧ K ≤ 2 ∧ (K = 0 → S2.fo 0 = N.toInt64) ∧ Xh l yL_channel wsL_channel 8 126 2 12 D Z [.ref (z 0 0), .int xa, .int xn, .ref qo] (czW Z z S ++ joW Z qo S.fo) K (czW Z z S2 ++ joW Z qo S2.fo) ∧ Ci l yX8_channel wsX8_channel 4 86 D Z [.ref (b 0), .int xa, .int xn] (mdW Z b S) N (mdW Z b S2) := by
  have hI9 := hI
  obtain ⟨hJ, ho, hn, hH, ht, htl, hti⟩ := hI9
  rcases kind2 (P := (ixI 4 xa)) (Q := (rgI 0 7 xn)) (P' := (rgI 0 3 xa)) (Q' := (rgI 0 7 xn)) eIXs eIAs (by decide) (ix_rg (by decide) (by decide)) Iff.rfl with ⟨hp, hq, hx, hk⟩ | ⟨F, hx, hcd, hk0, hk2⟩
  · have hans : factV (S.X.2.2 (toN xa)) (toN xn) = (factV (S.M.2.2 (toN xa)) (toN xn)) := factV_E (hJ.2.2.2.2.1 _ (ix_toN (by decide) hp)) (hJ.1.2.1.2.2.2.2.2 _ (ix_toN (by decide) hp)).1 (by have := (rg_toN (by decide) (by decide) hq).2; omega)
    refine ⟨0, (factV (S.M.2.2 (toN xa)) (toN xn)), (LawS.mk S.X S.M S.o S.n S.Y S.tl S.ti S.ta S.tr S.t S.k S.P9 (vp_updL S.fo 0 (factV (S.X.2.2 (toN xa)) (toN xn)).toInt64) S.sv S.sd 0 S.pl S.ro S.nu S.r), ⟨hJ, ho, hn, hH, ht, htl, hti⟩, rfl, by decide, fun _ => (congrFun LawS_fo 0).trans (upd0.trans (congrArg Int32.toInt64 hans)), ?_, ?_⟩
    · have h := c_L_channel l hst D Z z S.X S.o S.n S.Y S.tl S.ti S.ta S.tr S.t S.k S.P9 xa xn qo S.fo hJ.1
      rw [cd2_n hx, selW_n hx] at h
      exact h
    · have h := c_X8_channel l D Z b S.M  S.sv S.sd S.n S.th S.tl S.pl S.ro S.nu S.t S.r xa xn hJ.2.1
      rw [hk] at h
      exact h
  · refine ⟨(kC (rgI 0 3 xa) (rgI 0 7 xn)), nI 0, (LawS.mk S.X S.M S.o S.n S.Y S.tl S.ti S.ta S.tr S.t S.k S.P9 S.fo S.sv S.sd (kC (rgI 0 3 xa) (rgI 0 7 xn)) S.pl S.ro S.nu S.r), ⟨hJ, ho, hn, hH, ht, htl, hti⟩, rfl, hk2, fun h => absurd h hk0, ?_, ?_⟩
    · have h := c_L_channel l hst D Z z S.X S.o S.n S.Y S.tl S.ti S.ta S.tr S.t S.k S.P9 xa xn qo S.fo hJ.1
      rw [hcd, selW_s hx] at h
      exact h
    · have h := c_X8_channel l D Z b S.M  S.sv S.sd S.n S.th S.tl S.pl S.ro S.nu S.t S.r xa xn hJ.2.1
      simp only [ifz_s hk0] at h
      exact h

theorem pr_value (l : Launch) (hst : l.stackTraces = false) (D : va_G) (Z : Nat → ClassId) (z : Nat → Nat → Nat) (b : Nat → Nat) (qo : Nat) (S : LawS) (hI : LI S) (xa : Int32) : ∃ (K : Nat) (N : Int32) (S2 : LawS), LI S2 ∧ S2.th = K ∧ K ≤ 2 ∧ (K = 0 → S2.fo 0 = N.toInt64) ∧ Xh l yL_value wsL_value 8 125 1 6 D Z [.ref (z 0 0), .int xa, .ref qo] (czW Z z S ++ joW Z qo S.fo) K (czW Z z S2 ++ joW Z qo S2.fo) ∧ Ci l yX8_value wsX8_value 2 41 D Z [.ref (b 0), .int xa] (mdW Z b S) N (mdW Z b S2) := by
  have hI9 := hI
  obtain ⟨hJ, ho, hn, hH, ht, htl, hti⟩ := hI9
  rcases kind1 (P := (rgI 0 7 xa)) (P' := (rgI 0 7 xa)) eIAs Iff.rfl with ⟨hp, hx, hk⟩ | ⟨F, hx, hcd, hk0, hk2⟩
  · have hans : nI (valF S.X (toN xa)) = (nI (valF S.M (toN xa))) := congrArg nI (valF_E hJ.1 hJ.2.2 (by have := (rg_toN (by decide) (by decide) hp).2; omega))
    refine ⟨0, (nI (valF S.M (toN xa))), (LawS.mk S.X S.M S.o S.n S.Y S.tl S.ti S.ta S.tr S.t S.k S.P9 (vp_updL S.fo 0 (nI (valF S.X (toN xa))).toInt64) S.sv S.sd 0 S.pl S.ro S.nu S.r), ⟨hJ, ho, hn, hH, ht, htl, hti⟩, rfl, by decide, fun _ => (congrFun LawS_fo 0).trans (upd0.trans (congrArg Int32.toInt64 hans)), ?_, ?_⟩
    · have h := c_L_value l hst D Z z S.X S.o S.n S.Y S.tl S.ti S.ta S.tr S.t S.k S.P9 xa qo S.fo hJ.1
      rw [cd1_n hx, selW_n hx] at h
      exact h
    · have h := c_X8_value l D Z b S.M  S.sv S.sd S.n S.th S.tl S.pl S.ro S.nu S.t S.r xa (Nat.lt_of_lt_of_le hJ.2.1.2.1.1 hJ.2.1.1.2.2.2.1)
      rw [hk] at h
      exact h
  · refine ⟨(kC (rgI 0 7 xa) True), nI 0, (LawS.mk S.X S.M S.o S.n S.Y S.tl S.ti S.ta S.tr S.t S.k S.P9 S.fo S.sv S.sd (kC (rgI 0 7 xa) True) S.pl S.ro S.nu S.r), ⟨hJ, ho, hn, hH, ht, htl, hti⟩, rfl, hk2, fun h => absurd h hk0, ?_, ?_⟩
    · have h := c_L_value l hst D Z z S.X S.o S.n S.Y S.tl S.ti S.ta S.tr S.t S.k S.P9 xa qo S.fo hJ.1
      rw [hcd, selW_s hx] at h
      exact h
    · have h := c_X8_value l D Z b S.M  S.sv S.sd S.n S.th S.tl S.pl S.ro S.nu S.t S.r xa (Nat.lt_of_lt_of_le hJ.2.1.2.1.1 hJ.2.1.1.2.2.2.1)
      simp only [ifz_s hk0] at h
      exact h

theorem pr_hashOf (l : Launch) (hst : l.stackTraces = false) (D : va_G) (Z : Nat → ClassId) (z : Nat → Nat → Nat) (b : Nat → Nat) (qo : Nat) (S : LawS) (hI : LI S) (xa : Int32) : ∃ (K : Nat) (N : Int32) (S2 : LawS), LI S2 ∧ S2.th = K ∧ K ≤ 2 ∧ (K = 0 → S2.fo 0 = N.toInt64) ∧ Xh l yL_hashOf wsL_hashOf 8 166 1 6 D Z [.ref (z 0 0), .int xa, .ref qo] (czW Z z S ++ joW Z qo S.fo) K (czW Z z S2 ++ joW Z qo S2.fo) ∧ Ci l yX8_hashOf wsX8_hashOf 7 159 D Z [.ref (b 0), .int xa] (mdW Z b S) N (mdW Z b S2) := by
  have hI9 := hI
  obtain ⟨hJ, ho, hn, hH, ht, htl, hti⟩ := hI9
  rcases kind1 (P := (rgI 0 500 xa)) (P' := (rgI 0 500 xa)) eIAs Iff.rfl with ⟨hp, hx, hk⟩ | ⟨F, hx, hcd, hk0, hk2⟩
  · have hans : hsN S.X.1 S.X.2 (toN xa) = (hsN S.M.1 S.M.2 (toN xa)) := hsN_E hJ.1.1 hJ.1.2.1 hJ.2.2.1 hJ.2.2.2 _
    refine ⟨0, (hsN S.M.1 S.M.2 (toN xa)), (LawS.mk S.X S.M S.o S.n S.Y S.tl S.ti S.ta S.tr S.t S.k (tkN S.X.1 S.X.2 (toN xa)) (vp_updL S.fo 0 (hsN S.X.1 S.X.2 (toN xa)).toInt64) S.sv (enc S.M) 0 S.pl S.ro S.nu S.r), ⟨hJ, ho, hn, hH, ht, htl, hti⟩, rfl, by decide, fun _ => (congrFun LawS_fo 0).trans (upd0.trans (congrArg Int32.toInt64 hans)), ?_, ?_⟩
    · have h := c_L_hashOf l hst D Z z S.X S.o S.n S.Y S.tl S.ti S.ta S.tr S.t S.k S.P9 xa qo S.fo hJ.1
      rw [cd1_n hx, selW_n hx] at h
      exact h
    · have h := c_X8_hashOf l D Z b S.M  S.sv S.sd S.n S.th S.tl S.pl S.ro S.nu S.t S.r xa hJ.2.1
      rw [hk] at h
      exact h
  · refine ⟨(kC (rgI 0 500 xa) True), nI 0, (LawS.mk S.X S.M S.o S.n S.Y S.tl S.ti S.ta S.tr S.t S.k S.P9 S.fo S.sv S.sd (kC (rgI 0 500 xa) True) S.pl S.ro S.nu S.r), ⟨hJ, ho, hn, hH, ht, htl, hti⟩, rfl, hk2, fun h => absurd h hk0, ?_, ?_⟩
    · have h := c_L_hashOf l hst D Z z S.X S.o S.n S.Y S.tl S.ti S.ta S.tr S.t S.k S.P9 xa qo S.fo hJ.1
      rw [hcd, selW_s hx] at h
      exact h
    · have h := c_X8_hashOf l D Z b S.M  S.sv S.sd S.n S.th S.tl S.pl S.ro S.nu S.t S.r xa hJ.2.1
      simp only [ifz_s hk0] at h
      exact h
