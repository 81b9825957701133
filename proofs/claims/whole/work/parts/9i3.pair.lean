theorem pr_silent (l : Launch) (hst : l.stackTraces = false) (D : va_G) (Z : Nat → ClassId) (z : Nat → Nat → Nat) (b : Nat → Nat) (qo : Nat) (S : LawS) (hI : LI S) (xa xn : Int32) : ∃ (K : Nat) (N : Int32) (S2 : LawS), LI S2 ∧ S2.th = K ∧ K ≤ 2 ∧ (K = 0 → S2.fo 0 = N.toInt64) ∧ Xh l yL_silent wsL_silent 8 141 2 12 D Z [.ref (z 0 0), .int xa, .int xn, .ref qo] (czW Z z S ++ joW Z qo S.fo) K (czW Z z S2 ++ joW Z qo S2.fo) ∧ Ci l yX8_silent wsX8_silent 5 112 D Z [.ref (b 0), .int xa, .int xn] (mdW Z b S) N (mdW Z b S2) := by
  have hI9 := hI
  obtain ⟨hJ, ho, hn, hH, ht, htl, hti⟩ := hI9
  rcases kind2 (P := (ixI 4 xa)) (Q := (rgI 1 500 xn)) (P' := (rgI 0 3 xa)) (Q' := (rgI 1 500 xn)) eIXs eIAs (by decide) (ix_rg (by decide) (by decide)) Iff.rfl with ⟨hp, hq, hx, hk⟩ | ⟨F, hx, hcd, hk0, hk2⟩
  · have hans : nI (siN S.X.1 S.X.2 (toN xa) (toN xn)) = (nI (siN S.M.1 S.M.2 (toN xa) (toN xn))) := congrArg nI (siN_E hJ.1.1 hJ.1.2.1 hJ.2.2.1 hJ.2.2.2 (ix_toN (by decide) hp) _)
    refine ⟨0, (nI (siN S.M.1 S.M.2 (toN xa) (toN xn))), (LawS.mk S.X S.M S.o S.n S.Y S.tl S.ti S.ta S.tr S.t S.k (tkN S.X.1 S.X.2 (toN xn)) (vp_updL S.fo 0 (nI (siN S.X.1 S.X.2 (toN xa) (toN xn))).toInt64) S.sv (enc S.M) 0 S.pl S.ro S.nu S.r), ⟨hJ, ho, hn, hH, ht, htl, hti⟩, rfl, by decide, fun _ => (congrFun LawS_fo 0).trans (upd0.trans (congrArg Int32.toInt64 hans)), ?_, ?_⟩
    · have h := c_L_silent l hst D Z z S.X S.o S.n S.Y S.tl S.ti S.ta S.tr S.t S.k S.P9 xa xn qo S.fo hJ.1
      rw [cd2_n hx, selW_n hx] at h
      exact h
    · have h := c_X8_silent l D Z b S.M  S.sv S.sd S.n S.th S.tl S.pl S.ro S.nu S.t S.r xa xn hJ.2.1
      rw [hk] at h
      exact h
  · refine ⟨(kC (rgI 0 3 xa) (rgI 1 500 xn)), nI 0, (LawS.mk S.X S.M S.o S.n S.Y S.tl S.ti S.ta S.tr S.t S.k S.P9 S.fo S.sv S.sd (kC (rgI 0 3 xa) (rgI 1 500 xn)) S.pl S.ro S.nu S.r), ⟨hJ, ho, hn, hH, ht, htl, hti⟩, rfl, hk2, fun h => absurd h hk0, ?_, ?_⟩
    · have h := c_L_silent l hst D Z z S.X S.o S.n S.Y S.tl S.ti S.ta S.tr S.t S.k S.P9 xa xn qo S.fo hJ.1
      rw [hcd, selW_s hx] at h
      exact h
    · have h := c_X8_silent l D Z b S.M  S.sv S.sd S.n S.th S.tl S.pl S.ro S.nu S.t S.r xa xn hJ.2.1
      simp only [ifz_s hk0] at h
      exact h

theorem pr_deepest (l : Launch) (hst : l.stackTraces = false) (D : va_G) (Z : Nat → ClassId) (z : Nat → Nat → Nat) (b : Nat → Nat) (qo : Nat) (S : LawS) (hI : LI S) (xa xn : Int32) : ∃ (K : Nat) (N : Int32) (S2 : LawS), LI S2 ∧ S2.th = K ∧ K ≤ 2 ∧ (K = 0 → S2.fo 0 = N.toInt64) ∧ Xh l yL_deepest wsL_deepest 8 141 2 12 D Z [.ref (z 0 0), .int xa, .int xn, .ref qo] (czW Z z S ++ joW Z qo S.fo) K (czW Z z S2 ++ joW Z qo S2.fo) ∧ Ci l yX8_deepest wsX8_deepest 5 112 D Z [.ref (b 0), .int xa, .int xn] (mdW Z b S) N (mdW Z b S2) := by
  have hI9 := hI
  obtain ⟨hJ, ho, hn, hH, ht, htl, hti⟩ := hI9
  rcases kind2 (P := (ixI 4 xa)) (Q := (rgI 1 500 xn)) (P' := (rgI 0 3 xa)) (Q' := (rgI 1 500 xn)) eIXs eIAs (by decide) (ix_rg (by decide) (by decide)) Iff.rfl with ⟨hp, hq, hx, hk⟩ | ⟨F, hx, hcd, hk0, hk2⟩
  · have hans : nI (deN S.X.1 S.X.2 (toN xa) (toN xn)) = (nI (deN S.M.1 S.M.2 (toN xa) (toN xn))) := congrArg nI (deN_E hJ.1.1 hJ.1.2.1 hJ.2.2.1 hJ.2.2.2 (ix_toN (by decide) hp) _)
    refine ⟨0, (nI (deN S.M.1 S.M.2 (toN xa) (toN xn))), (LawS.mk S.X S.M S.o S.n S.Y S.tl S.ti S.ta S.tr S.t S.k (tkN S.X.1 S.X.2 (toN xn)) (vp_updL S.fo 0 (nI (deN S.X.1 S.X.2 (toN xa) (toN xn))).toInt64) S.sv (enc S.M) 0 S.pl S.ro S.nu S.r), ⟨hJ, ho, hn, hH, ht, htl, hti⟩, rfl, by decide, fun _ => (congrFun LawS_fo 0).trans (upd0.trans (congrArg Int32.toInt64 hans)), ?_, ?_⟩
    · have h := c_L_deepest l hst D Z z S.X S.o S.n S.Y S.tl S.ti S.ta S.tr S.t S.k S.P9 xa xn qo S.fo hJ.1
      rw [cd2_n hx, selW_n hx] at h
      exact h
    · have h := c_X8_deepest l D Z b S.M  S.sv S.sd S.n S.th S.tl S.pl S.ro S.nu S.t S.r xa xn hJ.2.1
      rw [hk] at h
      exact h
  · refine ⟨(kC (rgI 0 3 xa) (rgI 1 500 xn)), nI 0, (LawS.mk S.X S.M S.o S.n S.Y S.tl S.ti S.ta S.tr S.t S.k S.P9 S.fo S.sv S.sd (kC (rgI 0 3 xa) (rgI 1 500 xn)) S.pl S.ro S.nu S.r), ⟨hJ, ho, hn, hH, ht, htl, hti⟩, rfl, hk2, fun h => absurd h hk0, ?_, ?_⟩
    · have h := c_L_deepest l hst D Z z S.X S.o S.n S.Y S.tl S.ti S.ta S.tr S.t S.k S.P9 xa xn qo S.fo hJ.1
      rw [hcd, selW_s hx] at h
      exact h
    · have h := c_X8_deepest l D Z b S.M  S.sv S.sd S.n S.th S.tl S.pl S.ro S.nu S.t S.r xa xn hJ.2.1
      simp only [ifz_s hk0] at h
      exact h

theorem pr_unheard (l : Launch) (hst : l.stackTraces = false) (D : va_G) (Z : Nat → ClassId) (z : Nat → Nat → Nat) (b : Nat → Nat) (qo : Nat) (S : LawS) (hI : LI S) (xa xn : Int32) : ∃ (K : Nat) (N : Int32) (S2 : LawS), LI S2 ∧ S2.th = K ∧ K ≤ 2 ∧ (K = 0 → S2.fo 0 = N.toInt64) ∧ Xh l yL_unheard wsL_unheard 8 140 2 12 D Z [.ref (z 0 0), .int xa, .int xn, .ref qo] (czW Z z S ++ joW Z qo S.fo) K (czW Z z S2 ++ joW Z qo S2.fo) ∧ Ci l yX8_unheard wsX8_unheard 5 112 D Z [.ref (b 0), .int xa, .int xn] (mdW Z b S) N (mdW Z b S2) := by
  have hI9 := hI
  obtain ⟨hJ, ho, hn, hH, ht, htl, hti⟩ := hI9
  rcases kind2 (P := (ixI 4 xa)) (Q := (rgI 1 60 xn)) (P' := (rgI 0 3 xa)) (Q' := (rgI 1 60 xn)) eIXs eIAs (by decide) (ix_rg (by decide) (by decide)) Iff.rfl with ⟨hp, hq, hx, hk⟩ | ⟨F, hx, hcd, hk0, hk2⟩
  · have hans : nI (uhK S.X.1 (stP S.X.2 (toN xa) 0 0) (toN xa) (16 * (16 * (toN xn)) + 15) 99 0) = (nI (uhK S.M.1 (mGb S.M (toN xa)).2 (toN xa) (16 * (16 * (toN xn)) + 15) 99 0)) := congrArg nI (uhK_E hJ.1.1 (stP_PB (ix_toN (by decide) hp) (by decide) (by decide) hJ.1.2.1) hJ.2.2.1 (PE_gb hJ.2.2.2 (ix_toN (by decide) hp)) (ix_toN (by decide) hp) _ _)
    obtain ⟨P2, hP2⟩ : ∃ P2, P2 = (tkN S.X.1 (stP S.X.2 (toN xa) 0 0) (uhM (uhK S.X.1 (stP S.X.2 (toN xa) 0 0) (toN xa) (16 * (16 * (toN xn)) + 15) 99 0))) := ⟨_, rfl⟩
    refine ⟨0, (nI (uhK S.M.1 (mGb S.M (toN xa)).2 (toN xa) (16 * (16 * (toN xn)) + 15) 99 0)), (LawS.mk S.X S.M S.o S.n S.Y S.tl S.ti S.ta S.tr S.t S.k P2 (vp_updL S.fo 0 (nI (uhK S.X.1 (stP S.X.2 (toN xa) 0 0) (toN xa) (16 * (16 * (toN xn)) + 15) 99 0)).toInt64) S.sv (enc S.M) 0 S.pl S.ro S.nu S.r), ⟨hJ, ho, hn, hH, ht, htl, hti⟩, rfl, by decide, fun _ => (congrFun LawS_fo 0).trans (upd0.trans (congrArg Int32.toInt64 hans)), ?_, ?_⟩
    · have h := c_L_unheard l hst D Z z S.X S.o S.n S.Y S.tl S.ti S.ta S.tr S.t S.k S.P9 xa xn qo S.fo hJ.1
      rw [cd2_n hx, selW_n hx, ← hP2] at h
      exact h
    · have h := c_X8_unheard l D Z b S.M  S.sv S.sd S.n S.th S.tl S.pl S.ro S.nu S.t S.r xa xn hJ.2.1
      rw [hk] at h
      exact h
  · refine ⟨(kC (rgI 0 3 xa) (rgI 1 60 xn)), nI 0, (LawS.mk S.X S.M S.o S.n S.Y S.tl S.ti S.ta S.tr S.t S.k S.P9 S.fo S.sv S.sd (kC (rgI 0 3 xa) (rgI 1 60 xn)) S.pl S.ro S.nu S.r), ⟨hJ, ho, hn, hH, ht, htl, hti⟩, rfl, hk2, fun h => absurd h hk0, ?_, ?_⟩
    · have h := c_L_unheard l hst D Z z S.X S.o S.n S.Y S.tl S.ti S.ta S.tr S.t S.k S.P9 xa xn qo S.fo hJ.1
      rw [hcd, selW_s hx] at h
      exact h
    · have h := c_X8_unheard l D Z b S.M  S.sv S.sd S.n S.th S.tl S.pl S.ro S.nu S.t S.r xa xn hJ.2.1
      simp only [ifz_s hk0] at h
      exact h

theorem pr_append (l : Launch) (hst : l.stackTraces = false) (D : va_G) (Z : Nat → ClassId) (z : Nat → Nat → Nat) (b : Nat → Nat) (qo : Nat) (S : LawS) (hI : LI S) (xa : Int32) : ∃ (K : Nat) (N : Int32) (S2 : LawS), LI S2 ∧ S2.th = K ∧ K ≤ 2 ∧ (K = 0 → S2.fo 0 = N.toInt64) ∧ Xh l yL_append wsL_append 8 125 2 12 D Z [.ref (z 0 0), .int xa, .ref qo] (czW Z z S ++ joW Z qo S.fo) K (czW Z z S2 ++ joW Z qo S2.fo) ∧ Ci l yX8_append wsX8_append 1 25 D Z [.ref (b 0), .int xa] (mdW Z b S) N (mdW Z b S2) := by
  have hI9 := hI
  obtain ⟨hJ, ho, hn, hH, ht, htl, hti⟩ := hI9
  rcases kind2 (P := (rgI 0 127 xa)) (Q := (S.tl < 100)) (P' := (rgI 0 127 xa)) (Q' := (S.tl < 100)) eIAs eISs (by decide) Iff.rfl Iff.rfl with ⟨hp, hq, hx, hk⟩ | ⟨F, hx, hcd, hk0, hk2⟩
  · have hans : nI (S.tl + 1) = (nI (S.tl + 1)) := rfl
    refine ⟨0, (nI (S.tl + 1)), (LawS.mk S.X S.M S.o S.n S.Y (S.tl + 1) S.ti S.ta S.tr (un S.t S.tl (toN xa)) S.k S.P9 (vp_updL S.fo 0 (nI (S.tl + 1)).toInt64) S.sv S.sd 0 S.pl S.ro S.nu S.r), ⟨hJ, ho, hn, hH, un_lt ht (Nat.lt_succ_of_le (rg_toN (by decide) (by decide) hp).2), hq, hti⟩, rfl, by decide, fun _ => (congrFun LawS_fo 0).trans (upd0.trans (congrArg Int32.toInt64 hans)), ?_, ?_⟩
    · have h := c_L_append l hst D Z z S.X S.o S.n S.Y S.tl S.ti S.ta S.tr S.t S.k S.P9 xa qo S.fo ht htl
      rw [cd2_n hx, selW_n hx] at h
      exact h
    · have h := c_X8_append l D Z b S.M  S.sv S.sd S.n S.th S.tl S.pl S.ro S.nu S.t S.r xa htl
      rw [hk] at h
      exact h
  · refine ⟨(kC (rgI 0 127 xa) (S.tl < 100)), nI 0, (LawS.mk S.X S.M S.o S.n S.Y S.tl S.ti S.ta S.tr S.t S.k S.P9 S.fo S.sv S.sd (kC (rgI 0 127 xa) (S.tl < 100)) S.pl S.ro S.nu S.r), ⟨hJ, ho, hn, hH, ht, htl, hti⟩, rfl, hk2, fun h => absurd h hk0, ?_, ?_⟩
    · have h := c_L_append l hst D Z z S.X S.o S.n S.Y S.tl S.ti S.ta S.tr S.t S.k S.P9 xa qo S.fo ht htl
      rw [hcd, selW_s hx] at h
      exact h
    · have h := c_X8_append l D Z b S.M  S.sv S.sd S.n S.th S.tl S.pl S.ro S.nu S.t S.r xa htl
      simp only [ifz_s hk0] at h
      exact h

theorem pr_undo (l : Launch) (hst : l.stackTraces = false) (D : va_G) (Z : Nat → ClassId) (z : Nat → Nat → Nat) (b : Nat → Nat) (qo : Nat) (S : LawS) (hI : LI S)  : ∃ (K : Nat) (N : Int32) (S2 : LawS), LI S2 ∧ S2.th = K ∧ K ≤ 2 ∧ (K = 0 → S2.fo 0 = N.toInt64) ∧ Xh l yL_undo wsL_undo 7 131 1 6 D Z [.ref (z 0 0), .ref qo] (czW Z z S ++ joW Z qo S.fo) K (czW Z z S2 ++ joW Z qo S2.fo) ∧ Ci l yX8_undo wsX8_undo 1 21 D Z [.ref (b 0)] (mdW Z b S) N (mdW Z b S2) := by
  have hI9 := hI
  obtain ⟨hJ, ho, hn, hH, ht, htl, hti⟩ := hI9
  obtain ⟨Mi, hy⟩ : ∃ Mi, S.n ≠ 0 → JX (S.Y ((S.o + (S.n - 1)) % 4)) Mi ∧ ∀ j, j < 853 → S.sv (853 * (S.n - 1) + j) = enc Mi j := by
    by_cases h0 : S.n = 0
    · exact ⟨S.M, fun h => absurd h0 h⟩
    · obtain ⟨Mi, h1, h2⟩ := hH (S.n - 1) (by omega)
      exact ⟨Mi, fun _ => ⟨h1, h2⟩⟩
  have hy9 := fun h => (hy h).2
  rcases kind1 (P := (S.n ≠ 0)) (P' := (S.n ≠ 0)) eISs Iff.rfl with ⟨hp, hx, hk⟩ | ⟨F, hx, hcd, hk0, hk2⟩
  · have hans : nI (S.n - 1) = (nI (S.n - 1)) := rfl
    refine ⟨0, (nI (S.n - 1)), (LawS.mk (S.Y ((S.o + (S.n - 1)) % 4)) Mi S.o (S.n - 1) S.Y S.tl S.ti S.ta S.tr S.t S.k S.P9 (vp_updL S.fo 0 (nI (S.n - 1)).toInt64) S.sv S.sd 0 S.pl S.ro S.nu S.r), ⟨(hy hp).1, ho, by show S.n - 1 ≤ 4; omega, fun i hi => hH i (by have hi : i < S.n - 1 := hi; omega), ht, htl, hti⟩, rfl, by decide, fun _ => (congrFun LawS_fo 0).trans (upd0.trans (congrArg Int32.toInt64 hans)), ?_, ?_⟩
    · have h := c_L_undo l hst D Z z S.X S.o S.n S.Y S.tl S.ti S.ta S.tr S.t S.k S.P9  qo S.fo ho hn
      rw [cd1_n hx, selW_n hx] at h
      exact h
    · have h := c_X8_undo l D Z b S.M Mi S.sv S.sd S.n S.th S.tl S.pl S.ro S.nu S.t S.r  hn hy9
      rw [hk] at h
      exact h
  · refine ⟨(kC (S.n ≠ 0) True), nI 0, (LawS.mk S.X S.M S.o S.n S.Y S.tl S.ti S.ta S.tr S.t S.k S.P9 S.fo S.sv S.sd (kC (S.n ≠ 0) True) S.pl S.ro S.nu S.r), ⟨hJ, ho, hn, hH, ht, htl, hti⟩, rfl, hk2, fun h => absurd h hk0, ?_, ?_⟩
    · have h := c_L_undo l hst D Z z S.X S.o S.n S.Y S.tl S.ti S.ta S.tr S.t S.k S.P9  qo S.fo ho hn
      rw [hcd, selW_s hx] at h
      exact h
    · have h := c_X8_undo l D Z b S.M Mi S.sv S.sd S.n S.th S.tl S.pl S.ro S.nu S.t S.r  hn hy9
      simp only [ifz_s hk0] at h
      have hn0 : S.n = 0 := (Classical.em (S.n = 0)).elim id (fun h0 => absurd (kC_0 h0 trivial) hk0)
      have e9 : S.n - 1 = S.n := by omega
      rw [e9] at h
      exact h
