theorem dc_self : ∀ k, k < 61 → Op.cmpValue (FP.dcmp (FP.ddiv (FP.i2d (nI k)) 4616189618054758400) (FP.ddiv (FP.i2d (nI k)) 4616189618054758400)) .l = 0 := by decide +kernel
theorem rtd_b {c : Nat → Nat} {pa ro : Nat} : (rtd c pa ro).2.1 ≤ 1000 := by
  have h1 := (rrs_b (c := c) 8 0 2 (fun _ => eC) (fun _ => eC_rb)).1
  unfold rtd
  split
  · show (rhd c pa).2.1 ≤ 1000
    unfold rhd
    repeat' split
    all_goals (dsimp only; omega)
  · show (rrs c 8 0 2 (fun _ => eC)).2.1 ≤ 1000
    omega

theorem pd_restart (l : Launch) (D : va_G) (Z : Nat → ClassId) (z : Nat → Nat → Nat) (b : Nat → Nat) (S : LawS) (hI : LI S) : ∃ (N : Int32) (S2 : LawS), LI S2 ∧ S2.fo = S.fo ∧ Ci l yX7_restart wsX7_restart 5 111 D Z [.ref (z 0 0)] (czW Z z S) N (czW Z z S2) ∧ Ci l yX8_restart wsX8_restart 1 21 D Z [.ref (b 0)] (mdW Z b S) N (mdW Z b S2) := by
  have hI9 := hI
  obtain ⟨hJ, ho, hn, hH, ht, htl, hti⟩ := hI9
  have hans : nI (S.X.2.1 4) = nI (S.M.2.1 4) := congrArg nI (hJ.2.2.2.1 4 (by decide))
  refine ⟨nI (S.M.2.1 4), (LawS.mk (S.X.1, gbP S.X.2) (S.M.1, bgM) (svO S.o S.n) (svN S.n + 1) (svX S.o S.n S.Y S.X) S.tl S.ti S.ta S.tr S.t S.k S.P9 S.fo (svS S.sv S.n S.M) S.sd 0 S.pl S.ro S.nu S.r), ⟨J_restart hJ, svO_lt ho, svN_le hn, H_save ho hn hH hJ, ht, htl, hti⟩, rfl, ?_, ?_⟩
  · have h := c_X7_restart l D Z z S.X S.o S.n S.Y S.tl S.ti S.ta S.tr S.t S.k S.P9 ho hn hJ.1
    rw [hans] at h
    exact h
  · have h := c_X8_restart l D Z b S.M S.sv S.sd S.n S.th S.tl S.pl S.ro S.nu S.t S.r  hn
    exact h

theorem pd_ticksToRound (l : Launch) (D : va_G) (Z : Nat → ClassId) (z : Nat → Nat → Nat) (b : Nat → Nat) (S : LawS) (hI : LI S) : ∃ (N : Int32) (S2 : LawS), LI S2 ∧ S2.fo = S.fo ∧ Ci l yX7_ticksToRound wsX7_ticksToRound 5 117 D Z [.ref (z 0 0)] (czW Z z S) N (czW Z z S2) ∧ Ci l yX8_ticksToRound wsX8_ticksToRound 5 112 D Z [.ref (b 0)] (mdW Z b S) N (mdW Z b S2) := by
  have hI9 := hI
  obtain ⟨hJ, ho, hn, hH, ht, htl, hti⟩ := hI9
  have hans : rtA (rtK S.X.1 S.X.2 1000 1) = rtA (rtK S.M.1 S.M.2 1000 1) := congrArg rtA (rtK_E hJ.1.1 hJ.1.2.1 hJ.2.2.1 hJ.2.2.2 _ _)
  refine ⟨rtA (rtK S.M.1 S.M.2 1000 1), (LawS.mk S.X S.M S.o S.n S.Y S.tl S.ti S.ta S.tr S.t S.k (tkN S.X.1 S.X.2 (rtM (rtK S.X.1 S.X.2 1000 1))) S.fo S.sv (enc S.M) 0 S.pl S.ro S.nu S.r), ⟨hJ, ho, hn, hH, ht, htl, hti⟩, rfl, ?_, ?_⟩
  · have h := c_X7_ticksToRound l D Z z S.X S.o S.n S.Y S.tl S.ti S.ta S.tr S.t S.k S.P9 hJ.1
    rw [hans] at h
    exact h
  · have h := c_X8_ticksToRound l D Z b S.M S.sv S.sd S.n S.th S.tl S.pl S.ro S.nu S.t S.r  hJ.2.1
    exact h

theorem pd_meanVolume (l : Launch) (D : va_G) (Z : Nat → ClassId) (z : Nat → Nat → Nat) (b : Nat → Nat) (S : LawS) (hI : LI S) : ∃ (N : UInt64) (S2 : LawS), LI S2 ∧ S2.fo = S.fo ∧ Op.cmpValue (FP.dcmp N N) .l = 0 ∧ Cd l yX7_meanVolume wsX7_meanVolume 0 0 D Z [.ref (z 0 0)] (czW Z z S) N (czW Z z S2) ∧ Cd l yX8_meanVolume wsX8_meanVolume 2 43 D Z [.ref (b 0)] (mdW Z b S) N (mdW Z b S2) := by
  have hI9 := hI
  obtain ⟨hJ, ho, hn, hH, ht, htl, hti⟩ := hI9
  have hans : mvD S.X = mvD S.M := mvD_E hJ.2.2
  refine ⟨mvD S.M, (LawS.mk S.X S.M S.o S.n S.Y S.tl S.ti S.ta S.tr S.t S.k S.P9 S.fo S.sv S.sd 0 S.pl S.ro S.nu S.r), ⟨hJ, ho, hn, hH, ht, htl, hti⟩, rfl, ?_, ?_, ?_⟩
  · rw [← hans]; exact dc_self _ (by have := cnt_15 (f := fun c => S.X.2.2 c 1) 4 (by decide) (fun c hc => (hJ.1.2.1.2.2.2.2.2 c hc).1.2.1); omega)
  · have h := c_X7_meanVolume l D Z z S.X S.o S.n S.Y S.tl S.ti S.ta S.tr S.t S.k S.P9 hJ.1
    rw [hans] at h
    exact h
  · have h := c_X8_meanVolume l D Z b S.M S.sv S.sd S.n S.th S.tl S.pl S.ro S.nu S.t S.r  hJ.2.1
    exact h

theorem pd_clearText (l : Launch) (D : va_G) (Z : Nat → ClassId) (z : Nat → Nat → Nat) (b : Nat → Nat) (S : LawS) (hI : LI S) : ∃ (N : Int32) (S2 : LawS), LI S2 ∧ S2.fo = S.fo ∧ Ci l yX7_clearText wsX7_clearText 0 0 D Z [.ref (z 0 0)] (czW Z z S) N (czW Z z S2) ∧ Ci l yX8_clearText wsX8_clearText 1 21 D Z [.ref (b 0)] (mdW Z b S) N (mdW Z b S2) := by
  have hI9 := hI
  obtain ⟨hJ, ho, hn, hH, ht, htl, hti⟩ := hI9
  have hans : nI S.tl = nI S.tl := rfl
  refine ⟨nI S.tl, (LawS.mk S.X S.M S.o S.n S.Y 0 S.ti S.ta S.tr S.t S.k S.P9 S.fo S.sv S.sd 0 S.pl S.ro S.nu S.r), ⟨hJ, ho, hn, hH, ht, Nat.zero_le _, hti⟩, rfl, ?_, ?_⟩
  · have h := c_X7_clearText l D Z z S.X S.o S.n S.Y S.tl S.ti S.ta S.tr S.t S.k S.P9 
    exact h
  · have h := c_X8_clearText l D Z b S.M S.sv S.sd S.n S.th S.tl S.pl S.ro S.nu S.t S.r  
    exact h

theorem pd_parse (l : Launch) (D : va_G) (Z : Nat → ClassId) (z : Nat → Nat → Nat) (b : Nat → Nat) (S : LawS) (hI : LI S) : ∃ (N : Int32) (S2 : LawS), LI S2 ∧ S2.fo = S.fo ∧ Ci l yX7_parse wsX7_parse 6 131 D Z [.ref (z 0 0)] (czW Z z S) N (czW Z z S2) ∧ Ci l yX8_parse wsX8_parse 5 111 D Z [.ref (b 0)] (mdW Z b S) N (mdW Z b S2) := by
  have hI9 := hI
  obtain ⟨hJ, ho, hn, hH, ht, htl, hti⟩ := hI9
  have hLI : JX (ifz (rtd (cx S.t S.tl) S.ta S.tr).1 S.X (stPat S.X (rtd (cx S.t S.tl) S.ta S.tr).2.2.1 (rtd (cx S.t S.tl) S.ta S.tr).2.2.2.1 (rtd (cx S.t S.tl) S.ta S.tr).2.2.2.2)) (ifz (rtd (cx S.t S.tl) S.ta S.tr).1 S.M (stPat S.M (rtd (cx S.t S.tl) S.ta S.tr).2.2.1 (rtd (cx S.t S.tl) S.ta S.tr).2.2.2.1 (rtd (cx S.t S.tl) S.ta S.tr).2.2.2.2)) ∧ ifz (rtd (cx S.t S.tl) S.ta S.tr).1 S.o (svO S.o S.n) < 4 ∧ ifz (rtd (cx S.t S.tl) S.ta S.tr).1 S.n (svN S.n + 1) ≤ 4 ∧ HJ (ifz (rtd (cx S.t S.tl) S.ta S.tr).1 S.o (svO S.o S.n)) (ifz (rtd (cx S.t S.tl) S.ta S.tr).1 S.n (svN S.n + 1)) (ifz (rtd (cx S.t S.tl) S.ta S.tr).1 S.Y (svX S.o S.n S.Y S.X)) (ifz (rtd (cx S.t S.tl) S.ta S.tr).1 S.sv (svS S.sv S.n S.M)) ∧ (∀ j, j < 100 → S.t j < 128) ∧ S.tl ≤ 100 ∧ (rtd (cx S.t S.tl) S.ta S.tr).2.1 ≤ 1000 := by
    by_cases h0 : (rtd (cx S.t S.tl) S.ta S.tr).1 = 0
    · simp only [ifz_0 h0]
      exact ⟨hJ, ho, hn, hH, ht, htl, rtd_b⟩
    · have hok := rtd_ok h0
      simp only [ifz_s h0]
      exact ⟨J_pat hJ hok.2.2.1 hok.2.2.2.1 hok.2.2.2.2, svO_lt ho, svN_le hn, H_save ho hn hH hJ, ht, htl, rtd_b⟩
  have hans : prA (rtd (cx S.t S.tl) S.ta S.tr) = prA (rtd (cx S.t S.tl) S.ta S.tr) := rfl
  refine ⟨prA (rtd (cx S.t S.tl) S.ta S.tr), (LawS.mk (ifz (rtd (cx S.t S.tl) S.ta S.tr).1  S.X (stPat S.X (rtd (cx S.t S.tl) S.ta S.tr).2.2.1 (rtd (cx S.t S.tl) S.ta S.tr).2.2.2.1 (rtd (cx S.t S.tl) S.ta S.tr).2.2.2.2)) (ifz (rtd (cx S.t S.tl) S.ta S.tr).1  S.M (stPat S.M (rtd (cx S.t S.tl) S.ta S.tr).2.2.1 (rtd (cx S.t S.tl) S.ta S.tr).2.2.2.1 (rtd (cx S.t S.tl) S.ta S.tr).2.2.2.2)) (ifz (rtd (cx S.t S.tl) S.ta S.tr).1  S.o (svO S.o S.n)) (ifz (rtd (cx S.t S.tl) S.ta S.tr).1  S.n (svN S.n + 1)) (ifz (rtd (cx S.t S.tl) S.ta S.tr).1  S.Y (svX S.o S.n S.Y S.X)) S.tl ((rtd (cx S.t S.tl) S.ta S.tr).2.1) ((rtd (cx S.t S.tl) S.ta S.tr).2.2.1) ((rtd (cx S.t S.tl) S.ta S.tr).2.2.2.1) S.t ((rtd (cx S.t S.tl) S.ta S.tr).2.2.2.2) S.P9 S.fo (ifz (rtd (cx S.t S.tl) S.ta S.tr).1  S.sv (svS S.sv S.n S.M)) S.sd 0 ((rqt (cx S.t S.tl) S.tl S.nu S.r).2.1) ((rqt (cx S.t S.tl) S.tl S.nu S.r).2.2.1) ((rqt (cx S.t S.tl) S.tl S.nu S.r).2.2.2.1) ((rqt (cx S.t S.tl) S.tl S.nu S.r).2.2.2.2)), hLI, rfl, ?_, ?_⟩
  · have h := c_X7_parse l D Z z S.X S.o S.n S.Y S.tl S.ti S.ta S.tr S.t S.k S.P9 ht htl hti ho hn
    exact h
  · have h := c_X8_parse l D Z b S.M S.sv S.sd S.n S.th S.tl S.pl S.ro S.nu S.t S.r S.ta S.tr ht htl hn
    exact h

theorem pd_digest (l : Launch) (D : va_G) (Z : Nat → ClassId) (z : Nat → Nat → Nat) (b : Nat → Nat) (S : LawS) (hI : LI S) : ∃ (N : Int64) (S2 : LawS), LI S2 ∧ S2.fo = S.fo ∧ Cl l yX7_digest wsX7_digest 6 146 D Z [.ref (z 0 0)] (czW Z z S) N (czW Z z S2) ∧ Cl l yX8_digest wsX8_digest 7 159 D Z [.ref (b 0)] (mdW Z b S) N (mdW Z b S2) := by
  have hI9 := hI
  obtain ⟨hJ, ho, hn, hH, ht, htl, hti⟩ := hI9
  obtain ⟨m40, hm40⟩ : ∃ m9, m9 = 40 := ⟨40, rfl⟩
  have hans : dgA S.X S.tl S.n = dgA S.M S.tl S.n := dgA_E hJ.1 hJ.2.2
  refine ⟨dgA S.M S.tl S.n, (LawS.mk S.X S.M S.o S.n S.Y S.tl S.ti S.ta S.tr S.t S.k (tkN S.X.1 S.X.2 m40) S.fo S.sv (enc S.M) 0 S.pl S.ro S.nu S.r), ⟨hJ, ho, hn, hH, ht, htl, hti⟩, rfl, ?_, ?_⟩
  · have h := c_X7_digest l D Z z S.X S.o S.n S.Y S.tl S.ti S.ta S.tr S.t S.k S.P9 hJ.1 ho hn
    rw [hans, ← hm40] at h
    exact h
  · have h := c_X8_digest l D Z b S.M S.sv S.sd S.n S.th S.tl S.pl S.ro S.nu S.t S.r  hJ.2.1
    exact h
