/-! the law's loop -/
theorem and31 (x : Int32) : ∃ k, k < 32 ∧ x &&& nI 31 = nI k := by
  refine ⟨(x &&& nI 31).toBitVec.toNat, ?_, ?_⟩
  · rw [Int32.toBitVec_and, BitVec.toNat_and]
    have : (nI 31).toBitVec.toNat = 31 := by decide
    rw [this]
    exact Nat.lt_of_le_of_lt Nat.and_le_right (by decide)
  · apply Int32.toBitVec_inj.1
    show _ = BitVec.ofNat 32 _
    rw [BitVec.ofNat_toNat, BitVec.setWidth_eq]
set_option maxRecDepth 100000 in
set_option maxHeartbeats 4000000 in
theorem law_loop (l : Launch) (hst : l.stackTraces = false) (D : va_G) (Z : Nat → ClassId) (z : Nat → Nat → Nat) (b : Nat → Nat) (qo bs L : Nat) (xs : Nat → Int32) {p : Program} {e : Env} {s : State} {m : MethodId} {args : Array Value} {below : List Frame} {meth : Method} {c : Code} {A : Nat → Prop} {Q : State → Prop} (S : CallFix p m c cL_law 9 s args wsL_law RL) (X9 : XT A s s.heap) (hnc : NC s) (hscr : Scr bs L xs A s)
    (kend : ∀ (H : Heap) (locs : List Loc) (ls : Array Slot) (cells slots : Nat), cells ≤ 3000 → slots ≤ 30000 → va_S A s.heap H locs → W p l e room_1 s m args below meth c H locs cells slots Q (F0 m 1549 ls [])) :
    ∀ (n j : Nat) (T : LawS) (H : Heap) (locs : List Loc) (ls : Array Slot), LI T → 6 * j ≤ L + 5 → L + 6 - 6 * j < n → lv_has ls 9 [(0, .ref bs), (1, .ref (z 0 0)), (2, .ref (b 0)), (3, .ref qo), (4, vI (6 * j))] → Wd D Z A s (czW Z z T ++ joW Z qo T.fo ++ mdW Z b T) H locs → W p l e room_1 s m args below meth c H locs (300 + 3 * j) (8000 + 18 * j) Q (F0 m 23 ls []) := by
  intro n
  have hL := hscr.2.2.2
  induction n with
  | zero => intro j T H locs ls _ _ hm; exact absurd hm (Nat.not_lt_zero _)
  | succ n ih =>
    intro j T H locs ls hI hj hm hl w
    refine lv_iload S.1 S.2.1 dL_law_23 (lv_at hl 4 rfl) ?_
    refine lv_aload_n S.1 S.2.1 dL_law_25 rfl (lv_at hl 0 rfl) ?_
    refine nl_slen S w hscr dL_law_26 ?_
    refine lv_bipush (v := nI 6) S.1 S.2.1 dL_law_27 (by decide +kernel) ?_
    refine lv_isub S.1 S.2.1 dL_law_29 ?_
    refine lv_icmp_gt (tgt := 1549) S.1 S.2.1 dL_law_30 (by decide) (fun h => ?_) (fun h => ?_)
    · exact kend H locs ls _ _ (by omega) (by omega) w.2.2.2.1
    · have hi : 6 * j + 6 ≤ L := nI_subL hL (by omega) h
      have kk9 : ∀ (T2 : LawS) (H2 : Heap) (locs2 : List Loc) (ls2 : Array Slot), LI T2 → lv_has ls2 9 [(0, .ref bs), (1, .ref (z 0 0)), (2, .ref (b 0)), (3, .ref qo), (4, vI (6 * j))] → Wd D Z A s (czW Z z T2 ++ joW Z qo T2.fo ++ mdW Z b T2) H2 locs2 → W p l e room_1 s m args below meth c H2 locs2 (300 + 3 * j + 3) (8000 + 18 * j + 18) Q (F0 m 1543 ls2 []) := by
        intro T2 H2 locs2 ls2 hI2 hl w
        refine lv_iinc (v := nI (6 * j + 6)) (lv' := [(4, vI (6 * j + 6)), (0, .ref bs), (1, .ref (z 0 0)), (2, .ref (b 0)), (3, .ref qo)]) S.1 S.2.1 dL_law_1543 hl (k := 4) rfl (nI_incI (6 * j) 6) (by decide) rfl (fun ls hl => ?_)
        refine lv_goto (tgt := 23) S.1 S.2.1 dL_law_1546 (by decide) ?_
        exact ih (j + 1) T2 H2 locs2 ls hI2 (by omega) (by omega) (lv_sub hl [1, 2, 3, 4, 0] rfl) w
      refine lv_aload_n S.1 S.2.1 dL_law_33 rfl (lv_at hl 0 rfl) ?_
      refine lv_iload S.1 S.2.1 dL_law_34 (lv_at hl 4 rfl) ?_
      refine nl_sld S w hscr (i := 6 * j) (by omega) dL_law_36 ?_
      refine lv_bipush (v := nI 31) S.1 S.2.1 dL_law_37 (by decide +kernel) ?_
      refine lv_iand S.1 S.2.1 dL_law_39 ?_
      obtain ⟨k, hk, ek⟩ := and31 (xs (6 * j))
      refine W.eq (g2 := F0 m 40 ls [vI k]) (by rw [ek]) ?_
      by_cases hk25 : 25 ≤ k
      · refine nv_tableOut S (by omega) dL_law_40 (by omega) (tgt := 1543) (by decide) ?_
        refine W.widen (k := 300 + 3 * j + 3) (n := 8000 + 18 * j + 18) (by omega) (by omega) ?_
        exact kk9 T H locs ls hI hl w
      obtain rfl | rfl | rfl | rfl | rfl | rfl | rfl | rfl | rfl | rfl | rfl | rfl | rfl | rfl | rfl | rfl | rfl | rfl | rfl | rfl | rfl | rfl | rfl | rfl | rfl : k = 0 ∨ k = 1 ∨ k = 2 ∨ k = 3 ∨ k = 4 ∨ k = 5 ∨ k = 6 ∨ k = 7 ∨ k = 8 ∨ k = 9 ∨ k = 10 ∨ k = 11 ∨ k = 12 ∨ k = 13 ∨ k = 14 ∨ k = 15 ∨ k = 16 ∨ k = 17 ∨ k = 18 ∨ k = 19 ∨ k = 20 ∨ k = 21 ∨ k = 22 ∨ k = 23 ∨ k = 24 := by omega
      · exact nv_tableIn S (by decide) dL_law_40 (by decide) (by decide) (off := 116) rfl (tgt := 156) (by decide) (cs_0 l hst D Z z b qo bs L xs S X9 hnc hscr (6 * j) hi T hI H locs ls _ _ (by omega) (by omega) hl w kk9)
      · exact nv_tableIn S (by decide) dL_law_40 (by decide) (by decide) (off := 220) rfl (tgt := 260) (by decide) (cs_1 l hst D Z z b qo bs L xs S X9 hnc hscr (6 * j) hi T hI H locs ls _ _ (by omega) (by omega) hl w kk9)
      · exact nv_tableIn S (by decide) dL_law_40 (by decide) (by decide) (off := 324) rfl (tgt := 364) (by decide) (cs_2 l hst D Z z b qo bs L xs S X9 hnc hscr (6 * j) hi T hI H locs ls _ _ (by omega) (by omega) hl w kk9)
      · exact nv_tableIn S (by decide) dL_law_40 (by decide) (by decide) (off := 392) rfl (tgt := 432) (by decide) (cs_3 l hst D Z z b qo bs L xs S X9 hnc hscr (6 * j) hi T hI H locs ls _ _ (by omega) (by omega) hl w kk9)
      · exact nv_tableIn S (by decide) dL_law_40 (by decide) (by decide) (off := 460) rfl (tgt := 500) (by decide) (cs_4 l hst D Z z b qo bs L xs S X9 hnc hscr (6 * j) hi T hI H locs ls _ _ (by omega) (by omega) hl w kk9)
      · exact nv_tableIn S (by decide) dL_law_40 (by decide) (by decide) (off := 504) rfl (tgt := 544) (by decide) (cs_5 l hst D Z z b qo bs L xs S X9 hnc hscr (6 * j) hi T hI H locs ls _ _ (by omega) (by omega) hl w kk9)
      · exact nv_tableIn S (by decide) dL_law_40 (by decide) (by decide) (off := 596) rfl (tgt := 636) (by decide) (cs_6 l hst D Z z b qo bs L xs S X9 hnc hscr (6 * j) hi T hI H locs ls _ _ (by omega) (by omega) hl w kk9)
      · exact nv_tableIn S (by decide) dL_law_40 (by decide) (by decide) (off := 664) rfl (tgt := 704) (by decide) (cs_7 l hst D Z z b qo bs L xs S X9 hnc hscr (6 * j) hi T hI H locs ls _ _ (by omega) (by omega) hl w kk9)
      · exact nv_tableIn S (by decide) dL_law_40 (by decide) (by decide) (off := 720) rfl (tgt := 760) (by decide) (cs_8 l hst D Z z b qo bs L xs S X9 hnc hscr (6 * j) hi T hI H locs ls _ _ (by omega) (by omega) hl w kk9)
      · exact nv_tableIn S (by decide) dL_law_40 (by decide) (by decide) (off := 776) rfl (tgt := 816) (by decide) (cs_9 l hst D Z z b qo bs L xs S X9 hnc hscr (6 * j) hi T hI H locs ls _ _ (by omega) (by omega) hl w kk9)
      · exact nv_tableIn S (by decide) dL_law_40 (by decide) (by decide) (off := 789) rfl (tgt := 829) (by decide) (cs_10 l hst D Z z b qo bs L xs S X9 hnc hscr (6 * j) hi T hI H locs ls _ _ (by omega) (by omega) hl w kk9)
      · exact nv_tableIn S (by decide) dL_law_40 (by decide) (by decide) (off := 869) rfl (tgt := 909) (by decide) (cs_11 l hst D Z z b qo bs L xs S X9 hnc hscr (6 * j) hi T hI H locs ls _ _ (by omega) (by omega) hl w kk9)
      · exact nv_tableIn S (by decide) dL_law_40 (by decide) (by decide) (off := 925) rfl (tgt := 965) (by decide) (cs_12 l hst D Z z b qo bs L xs S X9 hnc hscr (6 * j) hi T hI H locs ls _ _ (by omega) (by omega) hl w kk9)
      · exact nv_tableIn S (by decide) dL_law_40 (by decide) (by decide) (off := 993) rfl (tgt := 1033) (by decide) (cs_13 l hst D Z z b qo bs L xs S X9 hnc hscr (6 * j) hi T hI H locs ls _ _ (by omega) (by omega) hl w kk9)
      · exact nv_tableIn S (by decide) dL_law_40 (by decide) (by decide) (off := 1049) rfl (tgt := 1089) (by decide) (cs_14 l hst D Z z b qo bs L xs S X9 hnc hscr (6 * j) hi T hI H locs ls _ _ (by omega) (by omega) hl w kk9)
      · exact nv_tableIn S (by decide) dL_law_40 (by decide) (by decide) (off := 1105) rfl (tgt := 1145) (by decide) (cs_15 l hst D Z z b qo bs L xs S X9 hnc hscr (6 * j) hi T hI H locs ls _ _ (by omega) (by omega) hl w kk9)
      · exact nv_tableIn S (by decide) dL_law_40 (by decide) (by decide) (off := 1118) rfl (tgt := 1158) (by decide) (cs_16 l hst D Z z b qo bs L xs S X9 hnc hscr (6 * j) hi T hI H locs ls _ _ (by omega) (by omega) hl w kk9)
      · exact nv_tableIn S (by decide) dL_law_40 (by decide) (by decide) (off := 1186) rfl (tgt := 1226) (by decide) (cs_17 l hst D Z z b qo bs L xs S X9 hnc hscr (6 * j) hi T hI H locs ls _ _ (by omega) (by omega) hl w kk9)
      · exact nv_tableIn S (by decide) dL_law_40 (by decide) (by decide) (off := 1254) rfl (tgt := 1294) (by decide) (cs_18 l hst D Z z b qo bs L xs S X9 hnc hscr (6 * j) hi T hI H locs ls _ _ (by omega) (by omega) hl w kk9)
      · exact nv_tableIn S (by decide) dL_law_40 (by decide) (by decide) (off := 1322) rfl (tgt := 1362) (by decide) (cs_19 l hst D Z z b qo bs L xs S X9 hnc hscr (6 * j) hi T hI H locs ls _ _ (by omega) (by omega) hl w kk9)
      · exact nv_tableIn S (by decide) dL_law_40 (by decide) (by decide) (off := 1363) rfl (tgt := 1403) (by decide) (cs_20 l hst D Z z b qo bs L xs S X9 hnc hscr (6 * j) hi T hI H locs ls _ _ (by omega) (by omega) hl w kk9)
      · exact nv_tableIn S (by decide) dL_law_40 (by decide) (by decide) (off := 1419) rfl (tgt := 1459) (by decide) (cs_21 l hst D Z z b qo bs L xs S X9 hnc hscr (6 * j) hi T hI H locs ls _ _ (by omega) (by omega) hl w kk9)
      · exact nv_tableIn S (by decide) dL_law_40 (by decide) (by decide) (off := 1432) rfl (tgt := 1472) (by decide) (cs_22 l hst D Z z b qo bs L xs S X9 hnc hscr (6 * j) hi T hI H locs ls _ _ (by omega) (by omega) hl w kk9)
      · exact nv_tableIn S (by decide) dL_law_40 (by decide) (by decide) (off := 1445) rfl (tgt := 1485) (by decide) (cs_23 l hst D Z z b qo bs L xs S X9 hnc hscr (6 * j) hi T hI H locs ls _ _ (by omega) (by omega) hl w kk9)
      · exact nv_tableIn S (by decide) dL_law_40 (by decide) (by decide) (off := 1489) rfl (tgt := 1529) (by decide) (cs_24 l hst D Z z b qo bs L xs S X9 hnc hscr (6 * j) hi T hI H locs ls _ _ (by omega) (by omega) hl w kk9)
