theorem hn_X8_patternOf_8 : ∀ w ∈ wsX80, w ∈ wsX8_patternOf := by decide +kernel
theorem hdV_X8_cellsOf : yX8_cellsOf.cls = RX8 ∧ yX8_cellsOf.cls ≠ "java/lang/invoke/MethodHandle" ∧ yX8_cellsOf.cls ≠ "java/lang/invoke/VarHandle" ∧ (parseMethodDescriptor yX8_cellsOf.desc).map (fun d => d.parameters.length) = some 2 := by decide +kernel
theorem hdV_X8_inOrder : yX8_inOrder.cls = RX8 ∧ yX8_inOrder.cls ≠ "java/lang/invoke/MethodHandle" ∧ yX8_inOrder.cls ≠ "java/lang/invoke/VarHandle" ∧ (parseMethodDescriptor yX8_inOrder.desc).map (fun d => d.parameters.length) = some 1 := by decide +kernel
theorem hdV_X8_playable : yX8_playable.cls = RX8 ∧ yX8_playable.cls ≠ "java/lang/invoke/MethodHandle" ∧ yX8_playable.cls ≠ "java/lang/invoke/VarHandle" ∧ (parseMethodDescriptor yX8_playable.desc).map (fun d => d.parameters.length) = some 0 := by decide +kernel
set_option maxRecDepth 100000 in
set_option maxHeartbeats 4000000 in
theorem c_X8_patternOf (l : Launch) (D : va_G) (Z : Nat → ClassId) (b : Nat → Nat) (X : ST) (sv sd : Nat → Nat) (sm th tl pl ro nu : Nat) (t r : Nat → Nat) (a k : Nat) (hs : SB X.1) (ha : a < 6) (hk : k < 5) : Ci l yX8_patternOf wsX8_patternOf 2 50 D Z [.ref (b 0), vI a, vI k] (mdM Z b X sv sd sm th tl pl ro nu t r) (nI (factP X.1 a k)) (mdM Z b X sv sd sm th tl pl ro nu t r) := by
  refine ne_i (cc := cX8_patternOf) (maxL := 3) (by decide +kernel) rfl (Nat.le_of_ble_eq_true rfl) (fun p e s m args below meth c A ls (S : CallFix p m c cX8_patternOf 3 s args wsX8_patternOf RX8) hr hlocks hl w => ?_)
  have hra := hs.2.1 a ha
  have hpm := playM_lt hs
  have hl : lv_has ls 3 [(0, .ref (b 0)), (1, vI a), (2, vI k)] := hl
  refine lv_iload_n S.1 S.2.1 dX8_patternOf_0 rfl (lv_at hl 2 rfl) ?_
  by_cases h_1 : k = 0
  · skip
    refine nv_tableIn S (by omega) dX8_patternOf_1 (by rw [h_1]; decide) (by rw [h_1]; decide) (off := 31) (by rw [h_1]; rfl) (tgt := 32) (by decide) ?_
    refine lv_aload_n S.1 S.2.1 dX8_patternOf_32 rfl (lv_at hl 0 rfl) ?_
    refine nv_get S w (C := RX8) (T := TX8) (N := 11) hn_X8_patternOf_8 0 rfl rfl 0 (by decide) (List.mem_of_getElem? (i := 1) rfl) (v := .ref (b 1)) rfl dX8_patternOf_33 ?_
    refine lv_bipush (v := nI 15) S.1 S.2.1 dX8_patternOf_36 (by decide +kernel) ?_
    refine lv_iload_n S.1 S.2.1 dX8_patternOf_38 rfl (lv_at hl 1 rfl) ?_
    refine nv_iadd S dX8_patternOf_39 ?_
    refine nv_iald S w (i := (15 + a)) (g := (enc X)) 1 rfl (by omega) (by decide) dX8_patternOf_40 ?_
    refine W.eq (g2 := F0 m 41 ls [vI (X.1.2.1 a)]) (by rw [enc_r (by omega)]) ?_
    exact nv_iret S w hr hlocks rfl (by rw [h_1]; rfl) rfl dX8_patternOf_41
  · skip
    by_cases h_2 : k = 1
    · skip
      refine nv_tableIn S (by omega) dX8_patternOf_1 (by rw [h_2]; decide) (by rw [h_2]; decide) (off := 41) (by rw [h_2]; rfl) (tgt := 42) (by decide) ?_
      refine lv_aload_n S.1 S.2.1 dX8_patternOf_42 rfl (lv_at hl 0 rfl) ?_
      refine lv_iload_n S.1 S.2.1 dX8_patternOf_43 rfl (lv_at hl 1 rfl) ?_
      refine lv_iload_n S.1 S.2.1 dX8_patternOf_44 rfl (lv_at hl 2 rfl) ?_
      refine lv_iconst (v := nI 2) S.1 S.2.1 dX8_patternOf_45 (ofInt_nI 2) ?_
      refine nv_icmp_ne S (by omega) (by omega) (tgt := 53) dX8_patternOf_46 (by decide) (fun h_3 => ?_) (fun h_3 => ?_)
      · skip
        refine lv_iconst (v := nI 0) S.1 S.2.1 dX8_patternOf_53 (ofInt_nI 0) ?_
        refine nv_rVi (rest := []) S w hl.1 (c_X8_cellsOf0 l D Z b X sv sd sm th tl pl ro nu t r a hs (by omega)) [0, 1, 2, 3, 4, 5] rfl rfl gX8_patternOf_X8_cellsOf rfl hdV_X8_cellsOf ⟨Nat.le_of_ble_eq_true rfl, Nat.le_of_ble_eq_true rfl⟩ (q0 := 0) rfl rfl rfl rfl (Nat.le_of_ble_eq_true rfl) ⟨Nat.zero_le _, Nat.zero_le _⟩ dX8_patternOf_54 (fun H locs w => ?_)
        exact nv_iret S w hr hlocks rfl (by rw [h_2]; rfl) rfl dX8_patternOf_57
      · skip
        exfalso; omega
    · skip
      by_cases h_4 : k = 2
      · skip
        refine nv_tableIn S (by omega) dX8_patternOf_1 (by rw [h_4]; decide) (by rw [h_4]; decide) (off := 41) (by rw [h_4]; rfl) (tgt := 42) (by decide) ?_
        refine lv_aload_n S.1 S.2.1 dX8_patternOf_42 rfl (lv_at hl 0 rfl) ?_
        refine lv_iload_n S.1 S.2.1 dX8_patternOf_43 rfl (lv_at hl 1 rfl) ?_
        refine lv_iload_n S.1 S.2.1 dX8_patternOf_44 rfl (lv_at hl 2 rfl) ?_
        refine lv_iconst (v := nI 2) S.1 S.2.1 dX8_patternOf_45 (ofInt_nI 2) ?_
        refine nv_icmp_ne S (by omega) (by omega) (tgt := 53) dX8_patternOf_46 (by decide) (fun h_5 => ?_) (fun h_5 => ?_)
        · skip
          exact absurd h_4 h_5
        · skip
          refine lv_iconst (v := nI 1) S.1 S.2.1 dX8_patternOf_49 (ofInt_nI 1) ?_
          refine lv_goto (tgt := 54) S.1 S.2.1 dX8_patternOf_50 (by decide) ?_
          refine nv_rVi (rest := []) S w hl.1 (c_X8_cellsOf1 l D Z b X sv sd sm th tl pl ro nu t r a hs (by omega)) [0, 1, 2, 3, 4, 5] rfl rfl gX8_patternOf_X8_cellsOf rfl hdV_X8_cellsOf ⟨Nat.le_of_ble_eq_true rfl, Nat.le_of_ble_eq_true rfl⟩ (q0 := 0) rfl rfl rfl rfl (Nat.le_of_ble_eq_true rfl) ⟨Nat.zero_le _, Nat.zero_le _⟩ dX8_patternOf_54 (fun H locs w => ?_)
          exact nv_iret S w hr hlocks rfl (by rw [h_4]; rfl) rfl dX8_patternOf_57
      · skip
        by_cases h_6 : k = 3
        · skip
          refine nv_tableIn S (by omega) dX8_patternOf_1 (by rw [h_6]; decide) (by rw [h_6]; decide) (off := 57) (by rw [h_6]; rfl) (tgt := 58) (by decide) ?_
          refine lv_aload_n S.1 S.2.1 dX8_patternOf_58 rfl (lv_at hl 0 rfl) ?_
          refine lv_iload_n S.1 S.2.1 dX8_patternOf_59 rfl (lv_at hl 1 rfl) ?_
          refine nv_rVi (rest := []) S w hl.1 (c_X8_inOrder l D Z b X sv sd sm th tl pl ro nu t r a hs (by omega)) [0, 1, 2, 3, 4, 5] rfl rfl gX8_patternOf_X8_inOrder rfl hdV_X8_inOrder ⟨Nat.le_of_ble_eq_true rfl, Nat.le_of_ble_eq_true rfl⟩ (q0 := 0) rfl rfl rfl rfl (Nat.le_of_ble_eq_true rfl) ⟨Nat.zero_le _, Nat.zero_le _⟩ dX8_patternOf_60 (fun H locs w => ?_)
          exact nv_iret S w hr hlocks rfl (by rw [h_6]; rfl) rfl dX8_patternOf_63
        · skip
          refine nv_tableOut S (by omega) dX8_patternOf_1 (by omega) (tgt := 64) (by decide) ?_
          refine lv_aload_n S.1 S.2.1 dX8_patternOf_64 rfl (lv_at hl 0 rfl) ?_
          refine nv_rVi (rest := []) S w hl.1 (c_X8_playable l D Z b X sv sd sm th tl pl ro nu t r hs) [0, 1, 2, 3, 4, 5] rfl rfl gX8_patternOf_X8_playable rfl hdV_X8_playable ⟨Nat.le_of_ble_eq_true rfl, Nat.le_of_ble_eq_true rfl⟩ (q0 := 0) rfl rfl rfl rfl (Nat.le_of_ble_eq_true rfl) ⟨Nat.zero_le _, Nat.zero_le _⟩ dX8_patternOf_65 (fun H locs w => ?_)
          refine lv_iload_n S.1 S.2.1 dX8_patternOf_68 rfl (lv_at hl 1 rfl) ?_
          refine lv_ishr S.1 S.2.1 dX8_patternOf_69 ?_
          rw [shr_d hpm ha]
          refine lv_iconst (v := nI 1) S.1 S.2.1 dX8_patternOf_70 (ofInt_nI 1) ?_
          refine nv_iand S dX8_patternOf_71 (z := nI (playM X.1 / 2 ^ a % 2 ^ 1)) (and_1 (by have := Nat.div_le_self (playM X.1) (2 ^ a); omega)) ?_
          exact nv_iret S w hr hlocks rfl (by rw [bP_dm]; unfold factP; rw [if_neg h_1, if_neg h_2, if_neg h_4, if_neg h_6]) rfl dX8_patternOf_72

theorem hdV_X8_patternOf : yX8_patternOf.cls = RX8 ∧ yX8_patternOf.cls ≠ "java/lang/invoke/MethodHandle" ∧ yX8_patternOf.cls ≠ "java/lang/invoke/VarHandle" ∧ (parseMethodDescriptor yX8_patternOf.desc).map (fun d => d.parameters.length) = some 2 := by decide +kernel
set_option maxRecDepth 100000 in
set_option maxHeartbeats 4000000 in
theorem c_X8_pattern (l : Launch) (D : va_G) (Z : Nat → ClassId) (b : Nat → Nat) (X : ST) (sv sd : Nat → Nat) (sm th tl pl ro nu : Nat) (t r : Nat → Nat) (xa xn : Int32) (hs : SB X.1) : Ci l yX8_pattern wsX8_pattern 3 72 D Z [.ref (b 0), .int xa, .int xn] (mdM Z b X sv sd sm th tl pl ro nu t r) (ifz (kC (rgI 0 5 xa) (rgI 0 4 xn)) (nI (factP X.1 (toN xa) (toN xn))) (nI 0)) (mdM Z b X sv sd sm (kC (rgI 0 5 xa) (rgI 0 4 xn)) tl pl ro nu t r) := by
  refine ne_i (cc := cX8_pattern) (maxL := 3) (by decide +kernel) rfl (Nat.le_of_ble_eq_true rfl) (fun p e s m args below meth c A ls (S : CallFix p m c cX8_pattern 3 s args wsX8_pattern RX8) hr hlocks hl w => ?_)
  have hl : lv_has ls 3 [(0, .ref (b 0)), (1, .int xa), (2, .int xn)] := hl
  refine lv_iload_n S.1 S.2.1 dX8_pattern_0 rfl (lv_at hl 1 rfl) ?_
  refine nv_pSi (rest := []) S w hl.1 (c_X8_isPattern l D Z xa ) gX8_pattern_X8_isPattern rfl hdS_X8_isPattern ⟨Nat.le_of_ble_eq_true rfl, Nat.le_of_ble_eq_true rfl⟩ rfl rfl (Nat.le_of_ble_eq_true rfl) ⟨Nat.zero_le _, Nat.zero_le _⟩ dX8_pattern_1 (fun H locs w => ?_)
  refine nv_if_neB S (tgt := 13) dX8_pattern_4 (by decide) (fun h_1 => ?_) (fun h_1 => ?_)
  · skip
    refine lv_iload_n S.1 S.2.1 dX8_pattern_13 rfl (lv_at hl 2 rfl) ?_
    refine lv_i2l (v := xn.toInt64) S.1 S.2.1 dX8_pattern_14 rfl ?_
    refine lv_lconst (v := 0) S.1 S.2.1 dX8_pattern_15 rfl ?_
    refine lv_ldc2 (v := 4) S.1 S.2.1 S.2.2.2.1 (S.2.2.2.2 _ (by decide +kernel)) dX8_pattern_16 ?_
    refine nv_pSi (rest := []) S w hl.1 (c_X8_inI l D Z xn 0 4 (by omega) (by omega)) gX8_pattern_X8_in rfl hdS_X8_in ⟨Nat.le_of_ble_eq_true rfl, Nat.le_of_ble_eq_true rfl⟩ rfl rfl (Nat.le_of_ble_eq_true rfl) ⟨Nat.zero_le _, Nat.zero_le _⟩ dX8_pattern_19 (fun H locs w => ?_)
    refine nv_if_eqB S (tgt := 38) dX8_pattern_22 (by decide) (fun h_2 => ?_) (fun h_2 => ?_)
    · skip
      refine lv_aload_n S.1 S.2.1 dX8_pattern_38 rfl (lv_at hl 0 rfl) ?_
      refine lv_iconst (v := nI 2) S.1 S.2.1 dX8_pattern_39 (ofInt_nI 2) ?_
      refine nv_cVi (rest := []) (ws' := mdM Z b X sv sd sm 2 tl pl ro nu t r) S w hl.1 (c_X8_throwing l D Z b X sv sd sm th tl pl ro nu t r 2 ) [0, 1, 2, 3, 4, 5] rfl rfl rfl rfl gX8_pattern_X8_throwing rfl hdV_X8_throwing ⟨Nat.le_of_ble_eq_true rfl, Nat.le_of_ble_eq_true rfl⟩ (q0 := 0) rfl rfl rfl rfl (Nat.le_of_ble_eq_true rfl) ⟨Nat.zero_le _, Nat.zero_le _⟩ dX8_pattern_40 (fun H locs w => ?_)
      exact nv_iret S w hr hlocks rfl (by rw [kC_2 h_1 h_2]; try rfl) (by rw [kC_2 h_1 h_2]; try rfl) dX8_pattern_43
    · skip
      obtain ⟨na, rfl, hna⟩ := rg_nat (by decide) (by decide) h_1
      have eqna : toN (nI na) = na := toN_nI (by omega)
      obtain ⟨nn, rfl, hnn⟩ := rg_nat (by decide) (by decide) h_2
      have eqnn : toN (nI nn) = nn := toN_nI (by omega)
      refine lv_aload_n S.1 S.2.1 dX8_pattern_25 rfl (lv_at hl 0 rfl) ?_
      refine lv_aload_n S.1 S.2.1 dX8_pattern_26 rfl (lv_at hl 0 rfl) ?_
      refine lv_iload_n S.1 S.2.1 dX8_pattern_27 rfl (lv_at hl 1 rfl) ?_
      refine lv_iload_n S.1 S.2.1 dX8_pattern_28 rfl (lv_at hl 2 rfl) ?_
      refine nv_rVi (rest := [.ref (b 0)]) S w hl.1 (c_X8_patternOf l D Z b X sv sd sm th tl pl ro nu t r na nn hs (by omega) (by omega)) [0, 1, 2, 3, 4, 5] rfl rfl gX8_pattern_X8_patternOf rfl hdV_X8_patternOf ⟨Nat.le_of_ble_eq_true rfl, Nat.le_of_ble_eq_true rfl⟩ (q0 := 0) rfl rfl rfl rfl (Nat.le_of_ble_eq_true rfl) ⟨Nat.zero_le _, Nat.zero_le _⟩ dX8_pattern_29 (fun H locs w => ?_)
      refine nv_cVi (rest := []) (ws' := mdM Z b X sv sd sm 0 tl pl ro nu t r) S w hl.1 (c_X8_fine l D Z b X sv sd sm th tl pl ro nu t r (nI (factP X.1 na nn)) ) [0, 1, 2, 3, 4, 5] rfl rfl rfl rfl gX8_pattern_X8_fine rfl hdV_X8_fine ⟨Nat.le_of_ble_eq_true rfl, Nat.le_of_ble_eq_true rfl⟩ (q0 := 0) rfl rfl rfl rfl (Nat.le_of_ble_eq_true rfl) ⟨Nat.zero_le _, Nat.zero_le _⟩ dX8_pattern_32 (fun H locs w => ?_)
      refine lv_goto (tgt := 43) S.1 S.2.1 dX8_pattern_35 (by decide) ?_
      exact nv_iret S w hr hlocks rfl (by rw [kC_0 h_1 h_2]; (try simp only [eqna, eqnn]); first | done | rfl | (unfold ifz; rw [if_pos rfl])) (by rw [kC_0 h_1 h_2]; (try simp only [eqna, eqnn]); first | done | rfl | (simp only [ifz, eq_self_iff_true, if_true])) dX8_pattern_43
  · skip
    refine lv_aload_n S.1 S.2.1 dX8_pattern_7 rfl (lv_at hl 0 rfl) ?_
    refine lv_iconst (v := nI 1) S.1 S.2.1 dX8_pattern_8 (ofInt_nI 1) ?_
    refine nv_cVi (rest := []) (ws' := mdM Z b X sv sd sm 1 tl pl ro nu t r) S w hl.1 (c_X8_throwing l D Z b X sv sd sm th tl pl ro nu t r 1 ) [0, 1, 2, 3, 4, 5] rfl rfl rfl rfl gX8_pattern_X8_throwing rfl hdV_X8_throwing ⟨Nat.le_of_ble_eq_true rfl, Nat.le_of_ble_eq_true rfl⟩ (q0 := 0) rfl rfl rfl rfl (Nat.le_of_ble_eq_true rfl) ⟨Nat.zero_le _, Nat.zero_le _⟩ dX8_pattern_9 (fun H locs w => ?_)
    exact nv_iret S w hr hlocks rfl (by rw [kC_1 h_1]; try rfl) (by rw [kC_1 h_1]; try rfl) dX8_pattern_12

theorem hn_X8_order_8 : ∀ w ∈ wsX80, w ∈ wsX8_order := by decide +kernel
set_option maxRecDepth 100000 in
set_option maxHeartbeats 4000000 in
theorem c_X8_order (l : Launch) (D : va_G) (Z : Nat → ClassId) (b : Nat → Nat) (X : ST) (sv sd : Nat → Nat) (sm th tl pl ro nu : Nat) (t r : Nat → Nat) (xa : Int32) (hs : SB X.1) : Ci l yX8_order wsX8_order 1 25 D Z [.ref (b 0), .int xa] (mdM Z b X sv sd sm th tl pl ro nu t r) (ifz (kC (rgI 0 (X.1.2.2.2 - 1) xa) True) (nI (X.1.2.2.1 (toN xa))) (nI 0)) (mdM Z b X sv sd sm (kC (rgI 0 (X.1.2.2.2 - 1) xa) True) tl pl ro nu t r) := by
  refine ne_i (cc := cX8_order) (maxL := 2) (by decide +kernel) rfl (Nat.le_of_ble_eq_true rfl) (fun p e s m args below meth c A ls (S : CallFix p m c cX8_order 2 s args wsX8_order RX8) hr hlocks hl w => ?_)
  have hpl := hs.2.2.2.1
  have hp1 := hs.2.2.1
  have hl : lv_has ls 2 [(0, .ref (b 0)), (1, .int xa)] := hl
  refine lv_iload_n S.1 S.2.1 dX8_order_0 rfl (lv_at hl 1 rfl) ?_
  refine lv_i2l (v := xa.toInt64) S.1 S.2.1 dX8_order_1 rfl ?_
  refine lv_lconst (v := 0) S.1 S.2.1 dX8_order_2 rfl ?_
  refine lv_aload_n S.1 S.2.1 dX8_order_3 rfl (lv_at hl 0 rfl) ?_
  refine nv_get S w (C := RX8) (T := TX8) (N := 11) hn_X8_order_8 0 rfl rfl 0 (by decide) (List.mem_of_getElem? (i := 1) rfl) (v := .ref (b 1)) rfl dX8_order_4 ?_
  refine lv_bipush (v := nI 6) S.1 S.2.1 dX8_order_7 (by decide +kernel) ?_
  refine nv_iald S w (i := 6) (g := (enc X)) 1 rfl (by omega) (by decide) dX8_order_9 ?_
  refine W.eq (g2 := F0 m 10 ls [vI X.1.2.2.2, .long 0, .long xa.toInt64]) rfl ?_
  refine lv_i2l (v := (nI X.1.2.2.2).toInt64) S.1 S.2.1 dX8_order_10 rfl ?_
  refine lv_lconst (v := 1) S.1 S.2.1 dX8_order_11 rfl ?_
  refine lv_lsub S.1 S.2.1 dX8_order_12 ?_
  refine W.eq (g2 := F0 m 13 ls [.long (lN (X.1.2.2.2 - 1)), .long 0, .long xa.toInt64]) (by rw [nI_l (by omega), show (1 : Int64) = lN 1 from rfl, lN_sub (by omega)]) ?_
  refine nv_pSi (rest := []) S w hl.1 (c_X8_inI l D Z xa 0 (X.1.2.2.2 - 1) (by omega) (by omega)) gX8_order_X8_in rfl hdS_X8_in ⟨Nat.le_of_ble_eq_true rfl, Nat.le_of_ble_eq_true rfl⟩ rfl rfl (Nat.le_of_ble_eq_true rfl) ⟨Nat.zero_le _, Nat.zero_le _⟩ dX8_order_13 (fun H locs w => ?_)
  refine nv_if_eqB S (tgt := 35) dX8_order_16 (by decide) (fun h_1 => ?_) (fun h_1 => ?_)
  · skip
    refine lv_aload_n S.1 S.2.1 dX8_order_35 rfl (lv_at hl 0 rfl) ?_
    refine lv_iconst (v := nI 1) S.1 S.2.1 dX8_order_36 (ofInt_nI 1) ?_
    refine nv_cVi (rest := []) (ws' := mdM Z b X sv sd sm 1 tl pl ro nu t r) S w hl.1 (c_X8_throwing l D Z b X sv sd sm th tl pl ro nu t r 1 ) [0, 1, 2, 3, 4, 5] rfl rfl rfl rfl gX8_order_X8_throwing rfl hdV_X8_throwing ⟨Nat.le_of_ble_eq_true rfl, Nat.le_of_ble_eq_true rfl⟩ (q0 := 0) rfl rfl rfl rfl (Nat.le_of_ble_eq_true rfl) ⟨Nat.zero_le _, Nat.zero_le _⟩ dX8_order_37 (fun H locs w => ?_)
    exact nv_iret S w hr hlocks rfl (by rw [kC_1 h_1]; try rfl) (by rw [kC_1 h_1]; try rfl) dX8_order_40
  · skip
    obtain ⟨na, rfl, hna⟩ := rg_nat (by decide) (by omega) h_1
    have eqna : toN (nI na) = na := toN_nI (by omega)
    refine lv_aload_n S.1 S.2.1 dX8_order_19 rfl (lv_at hl 0 rfl) ?_
    refine lv_aload_n S.1 S.2.1 dX8_order_20 rfl (lv_at hl 0 rfl) ?_
    refine nv_get S w (C := RX8) (T := TX8) (N := 11) hn_X8_order_8 0 rfl rfl 0 (by decide) (List.mem_of_getElem? (i := 1) rfl) (v := .ref (b 1)) rfl dX8_order_21 ?_
    refine lv_bipush (v := nI 7) S.1 S.2.1 dX8_order_24 (by decide +kernel) ?_
    refine lv_iload_n S.1 S.2.1 dX8_order_26 rfl (lv_at hl 1 rfl) ?_
    refine nv_iadd S dX8_order_27 ?_
    refine nv_iald S w (i := (7 + na)) (g := (enc X)) 1 rfl (by omega) (by decide) dX8_order_28 ?_
    refine W.eq (g2 := F0 m 29 ls [vI (X.1.2.2.1 na), .ref (b 0)]) (by rw [enc_o (by omega)]) ?_
    refine nv_cVi (rest := []) (ws' := mdM Z b X sv sd sm 0 tl pl ro nu t r) S w hl.1 (c_X8_fine l D Z b X sv sd sm th tl pl ro nu t r (nI (X.1.2.2.1 na)) ) [0, 1, 2, 3, 4, 5] rfl rfl rfl rfl gX8_order_X8_fine rfl hdV_X8_fine ⟨Nat.le_of_ble_eq_true rfl, Nat.le_of_ble_eq_true rfl⟩ (q0 := 0) rfl rfl rfl rfl (Nat.le_of_ble_eq_true rfl) ⟨Nat.zero_le _, Nat.zero_le _⟩ dX8_order_29 (fun H locs w => ?_)
    refine lv_goto (tgt := 40) S.1 S.2.1 dX8_order_32 (by decide) ?_
    exact nv_iret S w hr hlocks rfl (by rw [kC_0 h_1 trivial]; (try simp only [eqna]); first | done | rfl | (unfold ifz; rw [if_pos rfl])) (by rw [kC_0 h_1 trivial]; (try simp only [eqna]); first | done | rfl | (simp only [ifz, eq_self_iff_true, if_true])) dX8_order_40
