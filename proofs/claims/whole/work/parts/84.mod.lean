theorem hn_X8_channelOf_8 : ∀ w ∈ wsX80, w ∈ wsX8_channelOf := by decide +kernel
set_option maxRecDepth 100000 in
set_option maxHeartbeats 4000000 in
theorem c_X8_channelOf (l : Launch) (D : va_G) (Z : Nat → ClassId) (b : Nat → Nat) (X : ST) (sv sd : Nat → Nat) (sm th tl pl ro nu : Nat) (t r : Nat → Nat) (d k : Nat) (hd : d < 4) (hv : VB (X.2.2 d)) (hk : k < 8) : Ci l yX8_channelOf wsX8_channelOf 3 64 D Z [.ref (b 0), vI d, vI k] (mdM Z b X sv sd sm th tl pl ro nu t r) (factV (X.2.2 d) k) (mdM Z b X sv sd sm th tl pl ro nu t r) := by
  refine ne_i (cc := cX8_channelOf) (maxL := 3) (by decide +kernel) rfl (Nat.le_of_ble_eq_true rfl) (fun p e s m args below meth c A ls (S : CallFix p m c cX8_channelOf 3 s args wsX8_channelOf RX8) hr hlocks hl w => ?_)
  have h2 := hv
  unfold VB at h2
  have hl : lv_has ls 3 [(0, .ref (b 0)), (1, vI d), (2, vI k)] := hl
  refine lv_iload_n S.1 S.2.1 dX8_channelOf_0 rfl (lv_at hl 2 rfl) ?_
  by_cases h_1 : k = 3
  · skip
    refine nv_tableIn S (by omega) dX8_channelOf_1 (by rw [h_1]; decide) (by rw [h_1]; decide) (off := 35) (by rw [h_1]; rfl) (tgt := 36) (by decide) ?_
    refine lv_aload_n S.1 S.2.1 dX8_channelOf_36 rfl (lv_at hl 0 rfl) ?_
    refine lv_iload_n S.1 S.2.1 dX8_channelOf_37 rfl (lv_at hl 1 rfl) ?_
    refine lv_iconst (v := nI 2) S.1 S.2.1 dX8_channelOf_38 (ofInt_nI 2) ?_
    refine nv_rVi (rest := []) S w hl.1 (c_X8_of l D Z b X sv sd sm th tl pl ro nu t r d 2 (by omega) (by omega)) [0, 1, 2, 3, 4, 5] rfl rfl gX8_channelOf_X8_of rfl hdV_X8_of ⟨Nat.le_of_ble_eq_true rfl, Nat.le_of_ble_eq_true rfl⟩ (q0 := 0) rfl rfl rfl rfl (Nat.le_of_ble_eq_true rfl) ⟨Nat.zero_le _, Nat.zero_le _⟩ dX8_channelOf_39 (fun H locs w => ?_)
    refine nv_if_le S (by omega) (tgt := 54) dX8_channelOf_42 (by decide) (fun h_2 => ?_) (fun h_2 => ?_)
    · skip
      refine lv_iconst (v := -1) S.1 S.2.1 dX8_channelOf_54 (by decide +kernel) ?_
      exact nv_iret S w hr hlocks rfl (by rw [show k = 3 by omega]; unfold factV; rw [if_pos rfl, if_pos (by omega)]) rfl dX8_channelOf_55
    · skip
      refine lv_aload_n S.1 S.2.1 dX8_channelOf_45 rfl (lv_at hl 0 rfl) ?_
      refine lv_iload_n S.1 S.2.1 dX8_channelOf_46 rfl (lv_at hl 1 rfl) ?_
      refine lv_iconst (v := nI 3) S.1 S.2.1 dX8_channelOf_47 (ofInt_nI 3) ?_
      refine nv_rVi (rest := []) S w hl.1 (c_X8_of l D Z b X sv sd sm th tl pl ro nu t r d 3 (by omega) (by omega)) [0, 1, 2, 3, 4, 5] rfl rfl gX8_channelOf_X8_of rfl hdV_X8_of ⟨Nat.le_of_ble_eq_true rfl, Nat.le_of_ble_eq_true rfl⟩ (q0 := 0) rfl rfl rfl rfl (Nat.le_of_ble_eq_true rfl) ⟨Nat.zero_le _, Nat.zero_le _⟩ dX8_channelOf_48 (fun H locs w => ?_)
      refine lv_goto (tgt := 55) S.1 S.2.1 dX8_channelOf_51 (by decide) ?_
      exact nv_iret S w hr hlocks rfl (by rw [show k = 3 by omega]; unfold factV; rw [if_pos rfl, if_neg (by omega)]) rfl dX8_channelOf_55
  · skip
    by_cases h_3 : k = 5
    · skip
      refine nv_tableIn S (by omega) dX8_channelOf_1 (by rw [h_3]; decide) (by rw [h_3]; decide) (off := 55) (by rw [h_3]; rfl) (tgt := 56) (by decide) ?_
      refine lv_aload_n S.1 S.2.1 dX8_channelOf_56 rfl (lv_at hl 0 rfl) ?_
      refine lv_iload_n S.1 S.2.1 dX8_channelOf_57 rfl (lv_at hl 1 rfl) ?_
      refine lv_iconst (v := nI 4) S.1 S.2.1 dX8_channelOf_58 (ofInt_nI 4) ?_
      refine nv_rVi (rest := []) S w hl.1 (c_X8_of l D Z b X sv sd sm th tl pl ro nu t r d 4 (by omega) (by omega)) [0, 1, 2, 3, 4, 5] rfl rfl gX8_channelOf_X8_of rfl hdV_X8_of ⟨Nat.le_of_ble_eq_true rfl, Nat.le_of_ble_eq_true rfl⟩ (q0 := 0) rfl rfl rfl rfl (Nat.le_of_ble_eq_true rfl) ⟨Nat.zero_le _, Nat.zero_le _⟩ dX8_channelOf_59 (fun H locs w => ?_)
      refine nv_if_le S (by omega) (tgt := 82) dX8_channelOf_62 (by decide) (fun h_4 => ?_) (fun h_4 => ?_)
      · skip
        refine lv_iconst (v := -1) S.1 S.2.1 dX8_channelOf_82 (by decide +kernel) ?_
        exact nv_iret S w hr hlocks rfl (by rw [show k = 5 by omega]; unfold factV; rw [if_neg (by decide), if_pos rfl, if_pos (by omega)]) rfl dX8_channelOf_83
      · skip
        have hfp := VB_fp hv (by omega)
        refine lv_aload_n S.1 S.2.1 dX8_channelOf_65 rfl (lv_at hl 0 rfl) ?_
        refine nv_get S w (C := RX8) (T := TX8) (N := 11) hn_X8_channelOf_8 0 rfl rfl 0 (by decide) (List.mem_of_getElem? (i := 1) rfl) (v := .ref (b 1)) rfl dX8_channelOf_66 ?_
        refine lv_aload_n S.1 S.2.1 dX8_channelOf_69 rfl (lv_at hl 0 rfl) ?_
        refine lv_iload_n S.1 S.2.1 dX8_channelOf_70 rfl (lv_at hl 1 rfl) ?_
        refine nv_rVi (rest := [.ref (b 1)]) S w hl.1 (c_X8_latest l D Z b X sv sd sm th tl pl ro nu t r d (by omega) (by omega)) [0, 1, 2, 3, 4, 5] rfl rfl gX8_channelOf_X8_latest rfl hdV_X8_latest ⟨Nat.le_of_ble_eq_true rfl, Nat.le_of_ble_eq_true rfl⟩ (q0 := 0) rfl rfl rfl rfl (Nat.le_of_ble_eq_true rfl) ⟨Nat.zero_le _, Nat.zero_le _⟩ dX8_channelOf_71 (fun H locs w => ?_)
        refine lv_iload_n S.1 S.2.1 dX8_channelOf_74 rfl (lv_at hl 2 rfl) ?_
        refine nv_iadd S dX8_channelOf_75 ?_
        refine lv_iconst (v := nI 5) S.1 S.2.1 dX8_channelOf_76 (ofInt_nI 5) ?_
        refine nv_isub S (by omega) dX8_channelOf_77 ?_
        refine nv_iald S w (i := (((21 + 16 * d + (5 + 2 * (X.2.2 d 4 - 1))) + k) - 5)) (g := (enc X)) 1 rfl (by omega) (by decide) dX8_channelOf_78 ?_
        refine W.eq (g2 := F0 m 79 ls [vI (X.2.2 d (5 + 2 * (X.2.2 d 4 - 1)))]) (by first | (rw [show 21 + 16 * d + (5 + 2 * (X.2.2 d 4 - 1)) + k - 5 = 21 + 16 * d + (5 + 2 * (X.2.2 d 4 - 1)) by omega, enc_v hd (by omega)]) | (rw [show 21 + 16 * d + (5 + 2 * (X.2.2 d 4 - 1)) + k - 5 = 21 + 16 * d + (6 + 2 * (X.2.2 d 4 - 1)) by omega, enc_v hd (by omega)])) ?_
        refine lv_goto (tgt := 83) S.1 S.2.1 dX8_channelOf_79 (by decide) ?_
        exact nv_iret S w hr hlocks rfl (by rw [show k = 5 by omega]; unfold factV; rw [if_neg (by decide), if_pos rfl, if_neg (by omega)]) rfl dX8_channelOf_83
    · skip
      by_cases h_5 : k = 6
      · skip
        refine nv_tableIn S (by omega) dX8_channelOf_1 (by rw [h_5]; decide) (by rw [h_5]; decide) (off := 55) (by rw [h_5]; rfl) (tgt := 56) (by decide) ?_
        refine lv_aload_n S.1 S.2.1 dX8_channelOf_56 rfl (lv_at hl 0 rfl) ?_
        refine lv_iload_n S.1 S.2.1 dX8_channelOf_57 rfl (lv_at hl 1 rfl) ?_
        refine lv_iconst (v := nI 4) S.1 S.2.1 dX8_channelOf_58 (ofInt_nI 4) ?_
        refine nv_rVi (rest := []) S w hl.1 (c_X8_of l D Z b X sv sd sm th tl pl ro nu t r d 4 (by omega) (by omega)) [0, 1, 2, 3, 4, 5] rfl rfl gX8_channelOf_X8_of rfl hdV_X8_of ⟨Nat.le_of_ble_eq_true rfl, Nat.le_of_ble_eq_true rfl⟩ (q0 := 0) rfl rfl rfl rfl (Nat.le_of_ble_eq_true rfl) ⟨Nat.zero_le _, Nat.zero_le _⟩ dX8_channelOf_59 (fun H locs w => ?_)
        refine nv_if_le S (by omega) (tgt := 82) dX8_channelOf_62 (by decide) (fun h_6 => ?_) (fun h_6 => ?_)
        · skip
          refine lv_iconst (v := -1) S.1 S.2.1 dX8_channelOf_82 (by decide +kernel) ?_
          exact nv_iret S w hr hlocks rfl (by rw [show k = 6 by omega]; unfold factV; rw [if_neg (by decide), if_neg (by decide), if_pos rfl, if_pos (by omega)]) rfl dX8_channelOf_83
        · skip
          have hfp := VB_fp hv (by omega)
          refine lv_aload_n S.1 S.2.1 dX8_channelOf_65 rfl (lv_at hl 0 rfl) ?_
          refine nv_get S w (C := RX8) (T := TX8) (N := 11) hn_X8_channelOf_8 0 rfl rfl 0 (by decide) (List.mem_of_getElem? (i := 1) rfl) (v := .ref (b 1)) rfl dX8_channelOf_66 ?_
          refine lv_aload_n S.1 S.2.1 dX8_channelOf_69 rfl (lv_at hl 0 rfl) ?_
          refine lv_iload_n S.1 S.2.1 dX8_channelOf_70 rfl (lv_at hl 1 rfl) ?_
          refine nv_rVi (rest := [.ref (b 1)]) S w hl.1 (c_X8_latest l D Z b X sv sd sm th tl pl ro nu t r d (by omega) (by omega)) [0, 1, 2, 3, 4, 5] rfl rfl gX8_channelOf_X8_latest rfl hdV_X8_latest ⟨Nat.le_of_ble_eq_true rfl, Nat.le_of_ble_eq_true rfl⟩ (q0 := 0) rfl rfl rfl rfl (Nat.le_of_ble_eq_true rfl) ⟨Nat.zero_le _, Nat.zero_le _⟩ dX8_channelOf_71 (fun H locs w => ?_)
          refine lv_iload_n S.1 S.2.1 dX8_channelOf_74 rfl (lv_at hl 2 rfl) ?_
          refine nv_iadd S dX8_channelOf_75 ?_
          refine lv_iconst (v := nI 5) S.1 S.2.1 dX8_channelOf_76 (ofInt_nI 5) ?_
          refine nv_isub S (by omega) dX8_channelOf_77 ?_
          refine nv_iald S w (i := (((21 + 16 * d + (5 + 2 * (X.2.2 d 4 - 1))) + k) - 5)) (g := (enc X)) 1 rfl (by omega) (by decide) dX8_channelOf_78 ?_
          refine W.eq (g2 := F0 m 79 ls [vI (X.2.2 d (6 + 2 * (X.2.2 d 4 - 1)))]) (by first | (rw [show 21 + 16 * d + (5 + 2 * (X.2.2 d 4 - 1)) + k - 5 = 21 + 16 * d + (5 + 2 * (X.2.2 d 4 - 1)) by omega, enc_v hd (by omega)]) | (rw [show 21 + 16 * d + (5 + 2 * (X.2.2 d 4 - 1)) + k - 5 = 21 + 16 * d + (6 + 2 * (X.2.2 d 4 - 1)) by omega, enc_v hd (by omega)])) ?_
          refine lv_goto (tgt := 83) S.1 S.2.1 dX8_channelOf_79 (by decide) ?_
          exact nv_iret S w hr hlocks rfl (by rw [show k = 6 by omega]; unfold factV; rw [if_neg (by decide), if_neg (by decide), if_pos rfl, if_neg (by omega)]) rfl dX8_channelOf_83
      · skip
        by_cases h_7 : k = 7
        · skip
          refine nv_tableIn S (by omega) dX8_channelOf_1 (by rw [h_7]; decide) (by rw [h_7]; decide) (off := 83) (by rw [h_7]; rfl) (tgt := 84) (by decide) ?_
          refine lv_aload_n S.1 S.2.1 dX8_channelOf_84 rfl (lv_at hl 0 rfl) ?_
          refine lv_iload_n S.1 S.2.1 dX8_channelOf_85 rfl (lv_at hl 1 rfl) ?_
          refine lv_bipush (v := nI 11) S.1 S.2.1 dX8_channelOf_86 (by decide +kernel) ?_
          refine nv_rVi (rest := []) S w hl.1 (c_X8_of l D Z b X sv sd sm th tl pl ro nu t r d 11 (by omega) (by omega)) [0, 1, 2, 3, 4, 5] rfl rfl gX8_channelOf_X8_of rfl hdV_X8_of ⟨Nat.le_of_ble_eq_true rfl, Nat.le_of_ble_eq_true rfl⟩ (q0 := 0) rfl rfl rfl rfl (Nat.le_of_ble_eq_true rfl) ⟨Nat.zero_le _, Nat.zero_le _⟩ dX8_channelOf_88 (fun H locs w => ?_)
          exact nv_iret S w hr hlocks rfl (by rw [show k = 7 by omega]; rfl) rfl dX8_channelOf_91
        · skip
          by_cases h_8 : k = 4
          · skip
            refine nv_tableIn S (by omega) dX8_channelOf_1 (by rw [h_8]; decide) (by rw [h_8]; decide) (off := 91) (by rw [h_8]; rfl) (tgt := 92) (by decide) ?_
            refine lv_aload_n S.1 S.2.1 dX8_channelOf_92 rfl (lv_at hl 0 rfl) ?_
            refine lv_iload_n S.1 S.2.1 dX8_channelOf_93 rfl (lv_at hl 1 rfl) ?_
            refine lv_iload_n S.1 S.2.1 dX8_channelOf_94 rfl (lv_at hl 2 rfl) ?_
            refine nv_rVi (rest := []) S w hl.1 (c_X8_of l D Z b X sv sd sm th tl pl ro nu t r d k (by omega) (by omega)) [0, 1, 2, 3, 4, 5] rfl rfl gX8_channelOf_X8_of rfl hdV_X8_of ⟨Nat.le_of_ble_eq_true rfl, Nat.le_of_ble_eq_true rfl⟩ (q0 := 0) rfl rfl rfl rfl (Nat.le_of_ble_eq_true rfl) ⟨Nat.zero_le _, Nat.zero_le _⟩ dX8_channelOf_95 (fun H locs w => ?_)
            exact nv_iret S w hr hlocks rfl (by unfold factV; rw [if_neg (by omega), if_neg (by omega), if_neg (by omega), if_neg (by omega)]) rfl dX8_channelOf_98
          · skip
            refine nv_tableOut S (by omega) dX8_channelOf_1 (by omega) (tgt := 92) (by decide) ?_
            refine lv_aload_n S.1 S.2.1 dX8_channelOf_92 rfl (lv_at hl 0 rfl) ?_
            refine lv_iload_n S.1 S.2.1 dX8_channelOf_93 rfl (lv_at hl 1 rfl) ?_
            refine lv_iload_n S.1 S.2.1 dX8_channelOf_94 rfl (lv_at hl 2 rfl) ?_
            refine nv_rVi (rest := []) S w hl.1 (c_X8_of l D Z b X sv sd sm th tl pl ro nu t r d k (by omega) (by omega)) [0, 1, 2, 3, 4, 5] rfl rfl gX8_channelOf_X8_of rfl hdV_X8_of ⟨Nat.le_of_ble_eq_true rfl, Nat.le_of_ble_eq_true rfl⟩ (q0 := 0) rfl rfl rfl rfl (Nat.le_of_ble_eq_true rfl) ⟨Nat.zero_le _, Nat.zero_le _⟩ dX8_channelOf_95 (fun H locs w => ?_)
            exact nv_iret S w hr hlocks rfl (by unfold factV; rw [if_neg (by omega), if_neg (by omega), if_neg (by omega), if_neg (by omega)]) rfl dX8_channelOf_98

theorem hdV_X8_channelOf : yX8_channelOf.cls = RX8 ∧ yX8_channelOf.cls ≠ "java/lang/invoke/MethodHandle" ∧ yX8_channelOf.cls ≠ "java/lang/invoke/VarHandle" ∧ (parseMethodDescriptor yX8_channelOf.desc).map (fun d => d.parameters.length) = some 2 := by decide +kernel
set_option maxRecDepth 100000 in
set_option maxHeartbeats 4000000 in
theorem c_X8_channel (l : Launch) (D : va_G) (Z : Nat → ClassId) (b : Nat → Nat) (X : ST) (sv sd : Nat → Nat) (sm th tl pl ro nu : Nat) (t r : Nat → Nat) (xa xn : Int32) (hX : XB X) : Ci l yX8_channel wsX8_channel 4 86 D Z [.ref (b 0), .int xa, .int xn] (mdM Z b X sv sd sm th tl pl ro nu t r) (ifz (kC (rgI 0 3 xa) (rgI 0 7 xn)) (factV (X.2.2 (toN xa)) (toN xn)) (nI 0)) (mdM Z b X sv sd sm (kC (rgI 0 3 xa) (rgI 0 7 xn)) tl pl ro nu t r) := by
  refine ne_i (cc := cX8_channel) (maxL := 3) (by decide +kernel) rfl (Nat.le_of_ble_eq_true rfl) (fun p e s m args below meth c A ls (S : CallFix p m c cX8_channel 3 s args wsX8_channel RX8) hr hlocks hl w => ?_)
  have hl : lv_has ls 3 [(0, .ref (b 0)), (1, .int xa), (2, .int xn)] := hl
  refine lv_iload_n S.1 S.2.1 dX8_channel_0 rfl (lv_at hl 1 rfl) ?_
  refine nv_pSi (rest := []) S w hl.1 (c_X8_isChannel l D Z xa ) gX8_channel_X8_isChannel rfl hdS_X8_isChannel ⟨Nat.le_of_ble_eq_true rfl, Nat.le_of_ble_eq_true rfl⟩ rfl rfl (Nat.le_of_ble_eq_true rfl) ⟨Nat.zero_le _, Nat.zero_le _⟩ dX8_channel_1 (fun H locs w => ?_)
  refine nv_if_neB S (tgt := 13) dX8_channel_4 (by decide) (fun h_1 => ?_) (fun h_1 => ?_)
  · skip
    refine lv_iload_n S.1 S.2.1 dX8_channel_13 rfl (lv_at hl 2 rfl) ?_
    refine lv_i2l (v := xn.toInt64) S.1 S.2.1 dX8_channel_14 rfl ?_
    refine lv_lconst (v := 0) S.1 S.2.1 dX8_channel_15 rfl ?_
    refine lv_ldc2 (v := 7) S.1 S.2.1 S.2.2.2.1 (S.2.2.2.2 _ (by decide +kernel)) dX8_channel_16 ?_
    refine nv_pSi (rest := []) S w hl.1 (c_X8_inI l D Z xn 0 7 (by omega) (by omega)) gX8_channel_X8_in rfl hdS_X8_in ⟨Nat.le_of_ble_eq_true rfl, Nat.le_of_ble_eq_true rfl⟩ rfl rfl (Nat.le_of_ble_eq_true rfl) ⟨Nat.zero_le _, Nat.zero_le _⟩ dX8_channel_19 (fun H locs w => ?_)
    refine nv_if_eqB S (tgt := 38) dX8_channel_22 (by decide) (fun h_2 => ?_) (fun h_2 => ?_)
    · skip
      refine lv_aload_n S.1 S.2.1 dX8_channel_38 rfl (lv_at hl 0 rfl) ?_
      refine lv_iconst (v := nI 2) S.1 S.2.1 dX8_channel_39 (ofInt_nI 2) ?_
      refine nv_cVi (rest := []) (ws' := mdM Z b X sv sd sm 2 tl pl ro nu t r) S w hl.1 (c_X8_throwing l D Z b X sv sd sm th tl pl ro nu t r 2 ) [0, 1, 2, 3, 4, 5] rfl rfl rfl rfl gX8_channel_X8_throwing rfl hdV_X8_throwing ⟨Nat.le_of_ble_eq_true rfl, Nat.le_of_ble_eq_true rfl⟩ (q0 := 0) rfl rfl rfl rfl (Nat.le_of_ble_eq_true rfl) ⟨Nat.zero_le _, Nat.zero_le _⟩ dX8_channel_40 (fun H locs w => ?_)
      exact nv_iret S w hr hlocks rfl (by rw [kC_2 h_1 h_2]; try rfl) (by rw [kC_2 h_1 h_2]; try rfl) dX8_channel_43
    · skip
      obtain ⟨na, rfl, hna⟩ := rg_nat (by decide) (by decide) h_1
      have eqna : toN (nI na) = na := toN_nI (by omega)
      obtain ⟨nn, rfl, hnn⟩ := rg_nat (by decide) (by decide) h_2
      have eqnn : toN (nI nn) = nn := toN_nI (by omega)
      refine lv_aload_n S.1 S.2.1 dX8_channel_25 rfl (lv_at hl 0 rfl) ?_
      refine lv_aload_n S.1 S.2.1 dX8_channel_26 rfl (lv_at hl 0 rfl) ?_
      refine lv_iload_n S.1 S.2.1 dX8_channel_27 rfl (lv_at hl 1 rfl) ?_
      refine lv_iload_n S.1 S.2.1 dX8_channel_28 rfl (lv_at hl 2 rfl) ?_
      refine nv_rVi (rest := [.ref (b 0)]) S w hl.1 (c_X8_channelOf l D Z b X sv sd sm th tl pl ro nu t r na nn (by omega) (hX.2.1.2.2.2.2.2 na (by omega)).1 (by omega)) [0, 1, 2, 3, 4, 5] rfl rfl gX8_channel_X8_channelOf rfl hdV_X8_channelOf ⟨Nat.le_of_ble_eq_true rfl, Nat.le_of_ble_eq_true rfl⟩ (q0 := 0) rfl rfl rfl rfl (Nat.le_of_ble_eq_true rfl) ⟨Nat.zero_le _, Nat.zero_le _⟩ dX8_channel_29 (fun H locs w => ?_)
      refine nv_cVi (rest := []) (ws' := mdM Z b X sv sd sm 0 tl pl ro nu t r) S w hl.1 (c_X8_fine l D Z b X sv sd sm th tl pl ro nu t r (factV (X.2.2 na) nn) ) [0, 1, 2, 3, 4, 5] rfl rfl rfl rfl gX8_channel_X8_fine rfl hdV_X8_fine ⟨Nat.le_of_ble_eq_true rfl, Nat.le_of_ble_eq_true rfl⟩ (q0 := 0) rfl rfl rfl rfl (Nat.le_of_ble_eq_true rfl) ⟨Nat.zero_le _, Nat.zero_le _⟩ dX8_channel_32 (fun H locs w => ?_)
      refine lv_goto (tgt := 43) S.1 S.2.1 dX8_channel_35 (by decide) ?_
      exact nv_iret S w hr hlocks rfl (by rw [kC_0 h_1 h_2]; (try simp only [eqna, eqnn]); first | done | rfl | (unfold ifz; rw [if_pos rfl])) (by rw [kC_0 h_1 h_2]; (try simp only [eqna, eqnn]); first | done | rfl | (simp only [ifz, eq_self_iff_true, if_true])) dX8_channel_43
  · skip
    refine lv_aload_n S.1 S.2.1 dX8_channel_7 rfl (lv_at hl 0 rfl) ?_
    refine lv_iconst (v := nI 1) S.1 S.2.1 dX8_channel_8 (ofInt_nI 1) ?_
    refine nv_cVi (rest := []) (ws' := mdM Z b X sv sd sm 1 tl pl ro nu t r) S w hl.1 (c_X8_throwing l D Z b X sv sd sm th tl pl ro nu t r 1 ) [0, 1, 2, 3, 4, 5] rfl rfl rfl rfl gX8_channel_X8_throwing rfl hdV_X8_throwing ⟨Nat.le_of_ble_eq_true rfl, Nat.le_of_ble_eq_true rfl⟩ (q0 := 0) rfl rfl rfl rfl (Nat.le_of_ble_eq_true rfl) ⟨Nat.zero_le _, Nat.zero_le _⟩ dX8_channel_9 (fun H locs w => ?_)
    exact nv_iret S w hr hlocks rfl (by rw [kC_1 h_1]; try rfl) (by rw [kC_1 h_1]; try rfl) dX8_channel_12

theorem enc_val {X : ST} {v : Nat} (hv : v < 8) (h7 : v ≠ 7) : enc X v = valF X v := by
  unfold valF
  rw [if_neg h7]
  by_cases h : v = 6
  · subst h; rfl
  · rw [if_neg h, enc_g (by omega)]

theorem hn_X8_valueOf_8 : ∀ w ∈ wsX80, w ∈ wsX8_valueOf := by decide +kernel
set_option maxRecDepth 100000 in
set_option maxHeartbeats 4000000 in
theorem c_X8_valueOf (l : Launch) (D : va_G) (Z : Nat → ClassId) (b : Nat → Nat) (X : ST) (sv sd : Nat → Nat) (sm th tl pl ro nu : Nat) (t r : Nat → Nat) (v : Nat) (hv : v < 8) (h0 : X.2.1 0 < 8) : Ci l yX8_valueOf wsX8_valueOf 1 20 D Z [.ref (b 0), vI v] (mdM Z b X sv sd sm th tl pl ro nu t r) (nI (valF X v)) (mdM Z b X sv sd sm th tl pl ro nu t r) := by
  refine ne_i (cc := cX8_valueOf) (maxL := 2) (by decide +kernel) rfl (Nat.le_of_ble_eq_true rfl) (fun p e s m args below meth c A ls (S : CallFix p m c cX8_valueOf 2 s args wsX8_valueOf RX8) hr hlocks hl w => ?_)
  have hl : lv_has ls 2 [(0, .ref (b 0)), (1, vI v)] := hl
  refine lv_iload_n S.1 S.2.1 dX8_valueOf_0 rfl (lv_at hl 1 rfl) ?_
  refine lv_bipush (v := nI 7) S.1 S.2.1 dX8_valueOf_1 (by decide +kernel) ?_
  refine nv_icmp_ne S (by omega) (by omega) (tgt := 13) dX8_valueOf_3 (by decide) (fun h_1 => ?_) (fun h_1 => ?_)
  · skip
    refine lv_aload_n S.1 S.2.1 dX8_valueOf_13 rfl (lv_at hl 0 rfl) ?_
    refine nv_get S w (C := RX8) (T := TX8) (N := 11) hn_X8_valueOf_8 0 rfl rfl 0 (by decide) (List.mem_of_getElem? (i := 1) rfl) (v := .ref (b 1)) rfl dX8_valueOf_14 ?_
    refine lv_iload_n S.1 S.2.1 dX8_valueOf_17 rfl (lv_at hl 1 rfl) ?_
    refine nv_iald S w (i := v) (g := (enc X)) 1 rfl (by omega) (by decide) dX8_valueOf_18 ?_
    refine W.eq (g2 := F0 m 19 ls [vI (valF X v)]) (by rw [enc_val hv h_1]) ?_
    exact nv_iret S w hr hlocks rfl rfl rfl dX8_valueOf_19
  · skip
    refine lv_aload_n S.1 S.2.1 dX8_valueOf_6 rfl (lv_at hl 0 rfl) ?_
    refine nv_rVi (rest := []) S w hl.1 (c_X8_patternAtPlace l D Z b X sv sd sm th tl pl ro nu t r h0) [0, 1, 2, 3, 4, 5] rfl rfl gX8_valueOf_X8_patternAtPlace rfl hdV_X8_patternAtPlace ⟨Nat.le_of_ble_eq_true rfl, Nat.le_of_ble_eq_true rfl⟩ (q0 := 0) rfl rfl rfl rfl (Nat.le_of_ble_eq_true rfl) ⟨Nat.zero_le _, Nat.zero_le _⟩ dX8_valueOf_7 (fun H locs w => ?_)
    refine lv_goto (tgt := 19) S.1 S.2.1 dX8_valueOf_10 (by decide) ?_
    exact nv_iret S w hr hlocks rfl (by rw [show v = 7 by omega]; rfl) rfl dX8_valueOf_19

theorem hdV_X8_valueOf : yX8_valueOf.cls = RX8 ∧ yX8_valueOf.cls ≠ "java/lang/invoke/MethodHandle" ∧ yX8_valueOf.cls ≠ "java/lang/invoke/VarHandle" ∧ (parseMethodDescriptor yX8_valueOf.desc).map (fun d => d.parameters.length) = some 1 := by decide +kernel
set_option maxRecDepth 100000 in
set_option maxHeartbeats 4000000 in
theorem c_X8_value (l : Launch) (D : va_G) (Z : Nat → ClassId) (b : Nat → Nat) (X : ST) (sv sd : Nat → Nat) (sm th tl pl ro nu : Nat) (t r : Nat → Nat) (xa : Int32) (h0 : X.2.1 0 < 8) : Ci l yX8_value wsX8_value 2 41 D Z [.ref (b 0), .int xa] (mdM Z b X sv sd sm th tl pl ro nu t r) (ifz (kC (rgI 0 7 xa) True) (nI (valF X (toN xa))) (nI 0)) (mdM Z b X sv sd sm (kC (rgI 0 7 xa) True) tl pl ro nu t r) := by
  refine ne_i (cc := cX8_value) (maxL := 2) (by decide +kernel) rfl (Nat.le_of_ble_eq_true rfl) (fun p e s m args below meth c A ls (S : CallFix p m c cX8_value 2 s args wsX8_value RX8) hr hlocks hl w => ?_)
  have hl : lv_has ls 2 [(0, .ref (b 0)), (1, .int xa)] := hl
  refine lv_iload_n S.1 S.2.1 dX8_value_0 rfl (lv_at hl 1 rfl) ?_
  refine lv_i2l (v := xa.toInt64) S.1 S.2.1 dX8_value_1 rfl ?_
  refine lv_lconst (v := 0) S.1 S.2.1 dX8_value_2 rfl ?_
  refine lv_ldc2 (v := 7) S.1 S.2.1 S.2.2.2.1 (S.2.2.2.2 _ (by decide +kernel)) dX8_value_3 ?_
  refine nv_pSi (rest := []) S w hl.1 (c_X8_inI l D Z xa 0 7 (by omega) (by omega)) gX8_value_X8_in rfl hdS_X8_in ⟨Nat.le_of_ble_eq_true rfl, Nat.le_of_ble_eq_true rfl⟩ rfl rfl (Nat.le_of_ble_eq_true rfl) ⟨Nat.zero_le _, Nat.zero_le _⟩ dX8_value_6 (fun H locs w => ?_)
  refine nv_if_eqB S (tgt := 24) dX8_value_9 (by decide) (fun h_1 => ?_) (fun h_1 => ?_)
  · skip
    refine lv_aload_n S.1 S.2.1 dX8_value_24 rfl (lv_at hl 0 rfl) ?_
    refine lv_iconst (v := nI 1) S.1 S.2.1 dX8_value_25 (ofInt_nI 1) ?_
    refine nv_cVi (rest := []) (ws' := mdM Z b X sv sd sm 1 tl pl ro nu t r) S w hl.1 (c_X8_throwing l D Z b X sv sd sm th tl pl ro nu t r 1 ) [0, 1, 2, 3, 4, 5] rfl rfl rfl rfl gX8_value_X8_throwing rfl hdV_X8_throwing ⟨Nat.le_of_ble_eq_true rfl, Nat.le_of_ble_eq_true rfl⟩ (q0 := 0) rfl rfl rfl rfl (Nat.le_of_ble_eq_true rfl) ⟨Nat.zero_le _, Nat.zero_le _⟩ dX8_value_26 (fun H locs w => ?_)
    exact nv_iret S w hr hlocks rfl (by rw [kC_1 h_1]; try rfl) (by rw [kC_1 h_1]; try rfl) dX8_value_29
  · skip
    obtain ⟨na, rfl, hna⟩ := rg_nat (by decide) (by decide) h_1
    have eqna : toN (nI na) = na := toN_nI (by omega)
    refine lv_aload_n S.1 S.2.1 dX8_value_12 rfl (lv_at hl 0 rfl) ?_
    refine lv_aload_n S.1 S.2.1 dX8_value_13 rfl (lv_at hl 0 rfl) ?_
    refine lv_iload_n S.1 S.2.1 dX8_value_14 rfl (lv_at hl 1 rfl) ?_
    refine nv_rVi (rest := [.ref (b 0)]) S w hl.1 (c_X8_valueOf l D Z b X sv sd sm th tl pl ro nu t r na (by omega) h0) [0, 1, 2, 3, 4, 5] rfl rfl gX8_value_X8_valueOf rfl hdV_X8_valueOf ⟨Nat.le_of_ble_eq_true rfl, Nat.le_of_ble_eq_true rfl⟩ (q0 := 0) rfl rfl rfl rfl (Nat.le_of_ble_eq_true rfl) ⟨Nat.zero_le _, Nat.zero_le _⟩ dX8_value_15 (fun H locs w => ?_)
    refine nv_cVi (rest := []) (ws' := mdM Z b X sv sd sm 0 tl pl ro nu t r) S w hl.1 (c_X8_fine l D Z b X sv sd sm th tl pl ro nu t r (nI (valF X na)) ) [0, 1, 2, 3, 4, 5] rfl rfl rfl rfl gX8_value_X8_fine rfl hdV_X8_fine ⟨Nat.le_of_ble_eq_true rfl, Nat.le_of_ble_eq_true rfl⟩ (q0 := 0) rfl rfl rfl rfl (Nat.le_of_ble_eq_true rfl) ⟨Nat.zero_le _, Nat.zero_le _⟩ dX8_value_18 (fun H locs w => ?_)
    refine lv_goto (tgt := 29) S.1 S.2.1 dX8_value_21 (by decide) ?_
    exact nv_iret S w hr hlocks rfl (by rw [kC_0 h_1 trivial]; (try simp only [eqna]); first | done | rfl | (unfold ifz; rw [if_pos rfl])) (by rw [kC_0 h_1 trivial]; (try simp only [eqna]); first | done | rfl | (simp only [ifz, eq_self_iff_true, if_true])) dX8_value_29

theorem hdV_X8_hashIf : yX8_hashIf.cls = RX8 ∧ yX8_hashIf.cls ≠ "java/lang/invoke/MethodHandle" ∧ yX8_hashIf.cls ≠ "java/lang/invoke/VarHandle" ∧ (parseMethodDescriptor yX8_hashIf.desc).map (fun d => d.parameters.length) = some 1 := by decide +kernel
set_option maxRecDepth 100000 in
set_option maxHeartbeats 4000000 in
theorem c_X8_hashOf (l : Launch) (D : va_G) (Z : Nat → ClassId) (b : Nat → Nat) (X : ST) (sv sd : Nat → Nat) (sm th tl pl ro nu : Nat) (t r : Nat → Nat) (xa : Int32) (hX : XB X) : Ci l yX8_hashOf wsX8_hashOf 7 159 D Z [.ref (b 0), .int xa] (mdM Z b X sv sd sm th tl pl ro nu t r) (ifz (kC (rgI 0 500 xa) True) (hsN X.1 X.2 (toN xa)) (nI 0)) (mdM Z b X sv (ifz (kC (rgI 0 500 xa) True) (enc X) sd) sm (kC (rgI 0 500 xa) True) tl pl ro nu t r) := by
  refine ne_i (cc := cX8_hashOf) (maxL := 2) (by decide +kernel) rfl (Nat.le_of_ble_eq_true rfl) (fun p e s m args below meth c A ls (S : CallFix p m c cX8_hashOf 2 s args wsX8_hashOf RX8) hr hlocks hl w => ?_)
  have hl : lv_has ls 2 [(0, .ref (b 0)), (1, .int xa)] := hl
  refine lv_iload_n S.1 S.2.1 dX8_hashOf_0 rfl (lv_at hl 1 rfl) ?_
  refine lv_i2l (v := xa.toInt64) S.1 S.2.1 dX8_hashOf_1 rfl ?_
  refine lv_lconst (v := 0) S.1 S.2.1 dX8_hashOf_2 rfl ?_
  refine lv_ldc2 (v := 500) S.1 S.2.1 S.2.2.2.1 (S.2.2.2.2 _ (by decide +kernel)) dX8_hashOf_3 ?_
  refine nv_pSi (rest := []) S w hl.1 (c_X8_inI l D Z xa 0 500 (by omega) (by omega)) gX8_hashOf_X8_in rfl hdS_X8_in ⟨Nat.le_of_ble_eq_true rfl, Nat.le_of_ble_eq_true rfl⟩ rfl rfl (Nat.le_of_ble_eq_true rfl) ⟨Nat.zero_le _, Nat.zero_le _⟩ dX8_hashOf_6 (fun H locs w => ?_)
  refine nv_if_eqB S (tgt := 24) dX8_hashOf_9 (by decide) (fun h_1 => ?_) (fun h_1 => ?_)
  · skip
    refine lv_aload_n S.1 S.2.1 dX8_hashOf_24 rfl (lv_at hl 0 rfl) ?_
    refine lv_iconst (v := nI 1) S.1 S.2.1 dX8_hashOf_25 (ofInt_nI 1) ?_
    refine nv_cVi (rest := []) (ws' := mdM Z b X sv sd sm 1 tl pl ro nu t r) S w hl.1 (c_X8_throwing l D Z b X sv sd sm th tl pl ro nu t r 1 ) [0, 1, 2, 3, 4, 5] rfl rfl rfl rfl gX8_hashOf_X8_throwing rfl hdV_X8_throwing ⟨Nat.le_of_ble_eq_true rfl, Nat.le_of_ble_eq_true rfl⟩ (q0 := 0) rfl rfl rfl rfl (Nat.le_of_ble_eq_true rfl) ⟨Nat.zero_le _, Nat.zero_le _⟩ dX8_hashOf_26 (fun H locs w => ?_)
    exact nv_iret S w hr hlocks rfl (by rw [kC_1 h_1]; try rfl) (by rw [kC_1 h_1]; try rfl) dX8_hashOf_29
  · skip
    obtain ⟨na, rfl, hna⟩ := rg_nat (by decide) (by decide) h_1
    have eqna : toN (nI na) = na := toN_nI (by omega)
    refine lv_aload_n S.1 S.2.1 dX8_hashOf_12 rfl (lv_at hl 0 rfl) ?_
    refine lv_aload_n S.1 S.2.1 dX8_hashOf_13 rfl (lv_at hl 0 rfl) ?_
    refine lv_iload_n S.1 S.2.1 dX8_hashOf_14 rfl (lv_at hl 1 rfl) ?_
    refine nv_cVi (rest := [.ref (b 0)]) (ws' := mdM Z b X sv (enc X) sm th tl pl ro nu t r) S w hl.1 (c_X8_hashIf l D Z b X sv sd sm th tl pl ro nu t r na hX.1 hX.2.1 (by omega)) [0, 1, 2, 3, 4, 5] rfl rfl rfl rfl gX8_hashOf_X8_hashIf rfl hdV_X8_hashIf ⟨Nat.le_of_ble_eq_true rfl, Nat.le_of_ble_eq_true rfl⟩ (q0 := 0) rfl rfl rfl rfl (Nat.le_of_ble_eq_true rfl) ⟨Nat.zero_le _, Nat.zero_le _⟩ dX8_hashOf_15 (fun H locs w => ?_)
    refine nv_cVi (rest := []) (ws' := mdM Z b X sv (enc X) sm 0 tl pl ro nu t r) S w hl.1 (c_X8_fine l D Z b X sv (enc X) sm th tl pl ro nu t r (hsN X.1 X.2 na) ) [0, 1, 2, 3, 4, 5] rfl rfl rfl rfl gX8_hashOf_X8_fine rfl hdV_X8_fine ⟨Nat.le_of_ble_eq_true rfl, Nat.le_of_ble_eq_true rfl⟩ (q0 := 0) rfl rfl rfl rfl (Nat.le_of_ble_eq_true rfl) ⟨Nat.zero_le _, Nat.zero_le _⟩ dX8_hashOf_18 (fun H locs w => ?_)
    refine lv_goto (tgt := 29) S.1 S.2.1 dX8_hashOf_21 (by decide) ?_
    exact nv_iret S w hr hlocks rfl (by rw [kC_0 h_1 trivial]; (try simp only [eqna]); first | done | rfl | (unfold ifz; rw [if_pos rfl])) (by rw [kC_0 h_1 trivial]; (try simp only [eqna]); first | done | rfl | (simp only [ifz, eq_self_iff_true, if_true])) dX8_hashOf_29
