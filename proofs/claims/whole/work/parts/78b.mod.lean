theorem hn_X8_setOrder_8 : ∀ w ∈ wsX80, w ∈ wsX8_setOrder := by decide +kernel
set_option maxRecDepth 100000 in
set_option maxHeartbeats 4000000 in
theorem c_X8_setOrder (l : Launch) (D : va_G) (Z : Nat → ClassId) (b : Nat → Nat) (X : ST) (sv sd : Nat → Nat) (sm th tl pl ro nu : Nat) (t r : Nat → Nat) (xa xn : Int32) (hsm : sm ≤ 4) (hpl : X.1.2.2.2 ≤ 8) : Ci l yX8_setOrder wsX8_setOrder 2 45 D Z [.ref (b 0), .int xa, .int xn] (mdM Z b X sv sd sm th tl pl ro nu t r) (ifz (kC (rgI 0 X.1.2.2.2 xa ∧ xa < nI 8) (rgI 0 5 xn)) (nI (X.1.2.2.2 + bP (toN xa = X.1.2.2.2))) (nI 0)) (mdM Z b (ifz (kC (rgI 0 X.1.2.2.2 xa ∧ xa < nI 8) (rgI 0 5 xn)) (mOrd X (toN xa) (toN xn)) X) (ifz (kC (rgI 0 X.1.2.2.2 xa ∧ xa < nI 8) (rgI 0 5 xn)) (svS sv sm X) sv) sd (ifz (kC (rgI 0 X.1.2.2.2 xa ∧ xa < nI 8) (rgI 0 5 xn)) (svN sm + 1) sm) (kC (rgI 0 X.1.2.2.2 xa ∧ xa < nI 8) (rgI 0 5 xn)) tl pl ro nu t r) := by
  refine ne_i (cc := cX8_setOrder) (maxL := 3) (by decide +kernel) rfl (Nat.le_of_ble_eq_true rfl) (fun p e s m args below meth c A ls (S : CallFix p m c cX8_setOrder 3 s args wsX8_setOrder RX8) hr hlocks hl w => ?_)
  have hl : lv_has ls 3 [(0, .ref (b 0)), (1, .int xa), (2, .int xn)] := hl
  refine lv_iload_n S.1 S.2.1 dX8_setOrder_0 rfl (lv_at hl 1 rfl) ?_
  refine lv_i2l (v := xa.toInt64) S.1 S.2.1 dX8_setOrder_1 rfl ?_
  refine lv_lconst (v := 0) S.1 S.2.1 dX8_setOrder_2 rfl ?_
  refine lv_aload_n S.1 S.2.1 dX8_setOrder_3 rfl (lv_at hl 0 rfl) ?_
  refine nv_get S w (C := RX8) (T := TX8) (N := 11) hn_X8_setOrder_8 0 rfl rfl 0 (by decide) (List.mem_of_getElem? (i := 1) rfl) (v := .ref (b 1)) rfl dX8_setOrder_4 ?_
  refine lv_bipush (v := nI 6) S.1 S.2.1 dX8_setOrder_7 (by decide +kernel) ?_
  refine nv_iald S w (i := 6) (g := (enc X)) 1 rfl (by omega) (by decide) dX8_setOrder_9 ?_
  refine W.eq (g2 := F0 m 10 ls [vI X.1.2.2.2, .long 0, .long xa.toInt64]) rfl ?_
  refine lv_i2l (v := (nI X.1.2.2.2).toInt64) S.1 S.2.1 dX8_setOrder_10 rfl ?_
  refine W.eq (g2 := F0 m 11 ls [.long (lN X.1.2.2.2), .long 0, .long xa.toInt64]) (by rw [nI_l (by omega)]) ?_
  refine nv_pSi (rest := []) S w hl.1 (c_X8_inI l D Z xa 0 X.1.2.2.2 (by omega) (by omega)) gX8_setOrder_X8_in rfl hdS_X8_in ⟨Nat.le_of_ble_eq_true rfl, Nat.le_of_ble_eq_true rfl⟩ rfl rfl (Nat.le_of_ble_eq_true rfl) ⟨Nat.zero_le _, Nat.zero_le _⟩ dX8_setOrder_11 (fun H locs w => ?_)
  refine nv_if_eqB S (tgt := 23) dX8_setOrder_14 (by decide) (fun h_1 => ?_) (fun h_1 => ?_)
  · skip
    refine lv_aload_n S.1 S.2.1 dX8_setOrder_23 rfl (lv_at hl 0 rfl) ?_
    refine lv_iconst (v := nI 1) S.1 S.2.1 dX8_setOrder_24 (ofInt_nI 1) ?_
    refine nv_cVi (rest := []) (ws' := mdM Z b X sv sd sm 1 tl pl ro nu t r) S w hl.1 (c_X8_throwing l D Z b X sv sd sm th tl pl ro nu t r 1 ) [0, 1, 2, 3, 4, 5] rfl rfl rfl rfl gX8_setOrder_X8_throwing rfl hdV_X8_throwing ⟨Nat.le_of_ble_eq_true rfl, Nat.le_of_ble_eq_true rfl⟩ (q0 := 0) rfl rfl rfl rfl (Nat.le_of_ble_eq_true rfl) ⟨Nat.zero_le _, Nat.zero_le _⟩ dX8_setOrder_25 (fun H locs w => ?_)
    exact nv_iret S w hr hlocks rfl (by rw [kC_1 (fun z9 => h_1 z9.1)]; rfl) (by rw [kC_1 (fun z9 => h_1 z9.1)]; rfl) dX8_setOrder_28
  · skip
    refine lv_iload_n S.1 S.2.1 dX8_setOrder_17 rfl (lv_at hl 1 rfl) ?_
    refine lv_bipush (v := nI 8) S.1 S.2.1 dX8_setOrder_18 (by decide +kernel) ?_
    refine lv_icmp_lt S.1 S.2.1 (tgt := 29) dX8_setOrder_20 (by decide) (fun h_2 => ?_) (fun h_2 => ?_)
    · skip
      refine lv_iload_n S.1 S.2.1 dX8_setOrder_29 rfl (lv_at hl 2 rfl) ?_
      refine nv_pSi (rest := []) S w hl.1 (c_X8_isPattern l D Z xn ) gX8_setOrder_X8_isPattern rfl hdS_X8_isPattern ⟨Nat.le_of_ble_eq_true rfl, Nat.le_of_ble_eq_true rfl⟩ rfl rfl (Nat.le_of_ble_eq_true rfl) ⟨Nat.zero_le _, Nat.zero_le _⟩ dX8_setOrder_30 (fun H locs w => ?_)
      refine nv_if_neB S (tgt := 42) dX8_setOrder_33 (by decide) (fun h_3 => ?_) (fun h_3 => ?_)
      · skip
        have hx8 := h_2
        obtain ⟨na, rfl, hna⟩ := rg_nat (by decide) (by omega) h_1
        have eqna : toN (nI na) = na := toN_nI (by omega)
        obtain ⟨nn, rfl, hnn⟩ := rg_nat (by decide) (by decide) h_3
        have eqnn : toN (nI nn) = nn := toN_nI (by omega)
        rw [nI_ltI (by omega) (by decide)] at hx8
        refine lv_aload_n S.1 S.2.1 dX8_setOrder_42 rfl (lv_at hl 0 rfl) ?_
        refine nv_cVv (rest := []) (ws' := mdM Z b X (svS sv sm X) sd (svN sm + 1) th tl pl ro nu t r) S w hl.1 (c_X8_save l D Z b X sv sd sm th tl pl ro nu t r (by omega)) [0, 1, 2, 3, 4, 5] rfl rfl rfl rfl gX8_setOrder_X8_save rfl hdV_X8_save ⟨Nat.le_of_ble_eq_true rfl, Nat.le_of_ble_eq_true rfl⟩ (q0 := 0) rfl rfl rfl rfl (Nat.le_of_ble_eq_true rfl) ⟨Nat.zero_le _, Nat.zero_le _⟩ dX8_setOrder_43 (fun H locs w => ?_)
        refine lv_aload_n S.1 S.2.1 dX8_setOrder_46 rfl (lv_at hl 0 rfl) ?_
        refine nv_get S w (C := RX8) (T := TX8) (N := 11) hn_X8_setOrder_8 0 rfl rfl 0 (by decide) (List.mem_of_getElem? (i := 1) rfl) (v := .ref (b 1)) rfl dX8_setOrder_47 ?_
        refine lv_bipush (v := nI 7) S.1 S.2.1 dX8_setOrder_50 (by decide +kernel) ?_
        refine lv_iload_n S.1 S.2.1 dX8_setOrder_52 rfl (lv_at hl 1 rfl) ?_
        refine nv_iadd S dX8_setOrder_53 ?_
        refine lv_iload_n S.1 S.2.1 dX8_setOrder_54 rfl (lv_at hl 2 rfl) ?_
        refine nv_iast S w (i := (7 + na)) (x := nn) (g := (enc X)) 1 rfl (by omega) (by decide) (ws' := [(b 0, .inr (7, [.ref (b 1), .ref (b 2), .ref (b 3), vI (svN sm + 1), vI th, .ref (b 4), vI tl, vI pl, .ref (b 5), vI ro, vI nu])), (b 1, .inl (Z 0, 853, .inl (ar 853 (un (enc X) (7 + na) nn)))), (b 2, .inl (Z 0, 3412, .inl (ar 3412 (svS sv sm X)))), (b 3, .inl (Z 0, 853, .inl (ar 853 sd))), (b 4, .inl (Z 0, 100, .inl (ar 100 t))), (b 5, .inl (Z 0, 128, .inl (ar 128 r)))]) rfl dX8_setOrder_55 (fun H locs w => ?_)
        have w := w.as (ws' := mdM Z b ((X.1.1, X.1.2.1, un X.1.2.2.1 na nn, X.1.2.2.2), X.2) (svS sv sm X) sd (svN sm + 1) th tl pl ro nu t r) (mdM_e (un_o (by omega)))
        refine lv_aload_n S.1 S.2.1 dX8_setOrder_56 rfl (lv_at hl 0 rfl) ?_
        refine nv_get S w (C := RX8) (T := TX8) (N := 11) hn_X8_setOrder_8 0 rfl rfl 0 (by decide) (List.mem_of_getElem? (i := 1) rfl) (v := .ref (b 1)) rfl dX8_setOrder_57 ?_
        refine lv_bipush (v := nI 6) S.1 S.2.1 dX8_setOrder_60 (by decide +kernel) ?_
        refine lv_dup2_11 S.1 S.2.1 dX8_setOrder_62 rfl rfl ?_
        refine nv_iald S w (i := 6) (g := (enc ((X.1.1, X.1.2.1, un X.1.2.2.1 na nn, X.1.2.2.2), X.2))) 1 rfl (by omega) (by decide) dX8_setOrder_63 ?_
        refine W.eq (g2 := F0 m 64 ls [vI X.1.2.2.2, vI 6, .ref (b 1)]) rfl ?_
        refine lv_iload_n S.1 S.2.1 dX8_setOrder_64 rfl (lv_at hl 1 rfl) ?_
        refine lv_aload_n S.1 S.2.1 dX8_setOrder_65 rfl (lv_at hl 0 rfl) ?_
        refine nv_get S w (C := RX8) (T := TX8) (N := 11) hn_X8_setOrder_8 0 rfl rfl 0 (by decide) (List.mem_of_getElem? (i := 1) rfl) (v := .ref (b 1)) rfl dX8_setOrder_66 ?_
        refine lv_bipush (v := nI 6) S.1 S.2.1 dX8_setOrder_69 (by decide +kernel) ?_
        refine nv_iald S w (i := 6) (g := (enc ((X.1.1, X.1.2.1, un X.1.2.2.1 na nn, X.1.2.2.2), X.2))) 1 rfl (by omega) (by decide) dX8_setOrder_71 ?_
        refine W.eq (g2 := F0 m 72 ls [vI X.1.2.2.2, vI na, vI X.1.2.2.2, vI 6, .ref (b 1)]) rfl ?_
        refine nv_icmp_ne S (by omega) (by omega) (tgt := 79) dX8_setOrder_72 (by decide) (fun h_4 => ?_) (fun h_4 => ?_)
        · skip
          refine lv_iconst (v := nI 0) S.1 S.2.1 dX8_setOrder_79 (ofInt_nI 0) ?_
          refine nv_iadd S dX8_setOrder_80 ?_
          refine nv_iast S w (i := 6) (x := (X.1.2.2.2 + 0)) (g := (enc ((X.1.1, X.1.2.1, un X.1.2.2.1 na nn, X.1.2.2.2), X.2))) 1 rfl (by omega) (by decide) (ws' := [(b 0, .inr (7, [.ref (b 1), .ref (b 2), .ref (b 3), vI (svN sm + 1), vI th, .ref (b 4), vI tl, vI pl, .ref (b 5), vI ro, vI nu])), (b 1, .inl (Z 0, 853, .inl (ar 853 (un (enc ((X.1.1, X.1.2.1, un X.1.2.2.1 na nn, X.1.2.2.2), X.2)) 6 (X.1.2.2.2 + 0))))), (b 2, .inl (Z 0, 3412, .inl (ar 3412 (svS sv sm X)))), (b 3, .inl (Z 0, 853, .inl (ar 853 sd))), (b 4, .inl (Z 0, 100, .inl (ar 100 t))), (b 5, .inl (Z 0, 128, .inl (ar 128 r)))]) rfl dX8_setOrder_81 (fun H locs w => ?_)
          have w := w.as (ws' := mdM Z b (mOrd X na nn) (svS sv sm X) sd (svN sm + 1) th tl pl ro nu t r) (mdM_e ((un_n).trans (by unfold mOrd; rw [bP_f (by omega)])))
          refine lv_aload_n S.1 S.2.1 dX8_setOrder_82 rfl (lv_at hl 0 rfl) ?_
          refine lv_aload_n S.1 S.2.1 dX8_setOrder_83 rfl (lv_at hl 0 rfl) ?_
          refine nv_get S w (C := RX8) (T := TX8) (N := 11) hn_X8_setOrder_8 0 rfl rfl 0 (by decide) (List.mem_of_getElem? (i := 1) rfl) (v := .ref (b 1)) rfl dX8_setOrder_84 ?_
          refine lv_bipush (v := nI 6) S.1 S.2.1 dX8_setOrder_87 (by decide +kernel) ?_
          refine nv_iald S w (i := 6) (g := (enc (mOrd X na nn))) 1 rfl (by omega) (by decide) dX8_setOrder_89 ?_
          refine W.eq (g2 := F0 m 90 ls [vI (X.1.2.2.2 + bP (na = X.1.2.2.2)), .ref (b 0)]) rfl ?_
          refine nv_cVi (rest := []) (ws' := mdM Z b (mOrd X na nn) (svS sv sm X) sd (svN sm + 1) 0 tl pl ro nu t r) S w hl.1 (c_X8_fine l D Z b (mOrd X na nn) (svS sv sm X) sd (svN sm + 1) th tl pl ro nu t r (nI (X.1.2.2.2 + bP (na = X.1.2.2.2))) ) [0, 1, 2, 3, 4, 5] rfl rfl rfl rfl gX8_setOrder_X8_fine rfl hdV_X8_fine ⟨Nat.le_of_ble_eq_true rfl, Nat.le_of_ble_eq_true rfl⟩ (q0 := 0) rfl rfl rfl rfl (Nat.le_of_ble_eq_true rfl) ⟨Nat.zero_le _, Nat.zero_le _⟩ dX8_setOrder_90 (fun H locs w => ?_)
          exact nv_iret S w hr hlocks rfl (by rw [kC_0 ⟨h_1, h_2⟩ h_3]; simp only [eqna, eqnn]; rfl) (by rw [kC_0 ⟨h_1, h_2⟩ h_3]; simp only [eqna, eqnn]; rfl) dX8_setOrder_93
        · skip
          refine lv_iconst (v := nI 1) S.1 S.2.1 dX8_setOrder_75 (ofInt_nI 1) ?_
          refine lv_goto (tgt := 80) S.1 S.2.1 dX8_setOrder_76 (by decide) ?_
          refine nv_iadd S dX8_setOrder_80 ?_
          refine nv_iast S w (i := 6) (x := (X.1.2.2.2 + 1)) (g := (enc ((X.1.1, X.1.2.1, un X.1.2.2.1 na nn, X.1.2.2.2), X.2))) 1 rfl (by omega) (by decide) (ws' := [(b 0, .inr (7, [.ref (b 1), .ref (b 2), .ref (b 3), vI (svN sm + 1), vI th, .ref (b 4), vI tl, vI pl, .ref (b 5), vI ro, vI nu])), (b 1, .inl (Z 0, 853, .inl (ar 853 (un (enc ((X.1.1, X.1.2.1, un X.1.2.2.1 na nn, X.1.2.2.2), X.2)) 6 (X.1.2.2.2 + 1))))), (b 2, .inl (Z 0, 3412, .inl (ar 3412 (svS sv sm X)))), (b 3, .inl (Z 0, 853, .inl (ar 853 sd))), (b 4, .inl (Z 0, 100, .inl (ar 100 t))), (b 5, .inl (Z 0, 128, .inl (ar 128 r)))]) rfl dX8_setOrder_81 (fun H locs w => ?_)
          have w := w.as (ws' := mdM Z b (mOrd X na nn) (svS sv sm X) sd (svN sm + 1) th tl pl ro nu t r) (mdM_e ((un_n).trans (by unfold mOrd; rw [bP_t (by omega)])))
          refine lv_aload_n S.1 S.2.1 dX8_setOrder_82 rfl (lv_at hl 0 rfl) ?_
          refine lv_aload_n S.1 S.2.1 dX8_setOrder_83 rfl (lv_at hl 0 rfl) ?_
          refine nv_get S w (C := RX8) (T := TX8) (N := 11) hn_X8_setOrder_8 0 rfl rfl 0 (by decide) (List.mem_of_getElem? (i := 1) rfl) (v := .ref (b 1)) rfl dX8_setOrder_84 ?_
          refine lv_bipush (v := nI 6) S.1 S.2.1 dX8_setOrder_87 (by decide +kernel) ?_
          refine nv_iald S w (i := 6) (g := (enc (mOrd X na nn))) 1 rfl (by omega) (by decide) dX8_setOrder_89 ?_
          refine W.eq (g2 := F0 m 90 ls [vI (X.1.2.2.2 + bP (na = X.1.2.2.2)), .ref (b 0)]) rfl ?_
          refine nv_cVi (rest := []) (ws' := mdM Z b (mOrd X na nn) (svS sv sm X) sd (svN sm + 1) 0 tl pl ro nu t r) S w hl.1 (c_X8_fine l D Z b (mOrd X na nn) (svS sv sm X) sd (svN sm + 1) th tl pl ro nu t r (nI (X.1.2.2.2 + bP (na = X.1.2.2.2))) ) [0, 1, 2, 3, 4, 5] rfl rfl rfl rfl gX8_setOrder_X8_fine rfl hdV_X8_fine ⟨Nat.le_of_ble_eq_true rfl, Nat.le_of_ble_eq_true rfl⟩ (q0 := 0) rfl rfl rfl rfl (Nat.le_of_ble_eq_true rfl) ⟨Nat.zero_le _, Nat.zero_le _⟩ dX8_setOrder_90 (fun H locs w => ?_)
          exact nv_iret S w hr hlocks rfl (by rw [kC_0 ⟨h_1, h_2⟩ h_3]; simp only [eqna, eqnn]; rfl) (by rw [kC_0 ⟨h_1, h_2⟩ h_3]; simp only [eqna, eqnn]; rfl) dX8_setOrder_93
      · skip
        refine lv_aload_n S.1 S.2.1 dX8_setOrder_36 rfl (lv_at hl 0 rfl) ?_
        refine lv_iconst (v := nI 2) S.1 S.2.1 dX8_setOrder_37 (ofInt_nI 2) ?_
        refine nv_cVi (rest := []) (ws' := mdM Z b X sv sd sm 2 tl pl ro nu t r) S w hl.1 (c_X8_throwing l D Z b X sv sd sm th tl pl ro nu t r 2 ) [0, 1, 2, 3, 4, 5] rfl rfl rfl rfl gX8_setOrder_X8_throwing rfl hdV_X8_throwing ⟨Nat.le_of_ble_eq_true rfl, Nat.le_of_ble_eq_true rfl⟩ (q0 := 0) rfl rfl rfl rfl (Nat.le_of_ble_eq_true rfl) ⟨Nat.zero_le _, Nat.zero_le _⟩ dX8_setOrder_38 (fun H locs w => ?_)
        exact nv_iret S w hr hlocks rfl (by rw [kC_2 ⟨h_1, h_2⟩ h_3]; rfl) (by rw [kC_2 ⟨h_1, h_2⟩ h_3]; rfl) dX8_setOrder_41
    · skip
      refine lv_aload_n S.1 S.2.1 dX8_setOrder_23 rfl (lv_at hl 0 rfl) ?_
      refine lv_iconst (v := nI 1) S.1 S.2.1 dX8_setOrder_24 (ofInt_nI 1) ?_
      refine nv_cVi (rest := []) (ws' := mdM Z b X sv sd sm 1 tl pl ro nu t r) S w hl.1 (c_X8_throwing l D Z b X sv sd sm th tl pl ro nu t r 1 ) [0, 1, 2, 3, 4, 5] rfl rfl rfl rfl gX8_setOrder_X8_throwing rfl hdV_X8_throwing ⟨Nat.le_of_ble_eq_true rfl, Nat.le_of_ble_eq_true rfl⟩ (q0 := 0) rfl rfl rfl rfl (Nat.le_of_ble_eq_true rfl) ⟨Nat.zero_le _, Nat.zero_le _⟩ dX8_setOrder_25 (fun H locs w => ?_)
      exact nv_iret S w hr hlocks rfl (by rw [kC_1 (fun z9 => h_2 z9.2)]; rfl) (by rw [kC_1 (fun z9 => h_2 z9.2)]; rfl) dX8_setOrder_28

theorem hn_X8_shorten_8 : ∀ w ∈ wsX80, w ∈ wsX8_shorten := by decide +kernel
set_option maxRecDepth 100000 in
set_option maxHeartbeats 4000000 in
theorem c_X8_shorten (l : Launch) (D : va_G) (Z : Nat → ClassId) (b : Nat → Nat) (X : ST) (sv sd : Nat → Nat) (sm th tl pl ro nu : Nat) (t r : Nat → Nat) (hsm : sm ≤ 4) (hpl : X.1.2.2.2 ≤ 8) (hp1 : 1 ≤ X.1.2.2.2) (hp0 : X.2.1 0 < 8) : Ci l yX8_shorten wsX8_shorten 1 21 D Z [.ref (b 0)] (mdM Z b X sv sd sm th tl pl ro nu t r) (ifz (kC (X.1.2.2.2 ≠ 1 ∧ X.2.1 0 ≠ X.1.2.2.2 - 1) True) (nI (X.1.2.2.2 - 1)) (nI 0)) (mdM Z b (ifz (kC (X.1.2.2.2 ≠ 1 ∧ X.2.1 0 ≠ X.1.2.2.2 - 1) True) (mSho X) X) (ifz (kC (X.1.2.2.2 ≠ 1 ∧ X.2.1 0 ≠ X.1.2.2.2 - 1) True) (svS sv sm X) sv) sd (ifz (kC (X.1.2.2.2 ≠ 1 ∧ X.2.1 0 ≠ X.1.2.2.2 - 1) True) (svN sm + 1) sm) (kC (X.1.2.2.2 ≠ 1 ∧ X.2.1 0 ≠ X.1.2.2.2 - 1) True) tl pl ro nu t r) := by
  refine ne_i (cc := cX8_shorten) (maxL := 1) (by decide +kernel) rfl (Nat.le_of_ble_eq_true rfl) (fun p e s m args below meth c A ls (S : CallFix p m c cX8_shorten 1 s args wsX8_shorten RX8) hr hlocks hl w => ?_)
  have hl : lv_has ls 1 [(0, .ref (b 0))] := hl
  refine lv_aload_n S.1 S.2.1 dX8_shorten_0 rfl (lv_at hl 0 rfl) ?_
  refine nv_get S w (C := RX8) (T := TX8) (N := 11) hn_X8_shorten_8 0 rfl rfl 0 (by decide) (List.mem_of_getElem? (i := 1) rfl) (v := .ref (b 1)) rfl dX8_shorten_1 ?_
  refine lv_bipush (v := nI 6) S.1 S.2.1 dX8_shorten_4 (by decide +kernel) ?_
  refine nv_iald S w (i := 6) (g := (enc X)) 1 rfl (by omega) (by decide) dX8_shorten_6 ?_
  refine W.eq (g2 := F0 m 7 ls [vI X.1.2.2.2]) rfl ?_
  refine lv_iconst (v := nI 1) S.1 S.2.1 dX8_shorten_7 (ofInt_nI 1) ?_
  refine nv_icmp_eq S (by omega) (by omega) (tgt := 29) dX8_shorten_8 (by decide) (fun h_1 => ?_) (fun h_1 => ?_)
  · skip
    refine lv_aload_n S.1 S.2.1 dX8_shorten_29 rfl (lv_at hl 0 rfl) ?_
    refine lv_iconst (v := nI 1) S.1 S.2.1 dX8_shorten_30 (ofInt_nI 1) ?_
    refine nv_cVi (rest := []) (ws' := mdM Z b X sv sd sm 1 tl pl ro nu t r) S w hl.1 (c_X8_throwing l D Z b X sv sd sm th tl pl ro nu t r 1 ) [0, 1, 2, 3, 4, 5] rfl rfl rfl rfl gX8_shorten_X8_throwing rfl hdV_X8_throwing ⟨Nat.le_of_ble_eq_true rfl, Nat.le_of_ble_eq_true rfl⟩ (q0 := 0) rfl rfl rfl rfl (Nat.le_of_ble_eq_true rfl) ⟨Nat.zero_le _, Nat.zero_le _⟩ dX8_shorten_31 (fun H locs w => ?_)
    exact nv_iret S w hr hlocks rfl (by rw [kC_1 (fun z9 => z9.1 h_1)]; rfl) (by rw [kC_1 (fun z9 => z9.1 h_1)]; rfl) dX8_shorten_34
  · skip
    refine lv_aload_n S.1 S.2.1 dX8_shorten_11 rfl (lv_at hl 0 rfl) ?_
    refine nv_get S w (C := RX8) (T := TX8) (N := 11) hn_X8_shorten_8 0 rfl rfl 0 (by decide) (List.mem_of_getElem? (i := 1) rfl) (v := .ref (b 1)) rfl dX8_shorten_12 ?_
    refine lv_iconst (v := nI 0) S.1 S.2.1 dX8_shorten_15 (ofInt_nI 0) ?_
    refine nv_iald S w (i := 0) (g := (enc X)) 1 rfl (by omega) (by decide) dX8_shorten_16 ?_
    refine W.eq (g2 := F0 m 17 ls [vI (X.2.1 0)]) rfl ?_
    refine lv_aload_n S.1 S.2.1 dX8_shorten_17 rfl (lv_at hl 0 rfl) ?_
    refine nv_get S w (C := RX8) (T := TX8) (N := 11) hn_X8_shorten_8 0 rfl rfl 0 (by decide) (List.mem_of_getElem? (i := 1) rfl) (v := .ref (b 1)) rfl dX8_shorten_18 ?_
    refine lv_bipush (v := nI 6) S.1 S.2.1 dX8_shorten_21 (by decide +kernel) ?_
    refine nv_iald S w (i := 6) (g := (enc X)) 1 rfl (by omega) (by decide) dX8_shorten_23 ?_
    refine W.eq (g2 := F0 m 24 ls [vI X.1.2.2.2, vI (X.2.1 0)]) rfl ?_
    refine lv_iconst (v := nI 1) S.1 S.2.1 dX8_shorten_24 (ofInt_nI 1) ?_
    refine nv_isub S (by omega) dX8_shorten_25 ?_
    refine nv_icmp_ne S (by omega) (by omega) (tgt := 35) dX8_shorten_26 (by decide) (fun h_2 => ?_) (fun h_2 => ?_)
    · skip
      refine lv_aload_n S.1 S.2.1 dX8_shorten_35 rfl (lv_at hl 0 rfl) ?_
      refine nv_cVv (rest := []) (ws' := mdM Z b X (svS sv sm X) sd (svN sm + 1) th tl pl ro nu t r) S w hl.1 (c_X8_save l D Z b X sv sd sm th tl pl ro nu t r (by omega)) [0, 1, 2, 3, 4, 5] rfl rfl rfl rfl gX8_shorten_X8_save rfl hdV_X8_save ⟨Nat.le_of_ble_eq_true rfl, Nat.le_of_ble_eq_true rfl⟩ (q0 := 0) rfl rfl rfl rfl (Nat.le_of_ble_eq_true rfl) ⟨Nat.zero_le _, Nat.zero_le _⟩ dX8_shorten_36 (fun H locs w => ?_)
      refine lv_aload_n S.1 S.2.1 dX8_shorten_39 rfl (lv_at hl 0 rfl) ?_
      refine nv_get S w (C := RX8) (T := TX8) (N := 11) hn_X8_shorten_8 0 rfl rfl 0 (by decide) (List.mem_of_getElem? (i := 1) rfl) (v := .ref (b 1)) rfl dX8_shorten_40 ?_
      refine lv_bipush (v := nI 6) S.1 S.2.1 dX8_shorten_43 (by decide +kernel) ?_
      refine lv_dup2_11 S.1 S.2.1 dX8_shorten_45 rfl rfl ?_
      refine nv_iald S w (i := 6) (g := (enc X)) 1 rfl (by omega) (by decide) dX8_shorten_46 ?_
      refine W.eq (g2 := F0 m 47 ls [vI X.1.2.2.2, vI 6, .ref (b 1)]) rfl ?_
      refine lv_iconst (v := nI 1) S.1 S.2.1 dX8_shorten_47 (ofInt_nI 1) ?_
      refine nv_isub S (by omega) dX8_shorten_48 ?_
      refine nv_iast S w (i := 6) (x := (X.1.2.2.2 - 1)) (g := (enc X)) 1 rfl (by omega) (by decide) (ws' := [(b 0, .inr (7, [.ref (b 1), .ref (b 2), .ref (b 3), vI (svN sm + 1), vI th, .ref (b 4), vI tl, vI pl, .ref (b 5), vI ro, vI nu])), (b 1, .inl (Z 0, 853, .inl (ar 853 (un (enc X) 6 (X.1.2.2.2 - 1))))), (b 2, .inl (Z 0, 3412, .inl (ar 3412 (svS sv sm X)))), (b 3, .inl (Z 0, 853, .inl (ar 853 sd))), (b 4, .inl (Z 0, 100, .inl (ar 100 t))), (b 5, .inl (Z 0, 128, .inl (ar 128 r)))]) rfl dX8_shorten_49 (fun H locs w => ?_)
      have w := w.as (ws' := mdM Z b ((X.1.1, X.1.2.1, X.1.2.2.1, X.1.2.2.2 - 1), X.2) (svS sv sm X) sd (svN sm + 1) th tl pl ro nu t r) (mdM_e un_n)
      refine lv_aload_n S.1 S.2.1 dX8_shorten_50 rfl (lv_at hl 0 rfl) ?_
      refine nv_get S w (C := RX8) (T := TX8) (N := 11) hn_X8_shorten_8 0 rfl rfl 0 (by decide) (List.mem_of_getElem? (i := 1) rfl) (v := .ref (b 1)) rfl dX8_shorten_51 ?_
      refine lv_bipush (v := nI 7) S.1 S.2.1 dX8_shorten_54 (by decide +kernel) ?_
      refine lv_aload_n S.1 S.2.1 dX8_shorten_56 rfl (lv_at hl 0 rfl) ?_
      refine nv_get S w (C := RX8) (T := TX8) (N := 11) hn_X8_shorten_8 0 rfl rfl 0 (by decide) (List.mem_of_getElem? (i := 1) rfl) (v := .ref (b 1)) rfl dX8_shorten_57 ?_
      refine lv_bipush (v := nI 6) S.1 S.2.1 dX8_shorten_60 (by decide +kernel) ?_
      refine nv_iald S w (i := 6) (g := (enc ((X.1.1, X.1.2.1, X.1.2.2.1, X.1.2.2.2 - 1), X.2))) 1 rfl (by omega) (by decide) dX8_shorten_62 ?_
      refine W.eq (g2 := F0 m 63 ls [vI (X.1.2.2.2 - 1), vI 7, .ref (b 1)]) rfl ?_
      refine nv_iadd S dX8_shorten_63 ?_
      refine lv_iconst (v := nI 0) S.1 S.2.1 dX8_shorten_64 (ofInt_nI 0) ?_
      refine nv_iast S w (i := (7 + (X.1.2.2.2 - 1))) (x := 0) (g := (enc ((X.1.1, X.1.2.1, X.1.2.2.1, X.1.2.2.2 - 1), X.2))) 1 rfl (by omega) (by decide) (ws' := [(b 0, .inr (7, [.ref (b 1), .ref (b 2), .ref (b 3), vI (svN sm + 1), vI th, .ref (b 4), vI tl, vI pl, .ref (b 5), vI ro, vI nu])), (b 1, .inl (Z 0, 853, .inl (ar 853 (un (enc ((X.1.1, X.1.2.1, X.1.2.2.1, X.1.2.2.2 - 1), X.2)) (7 + (X.1.2.2.2 - 1)) 0)))), (b 2, .inl (Z 0, 3412, .inl (ar 3412 (svS sv sm X)))), (b 3, .inl (Z 0, 853, .inl (ar 853 sd))), (b 4, .inl (Z 0, 100, .inl (ar 100 t))), (b 5, .inl (Z 0, 128, .inl (ar 128 r)))]) rfl dX8_shorten_65 (fun H locs w => ?_)
      have w := w.as (ws' := mdM Z b (mSho X) (svS sv sm X) sd (svN sm + 1) th tl pl ro nu t r) (mdM_e (un_o (by omega)))
      refine lv_aload_n S.1 S.2.1 dX8_shorten_66 rfl (lv_at hl 0 rfl) ?_
      refine lv_aload_n S.1 S.2.1 dX8_shorten_67 rfl (lv_at hl 0 rfl) ?_
      refine nv_get S w (C := RX8) (T := TX8) (N := 11) hn_X8_shorten_8 0 rfl rfl 0 (by decide) (List.mem_of_getElem? (i := 1) rfl) (v := .ref (b 1)) rfl dX8_shorten_68 ?_
      refine lv_bipush (v := nI 6) S.1 S.2.1 dX8_shorten_71 (by decide +kernel) ?_
      refine nv_iald S w (i := 6) (g := (enc (mSho X))) 1 rfl (by omega) (by decide) dX8_shorten_73 ?_
      refine W.eq (g2 := F0 m 74 ls [vI (X.1.2.2.2 - 1), .ref (b 0)]) rfl ?_
      refine nv_cVi (rest := []) (ws' := mdM Z b (mSho X) (svS sv sm X) sd (svN sm + 1) 0 tl pl ro nu t r) S w hl.1 (c_X8_fine l D Z b (mSho X) (svS sv sm X) sd (svN sm + 1) th tl pl ro nu t r (nI (X.1.2.2.2 - 1)) ) [0, 1, 2, 3, 4, 5] rfl rfl rfl rfl gX8_shorten_X8_fine rfl hdV_X8_fine ⟨Nat.le_of_ble_eq_true rfl, Nat.le_of_ble_eq_true rfl⟩ (q0 := 0) rfl rfl rfl rfl (Nat.le_of_ble_eq_true rfl) ⟨Nat.zero_le _, Nat.zero_le _⟩ dX8_shorten_74 (fun H locs w => ?_)
      exact nv_iret S w hr hlocks rfl (by rw [kC_0 ⟨h_1, h_2⟩ trivial]; rfl) (by rw [kC_0 ⟨h_1, h_2⟩ trivial]; rfl) dX8_shorten_77
    · skip
      refine lv_aload_n S.1 S.2.1 dX8_shorten_29 rfl (lv_at hl 0 rfl) ?_
      refine lv_iconst (v := nI 1) S.1 S.2.1 dX8_shorten_30 (ofInt_nI 1) ?_
      refine nv_cVi (rest := []) (ws' := mdM Z b X sv sd sm 1 tl pl ro nu t r) S w hl.1 (c_X8_throwing l D Z b X sv sd sm th tl pl ro nu t r 1 ) [0, 1, 2, 3, 4, 5] rfl rfl rfl rfl gX8_shorten_X8_throwing rfl hdV_X8_throwing ⟨Nat.le_of_ble_eq_true rfl, Nat.le_of_ble_eq_true rfl⟩ (q0 := 0) rfl rfl rfl rfl (Nat.le_of_ble_eq_true rfl) ⟨Nat.zero_le _, Nat.zero_le _⟩ dX8_shorten_31 (fun H locs w => ?_)
      exact nv_iret S w hr hlocks rfl (by rw [kC_1 (fun z9 => z9.2 h_2)]; rfl) (by rw [kC_1 (fun z9 => z9.2 h_2)]; rfl) dX8_shorten_34

theorem hn_X8_cell_8 : ∀ w ∈ wsX80, w ∈ wsX8_cell := by decide +kernel
set_option maxRecDepth 100000 in
set_option maxHeartbeats 4000000 in
theorem c_X8_cell (l : Launch) (D : va_G) (Z : Nat → ClassId) (b : Nat → Nat) (X : ST) (sv sd : Nat → Nat) (sm th tl pl ro nu : Nat) (t r : Nat → Nat) (xa xb xd xn : Int32)  : Ci l yX8_cell wsX8_cell 3 67 D Z [.ref (b 0), .int xa, .int xb, .int xd, .int xn] (mdM Z b X sv sd sm th tl pl ro nu t r) (ifz (kC (rgI 0 5 xa ∧ rgI 0 7 xb ∧ rgI 0 3 xd) (rgI 0 3 xn)) (nI (X.1.1 (cix (toN xa) (toN xb) (toN xd)) (toN xn))) (nI 0)) (mdM Z b X sv sd sm (kC (rgI 0 5 xa ∧ rgI 0 7 xb ∧ rgI 0 3 xd) (rgI 0 3 xn)) tl pl ro nu t r) := by
  refine ne_i (cc := cX8_cell) (maxL := 5) (by decide +kernel) rfl (Nat.le_of_ble_eq_true rfl) (fun p e s m args below meth c A ls (S : CallFix p m c cX8_cell 5 s args wsX8_cell RX8) hr hlocks hl w => ?_)
  have hl : lv_has ls 5 [(0, .ref (b 0)), (1, .int xa), (2, .int xb), (3, .int xd), (4, .int xn)] := hl
  refine lv_iload_n S.1 S.2.1 dX8_cell_0 rfl (lv_at hl 1 rfl) ?_
  refine lv_iload_n S.1 S.2.1 dX8_cell_1 rfl (lv_at hl 2 rfl) ?_
  refine lv_iload_n S.1 S.2.1 dX8_cell_2 rfl (lv_at hl 3 rfl) ?_
  refine nv_pSi (rest := []) S w hl.1 (c_X8_isCell l D Z xa xb xd ) gX8_cell_X8_isCell rfl hdS_X8_isCell ⟨Nat.le_of_ble_eq_true rfl, Nat.le_of_ble_eq_true rfl⟩ rfl rfl (Nat.le_of_ble_eq_true rfl) ⟨Nat.zero_le _, Nat.zero_le _⟩ dX8_cell_3 (fun H locs w => ?_)
  refine nv_if_neB S (tgt := 15) dX8_cell_6 (by decide) (fun h_1 => ?_) (fun h_1 => ?_)
  · skip
    refine lv_iload S.1 S.2.1 dX8_cell_15 (lv_at hl 4 rfl) ?_
    refine lv_i2l (v := xn.toInt64) S.1 S.2.1 dX8_cell_17 rfl ?_
    refine lv_lconst (v := 0) S.1 S.2.1 dX8_cell_18 rfl ?_
    refine lv_ldc2 (v := 3) S.1 S.2.1 S.2.2.2.1 (S.2.2.2.2 _ (by decide +kernel)) dX8_cell_19 ?_
    refine nv_pSi (rest := []) S w hl.1 (c_X8_inI l D Z xn 0 3 (by omega) (by omega)) gX8_cell_X8_in rfl hdS_X8_in ⟨Nat.le_of_ble_eq_true rfl, Nat.le_of_ble_eq_true rfl⟩ rfl rfl (Nat.le_of_ble_eq_true rfl) ⟨Nat.zero_le _, Nat.zero_le _⟩ dX8_cell_22 (fun H locs w => ?_)
    refine nv_if_eqB S (tgt := 49) dX8_cell_25 (by decide) (fun h_2 => ?_) (fun h_2 => ?_)
    · skip
      refine lv_aload_n S.1 S.2.1 dX8_cell_49 rfl (lv_at hl 0 rfl) ?_
      refine lv_iconst (v := nI 2) S.1 S.2.1 dX8_cell_50 (ofInt_nI 2) ?_
      refine nv_cVi (rest := []) (ws' := mdM Z b X sv sd sm 2 tl pl ro nu t r) S w hl.1 (c_X8_throwing l D Z b X sv sd sm th tl pl ro nu t r 2 ) [0, 1, 2, 3, 4, 5] rfl rfl rfl rfl gX8_cell_X8_throwing rfl hdV_X8_throwing ⟨Nat.le_of_ble_eq_true rfl, Nat.le_of_ble_eq_true rfl⟩ (q0 := 0) rfl rfl rfl rfl (Nat.le_of_ble_eq_true rfl) ⟨Nat.zero_le _, Nat.zero_le _⟩ dX8_cell_51 (fun H locs w => ?_)
      exact nv_iret S w hr hlocks rfl (by rw [kC_2 h_1 h_2]; try rfl) (by rw [kC_2 h_1 h_2]; try rfl) dX8_cell_54
    · skip
      obtain ⟨na, rfl, hna⟩ := rg_nat (by decide) (by decide) h_1.1
      have eqna : toN (nI na) = na := toN_nI (by omega)
      obtain ⟨nb, rfl, hnb⟩ := rg_nat (by decide) (by decide) h_1.2.1
      have eqnb : toN (nI nb) = nb := toN_nI (by omega)
      obtain ⟨nd, rfl, hnd⟩ := rg_nat (by decide) (by decide) h_1.2.2
      have eqnd : toN (nI nd) = nd := toN_nI (by omega)
      obtain ⟨nn, rfl, hnn⟩ := rg_nat (by decide) (by decide) h_2
      have eqnn : toN (nI nn) = nn := toN_nI (by omega)
      have hcx : cix na nb nd < 192 := cix_lt (by omega) (by omega) (by omega)
      refine lv_aload_n S.1 S.2.1 dX8_cell_28 rfl (lv_at hl 0 rfl) ?_
      refine lv_aload_n S.1 S.2.1 dX8_cell_29 rfl (lv_at hl 0 rfl) ?_
      refine nv_get S w (C := RX8) (T := TX8) (N := 11) hn_X8_cell_8 0 rfl rfl 0 (by decide) (List.mem_of_getElem? (i := 2) rfl) (v := .ref (b 1)) rfl dX8_cell_30 ?_
      refine lv_iload_n S.1 S.2.1 dX8_cell_33 rfl (lv_at hl 1 rfl) ?_
      refine lv_iload_n S.1 S.2.1 dX8_cell_34 rfl (lv_at hl 2 rfl) ?_
      refine lv_iload_n S.1 S.2.1 dX8_cell_35 rfl (lv_at hl 3 rfl) ?_
      refine nv_pSi (rest := [.ref (b 1), .ref (b 0)]) S w hl.1 (c_X8_cellAt l D Z na nb nd ) gX8_cell_X8_cellAt rfl hdS_X8_cellAt ⟨Nat.le_of_ble_eq_true rfl, Nat.le_of_ble_eq_true rfl⟩ rfl rfl (Nat.le_of_ble_eq_true rfl) ⟨Nat.zero_le _, Nat.zero_le _⟩ dX8_cell_36 (fun H locs w => ?_)
      refine lv_iload S.1 S.2.1 dX8_cell_39 (lv_at hl 4 rfl) ?_
      refine nv_iadd S dX8_cell_41 ?_
      refine nv_iald S w (i := ((85 + 4 * cix na nb nd) + nn)) (g := (enc X)) 1 rfl (by omega) (by decide) dX8_cell_42 ?_
      refine W.eq (g2 := F0 m 43 ls [vI (X.1.1 (cix na nb nd) nn), .ref (b 0)]) (by rw [enc_c (by omega)]) ?_
      refine nv_cVi (rest := []) (ws' := mdM Z b X sv sd sm 0 tl pl ro nu t r) S w hl.1 (c_X8_fine l D Z b X sv sd sm th tl pl ro nu t r (nI (X.1.1 (cix na nb nd) nn)) ) [0, 1, 2, 3, 4, 5] rfl rfl rfl rfl gX8_cell_X8_fine rfl hdV_X8_fine ⟨Nat.le_of_ble_eq_true rfl, Nat.le_of_ble_eq_true rfl⟩ (q0 := 0) rfl rfl rfl rfl (Nat.le_of_ble_eq_true rfl) ⟨Nat.zero_le _, Nat.zero_le _⟩ dX8_cell_43 (fun H locs w => ?_)
      refine lv_goto (tgt := 54) S.1 S.2.1 dX8_cell_46 (by decide) ?_
      exact nv_iret S w hr hlocks rfl (by rw [kC_0 h_1 h_2]; (try simp only [eqna, eqnb, eqnd, eqnn]); first | done | rfl | (unfold ifz; rw [if_pos rfl])) (by rw [kC_0 h_1 h_2]; (try simp only [eqna, eqnb, eqnd, eqnn]); first | done | rfl | (simp only [ifz, eq_self_iff_true, if_true])) dX8_cell_54
  · skip
    refine lv_aload_n S.1 S.2.1 dX8_cell_9 rfl (lv_at hl 0 rfl) ?_
    refine lv_iconst (v := nI 1) S.1 S.2.1 dX8_cell_10 (ofInt_nI 1) ?_
    refine nv_cVi (rest := []) (ws' := mdM Z b X sv sd sm 1 tl pl ro nu t r) S w hl.1 (c_X8_throwing l D Z b X sv sd sm th tl pl ro nu t r 1 ) [0, 1, 2, 3, 4, 5] rfl rfl rfl rfl gX8_cell_X8_throwing rfl hdV_X8_throwing ⟨Nat.le_of_ble_eq_true rfl, Nat.le_of_ble_eq_true rfl⟩ (q0 := 0) rfl rfl rfl rfl (Nat.le_of_ble_eq_true rfl) ⟨Nat.zero_le _, Nat.zero_le _⟩ dX8_cell_11 (fun H locs w => ?_)
    exact nv_iret S w hr hlocks rfl (by rw [kC_1 h_1]; try rfl) (by rw [kC_1 h_1]; try rfl) dX8_cell_14
