theorem hn_X8_here_8 : ∀ w ∈ wsX80, w ∈ wsX8_here := by decide +kernel
set_option maxRecDepth 100000 in
set_option maxHeartbeats 4000000 in
theorem c_X8_here (l : Launch) (D : va_G) (Z : Nat → ClassId) (b : Nat → Nat) (X : ST) (sv sd : Nat → Nat) (sm th tl pl ro nu : Nat) (t r : Nat → Nat) (ht : ∀ j, j < 100 → t j < 128) (htl : tl ≤ 100) (hpl : pl ≤ 100000) : Ci l yX8_here wsX8_here 0 0 D Z [.ref (b 0)] (mdM Z b X sv sd sm th tl pl ro nu t r) (nI (cx t tl pl) - 1) (mdM Z b X sv sd sm th tl pl ro nu t r) := by
  refine ne_i (cc := cX8_here) (maxL := 1) (by decide +kernel) rfl (Nat.le_of_ble_eq_true rfl) (fun p e s m args below meth c A ls (S : CallFix p m c cX8_here 1 s args wsX8_here RX8) hr hlocks hl w => ?_)
  have hl : lv_has ls 1 [(0, .ref (b 0))] := hl
  refine lv_aload_n S.1 S.2.1 dX8_here_0 rfl (lv_at hl 0 rfl) ?_
  refine nv_get S w (C := RX8) (T := TX8) (N := 11) hn_X8_here_8 0 rfl rfl 7 (by decide) (List.mem_of_getElem? (i := 1) rfl) (v := vI pl) rfl dX8_here_1 ?_
  refine lv_aload_n S.1 S.2.1 dX8_here_4 rfl (lv_at hl 0 rfl) ?_
  refine nv_get S w (C := RX8) (T := TX8) (N := 11) hn_X8_here_8 0 rfl rfl 6 (by decide) (List.mem_of_getElem? (i := 2) rfl) (v := vI tl) rfl dX8_here_5 ?_
  refine nv_icmp_ge S (by omega) (by omega) (tgt := 23) dX8_here_8 (by decide) (fun h_1 => ?_) (fun h_1 => ?_)
  · skip
    refine lv_iconst (v := -1) S.1 S.2.1 dX8_here_23 (by decide +kernel) ?_
    exact nv_iret S w hr hlocks rfl (by unfold cx; rw [if_neg (by omega)]; rfl) rfl dX8_here_24
  · skip
    refine lv_aload_n S.1 S.2.1 dX8_here_11 rfl (lv_at hl 0 rfl) ?_
    refine nv_get S w (C := RX8) (T := TX8) (N := 11) hn_X8_here_8 0 rfl rfl 5 (by decide) (List.mem_of_getElem? (i := 3) rfl) (v := .ref (b 4)) rfl dX8_here_12 ?_
    refine lv_aload_n S.1 S.2.1 dX8_here_15 rfl (lv_at hl 0 rfl) ?_
    refine nv_get S w (C := RX8) (T := TX8) (N := 11) hn_X8_here_8 0 rfl rfl 7 (by decide) (List.mem_of_getElem? (i := 1) rfl) (v := vI pl) rfl dX8_here_16 ?_
    refine nv_iald S w (i := pl) (g := t) 4 rfl (by omega) (by decide) dX8_here_19 ?_
    refine lv_goto (tgt := 24) S.1 S.2.1 dX8_here_20 (by decide) ?_
    exact nv_iret S w hr hlocks rfl (by unfold cx; rw [if_pos (by omega), nI_pred]) rfl dX8_here_24

theorem hdV_X8_here : yX8_here.cls = RX8 ∧ yX8_here.cls ≠ "java/lang/invoke/MethodHandle" ∧ yX8_here.cls ≠ "java/lang/invoke/VarHandle" ∧ (parseMethodDescriptor yX8_here.desc).map (fun d => d.parameters.length) = some 0 := by decide +kernel
theorem hn_X8_passes_8 : ∀ w ∈ wsX80, w ∈ wsX8_passes := by decide +kernel
set_option maxRecDepth 100000 in
set_option maxHeartbeats 4000000 in
theorem c_X8_passes (l : Launch) (D : va_G) (Z : Nat → ClassId) (b : Nat → Nat) (X : ST) (sv sd : Nat → Nat) (sm th tl pl ro nu : Nat) (t r : Nat → Nat) (x : Nat) (ht : ∀ j, j < 100 → t j < 128) (htl : tl ≤ 100) (hpl : pl ≤ 100000) (hx : x < 1000) : Ci l yX8_passes wsX8_passes 1 20 D Z [.ref (b 0), vI x] (mdM Z b X sv sd sm th tl pl ro nu t r) (nI (bP (cx t tl pl = x + 1))) (mdM Z b X sv sd sm th tl (pl + bP (cx t tl pl = x + 1)) ro nu t r) := by
  refine ne_i (cc := cX8_passes) (maxL := 3) (by decide +kernel) rfl (Nat.le_of_ble_eq_true rfl) (fun p e s m args below meth c A ls (S : CallFix p m c cX8_passes 3 s args wsX8_passes RX8) hr hlocks hl w => ?_)
  have hc0 := cx_le (i := pl) ht htl
  have hl : lv_has ls 3 [(0, .ref (b 0)), (1, vI x)] := hl
  refine lv_aload_n S.1 S.2.1 dX8_passes_0 rfl (lv_at hl 0 rfl) ?_
  refine nv_rVi (rest := []) S w hl.1 (c_X8_here l D Z b X sv sd sm th tl pl ro nu t r ht (by omega) (by omega)) [0, 1, 2, 3, 4, 5] rfl rfl gX8_passes_X8_here rfl hdV_X8_here ⟨Nat.le_of_ble_eq_true rfl, Nat.le_of_ble_eq_true rfl⟩ (q0 := 0) rfl rfl rfl rfl (Nat.le_of_ble_eq_true rfl) ⟨Nat.zero_le _, Nat.zero_le _⟩ dX8_passes_1 (fun H locs w => ?_)
  refine lv_iload_n S.1 S.2.1 dX8_passes_4 rfl (lv_at hl 1 rfl) ?_
  refine ns_icmp_ne S (by omega) (by omega) (tgt := 12) dX8_passes_5 (by decide) (fun h_1 => ?_) (fun h_1 => ?_)
  · skip
    refine lv_iconst (v := nI 0) S.1 S.2.1 dX8_passes_12 (ofInt_nI 0) ?_
    refine lv_istore_n (lv' := [(2, vI 0), (0, .ref (b 0)), (1, vI x)]) S.1 S.2.1 dX8_passes_13 rfl hl (by decide) rfl (fun ls hl => ?_)
    refine lv_aload_n S.1 S.2.1 dX8_passes_14 rfl (lv_at hl 1 rfl) ?_
    refine lv_dup S.1 S.2.1 dX8_passes_15 rfl ?_
    refine nv_get S w (C := RX8) (T := TX8) (N := 11) hn_X8_passes_8 0 rfl rfl 7 (by decide) (List.mem_of_getElem? (i := 1) rfl) (v := vI pl) rfl dX8_passes_16 ?_
    refine lv_iload_n S.1 S.2.1 dX8_passes_19 rfl (lv_at hl 0 rfl) ?_
    refine lv_if_eq (tgt := 27) S.1 S.2.1 dX8_passes_20 (by decide) (fun _ => ?_) (fun h9 => absurd (by decide) h9)
    refine lv_iconst (v := nI 0) S.1 S.2.1 dX8_passes_27 (ofInt_nI 0) ?_
    refine nv_iadd S dX8_passes_28 ?_
    refine nv_put S w (C := RX8) (T := TX8) (N := 11) hn_X8_passes_8 tyX8_ok nmX8 0 rfl rfl 7 (by decide) (List.mem_of_getElem? (i := 1) rfl) rfl rfl (Nat.le_of_ble_eq_true rfl) (ws' := [(b 0, .inr (7, [.ref (b 1), .ref (b 2), .ref (b 3), vI sm, vI th, .ref (b 4), vI tl, vI (pl + 0), .ref (b 5), vI ro, vI nu])), (b 1, .inl (Z 0, 853, .inl (ar 853 (enc X)))), (b 2, .inl (Z 0, 3412, .inl (ar 3412 sv))), (b 3, .inl (Z 0, 853, .inl (ar 853 sd))), (b 4, .inl (Z 0, 100, .inl (ar 100 t))), (b 5, .inl (Z 0, 128, .inl (ar 128 r)))]) rfl dX8_passes_29 (fun H locs w => ?_)
    refine lv_iload_n S.1 S.2.1 dX8_passes_32 rfl (lv_at hl 0 rfl) ?_
    exact nv_iret S w hr hlocks (nI_bool (by decide)) (by rw [bP_f h_1]) (by rw [bP_f h_1]; try rfl) dX8_passes_33
  · skip
    refine lv_iconst (v := nI 1) S.1 S.2.1 dX8_passes_8 (ofInt_nI 1) ?_
    refine lv_goto (tgt := 13) S.1 S.2.1 dX8_passes_9 (by decide) ?_
    refine lv_istore_n (lv' := [(2, vI 1), (0, .ref (b 0)), (1, vI x)]) S.1 S.2.1 dX8_passes_13 rfl hl (by decide) rfl (fun ls hl => ?_)
    refine lv_aload_n S.1 S.2.1 dX8_passes_14 rfl (lv_at hl 1 rfl) ?_
    refine lv_dup S.1 S.2.1 dX8_passes_15 rfl ?_
    refine nv_get S w (C := RX8) (T := TX8) (N := 11) hn_X8_passes_8 0 rfl rfl 7 (by decide) (List.mem_of_getElem? (i := 1) rfl) (v := vI pl) rfl dX8_passes_16 ?_
    refine lv_iload_n S.1 S.2.1 dX8_passes_19 rfl (lv_at hl 0 rfl) ?_
    refine lv_if_eq (tgt := 27) S.1 S.2.1 dX8_passes_20 (by decide) (fun h9 => absurd h9 (by decide)) (fun _ => ?_)
    refine lv_iconst (v := nI 1) S.1 S.2.1 dX8_passes_23 (ofInt_nI 1) ?_
    refine lv_goto (tgt := 28) S.1 S.2.1 dX8_passes_24 (by decide) ?_
    refine nv_iadd S dX8_passes_28 ?_
    refine nv_put S w (C := RX8) (T := TX8) (N := 11) hn_X8_passes_8 tyX8_ok nmX8 0 rfl rfl 7 (by decide) (List.mem_of_getElem? (i := 1) rfl) rfl rfl (Nat.le_of_ble_eq_true rfl) (ws' := [(b 0, .inr (7, [.ref (b 1), .ref (b 2), .ref (b 3), vI sm, vI th, .ref (b 4), vI tl, vI (pl + 1), .ref (b 5), vI ro, vI nu])), (b 1, .inl (Z 0, 853, .inl (ar 853 (enc X)))), (b 2, .inl (Z 0, 3412, .inl (ar 3412 sv))), (b 3, .inl (Z 0, 853, .inl (ar 853 sd))), (b 4, .inl (Z 0, 100, .inl (ar 100 t))), (b 5, .inl (Z 0, 128, .inl (ar 128 r)))]) rfl dX8_passes_29 (fun H locs w => ?_)
    refine lv_iload_n S.1 S.2.1 dX8_passes_32 rfl (lv_at hl 0 rfl) ?_
    exact nv_iret S w hr hlocks (nI_bool (by decide)) (by rw [bP_t h_1]) (by rw [bP_t h_1]; try rfl) dX8_passes_33

theorem hn_X8_readsNumber_8 : ∀ w ∈ wsX80, w ∈ wsX8_readsNumber := by decide +kernel
set_option maxRecDepth 100000 in
set_option maxHeartbeats 4000000 in
theorem c_X8_readsNumber (l : Launch) (D : va_G) (Z : Nat → ClassId) (b : Nat → Nat) (X : ST) (sv sd : Nat → Nat) (sm th tl pl ro nu : Nat) (t r : Nat → Nat) (o : Nat) (ht : ∀ j, j < 100 → t j < 128) (htl : tl ≤ 100) (hpl : pl ≤ 1000) (ho : o ≤ 100) : Ci l yX8_readsNumber wsX8_readsNumber 1 25 D Z [.ref (b 0), vI o] (mdM Z b X sv sd sm th tl pl ro nu t r) (nI (bP ((rn (cx t tl) pl o).1 ≠ 0))) (mdM Z b X sv sd sm th tl ((rn (cx t tl) pl o).2) ro (nuN (cx t tl) pl) t r) := by
  refine ne_i (cc := cX8_readsNumber) (maxL := 3) (by decide +kernel) rfl (Nat.le_of_ble_eq_true rfl) (fun p e s m args below meth c A ls (S : CallFix p m c cX8_readsNumber 3 s args wsX8_readsNumber RX8) hr hlocks hl w => ?_)
  have hc0 := cx_le (i := pl) ht htl
  have hc1 := cx_le (i := pl + 1) ht htl
  have hc2 := cx_le (i := pl + 2) ht htl
  have hl : lv_has ls 3 [(0, .ref (b 0)), (1, vI o)] := hl
  refine lv_aload_n S.1 S.2.1 dX8_readsNumber_0 rfl (lv_at hl 0 rfl) ?_
  refine nv_get S w (C := RX8) (T := TX8) (N := 11) hn_X8_readsNumber_8 0 rfl rfl 7 (by decide) (List.mem_of_getElem? (i := 1) rfl) (v := vI pl) rfl dX8_readsNumber_1 ?_
  refine lv_istore_n (lv' := [(2, vI pl), (0, .ref (b 0)), (1, vI o)]) S.1 S.2.1 dX8_readsNumber_4 rfl hl (by decide) rfl (fun ls hl => ?_)
  refine lv_aload_n S.1 S.2.1 dX8_readsNumber_5 rfl (lv_at hl 1 rfl) ?_
  refine lv_iconst (v := nI 0) S.1 S.2.1 dX8_readsNumber_6 (ofInt_nI 0) ?_
  refine nv_put S w (C := RX8) (T := TX8) (N := 11) hn_X8_readsNumber_8 tyX8_ok nmX8 0 rfl rfl 10 (by decide) (List.mem_of_getElem? (i := 2) rfl) rfl rfl (Nat.le_of_ble_eq_true rfl) (ws' := [(b 0, .inr (7, [.ref (b 1), .ref (b 2), .ref (b 3), vI sm, vI th, .ref (b 4), vI tl, vI pl, .ref (b 5), vI ro, vI 0])), (b 1, .inl (Z 0, 853, .inl (ar 853 (enc X)))), (b 2, .inl (Z 0, 3412, .inl (ar 3412 sv))), (b 3, .inl (Z 0, 853, .inl (ar 853 sd))), (b 4, .inl (Z 0, 100, .inl (ar 100 t))), (b 5, .inl (Z 0, 128, .inl (ar 128 r)))]) rfl dX8_readsNumber_7 (fun H locs w => ?_)
  have w := w.as (ws' := mdM Z b X sv sd sm th tl pl ro 0 t r) rfl
  refine lv_aload_n S.1 S.2.1 dX8_readsNumber_10 rfl (lv_at hl 1 rfl) ?_
  refine nv_rVi (rest := []) S w hl.1 (c_X8_here l D Z b X sv sd sm th tl pl ro 0 t r ht (by omega) (by omega)) [0, 1, 2, 3, 4, 5] rfl rfl gX8_readsNumber_X8_here rfl hdV_X8_here ⟨Nat.le_of_ble_eq_true rfl, Nat.le_of_ble_eq_true rfl⟩ (q0 := 0) rfl rfl rfl rfl (Nat.le_of_ble_eq_true rfl) ⟨Nat.zero_le _, Nat.zero_le _⟩ dX8_readsNumber_11 (fun H locs w => ?_)
  refine lv_i2l (v := (nI (cx t tl pl) - 1).toInt64) S.1 S.2.1 dX8_readsNumber_14 rfl ?_
  refine lv_ldc2 (v := 48) S.1 S.2.1 S.2.2.2.1 (S.2.2.2.2 _ (by decide +kernel)) dX8_readsNumber_15 ?_
  refine lv_ldc2 (v := 57) S.1 S.2.1 S.2.2.2.1 (S.2.2.2.2 _ (by decide +kernel)) dX8_readsNumber_18 ?_
  refine nv_pSi (rest := []) S w hl.1 (c_X8_inS l D Z (cx t tl pl) 48 57 (by omega) (by omega) (by omega)) gX8_readsNumber_X8_in rfl hdS_X8_in ⟨Nat.le_of_ble_eq_true rfl, Nat.le_of_ble_eq_true rfl⟩ rfl rfl (Nat.le_of_ble_eq_true rfl) ⟨Nat.zero_le _, Nat.zero_le _⟩ dX8_readsNumber_21 (fun H locs w => ?_)
  refine nv_if_eqB S (tgt := 69) dX8_readsNumber_24 (by decide) (fun h_1 => ?_) (fun h_1 => ?_)
  · skip
    refine lv_aload_n S.1 S.2.1 dX8_readsNumber_69 rfl (lv_at hl 1 rfl) ?_
    refine nv_get S w (C := RX8) (T := TX8) (N := 11) hn_X8_readsNumber_8 0 rfl rfl 7 (by decide) (List.mem_of_getElem? (i := 1) rfl) (v := vI pl) rfl dX8_readsNumber_70 ?_
    refine lv_iload_n S.1 S.2.1 dX8_readsNumber_73 rfl (lv_at hl 0 rfl) ?_
    refine nv_icmp_eq S (by omega) (by omega) (tgt := 94) dX8_readsNumber_74 (by decide) (fun h_2 => ?_) (fun h_2 => ?_)
    · skip
      refine lv_iconst (v := nI 0) S.1 S.2.1 dX8_readsNumber_94 (ofInt_nI 0) ?_
      exact nv_iret S w hr hlocks (nI_bool (by decide)) (by have e9 : rn (cx t tl) pl o = (0, pl) := (by unfold rn; rw [if_pos (by omega)]); rw [bP_f (show ¬ (rn (cx t tl) pl o).1 ≠ 0 by rw [e9]; exact fun z9 => z9 rfl)]) (by have e9 : rn (cx t tl) pl o = (0, pl) := (by unfold rn; rw [if_pos (by omega)]); have e10 : nuN (cx t tl) pl = 0 := (by unfold nuN; rw [if_pos (by omega)]; try omega); rw [e9, e10]; try rfl) dX8_readsNumber_95
    · skip
      exfalso; omega
  · skip
    refine lv_aload_n S.1 S.2.1 dX8_readsNumber_27 rfl (lv_at hl 1 rfl) ?_
    refine nv_get S w (C := RX8) (T := TX8) (N := 11) hn_X8_readsNumber_8 0 rfl rfl 7 (by decide) (List.mem_of_getElem? (i := 1) rfl) (v := vI pl) rfl dX8_readsNumber_28 ?_
    refine lv_iload_n S.1 S.2.1 dX8_readsNumber_31 rfl (lv_at hl 0 rfl) ?_
    refine lv_iconst (v := nI 2) S.1 S.2.1 dX8_readsNumber_32 (ofInt_nI 2) ?_
    refine nv_iadd S dX8_readsNumber_33 ?_
    refine nv_icmp_ge S (by omega) (by omega) (tgt := 69) dX8_readsNumber_34 (by decide) (fun h_3 => ?_) (fun h_3 => ?_)
    · skip
      exfalso; omega
    · skip
      refine lv_aload_n S.1 S.2.1 dX8_readsNumber_37 rfl (lv_at hl 1 rfl) ?_
      refine lv_bipush (v := nI 10) S.1 S.2.1 dX8_readsNumber_38 (by decide +kernel) ?_
      refine lv_aload_n S.1 S.2.1 dX8_readsNumber_40 rfl (lv_at hl 1 rfl) ?_
      refine nv_get S w (C := RX8) (T := TX8) (N := 11) hn_X8_readsNumber_8 0 rfl rfl 10 (by decide) (List.mem_of_getElem? (i := 2) rfl) (v := vI 0) rfl dX8_readsNumber_41 ?_
      refine nv_imul S dX8_readsNumber_44 ?_
      refine W.eq (g2 := F0 m 45 ls [vI 0, .ref (b 0)]) rfl ?_
      refine lv_aload_n S.1 S.2.1 dX8_readsNumber_45 rfl (lv_at hl 1 rfl) ?_
      refine nv_rVi (rest := [vI 0, .ref (b 0)]) S w hl.1 (c_X8_here l D Z b X sv sd sm th tl pl ro 0 t r ht (by omega) (by omega)) [0, 1, 2, 3, 4, 5] rfl rfl gX8_readsNumber_X8_here rfl hdV_X8_here ⟨Nat.le_of_ble_eq_true rfl, Nat.le_of_ble_eq_true rfl⟩ (q0 := 0) rfl rfl rfl rfl (Nat.le_of_ble_eq_true rfl) ⟨Nat.zero_le _, Nat.zero_le _⟩ dX8_readsNumber_46 (fun H locs w => ?_)
      refine ns_iadd S (by omega) dX8_readsNumber_49 ?_
      refine lv_bipush (v := nI 48) S.1 S.2.1 dX8_readsNumber_50 (by decide +kernel) ?_
      refine ns_isub S (by omega) dX8_readsNumber_52 ?_
      refine W.eq (g2 := F0 m 53 ls [vI ((0 + (cx t tl pl)) - 49), .ref (b 0)]) rfl ?_
      refine nv_put S w (C := RX8) (T := TX8) (N := 11) hn_X8_readsNumber_8 tyX8_ok nmX8 0 rfl rfl 10 (by decide) (List.mem_of_getElem? (i := 2) rfl) rfl rfl (Nat.le_of_ble_eq_true rfl) (ws' := [(b 0, .inr (7, [.ref (b 1), .ref (b 2), .ref (b 3), vI sm, vI th, .ref (b 4), vI tl, vI pl, .ref (b 5), vI ro, vI ((0 + (cx t tl pl)) - 49)])), (b 1, .inl (Z 0, 853, .inl (ar 853 (enc X)))), (b 2, .inl (Z 0, 3412, .inl (ar 3412 sv))), (b 3, .inl (Z 0, 853, .inl (ar 853 sd))), (b 4, .inl (Z 0, 100, .inl (ar 100 t))), (b 5, .inl (Z 0, 128, .inl (ar 128 r)))]) rfl dX8_readsNumber_53 (fun H locs w => ?_)
      refine lv_aload_n S.1 S.2.1 dX8_readsNumber_56 rfl (lv_at hl 1 rfl) ?_
      refine lv_dup S.1 S.2.1 dX8_readsNumber_57 rfl ?_
      refine nv_get S w (C := RX8) (T := TX8) (N := 11) hn_X8_readsNumber_8 0 rfl rfl 7 (by decide) (List.mem_of_getElem? (i := 1) rfl) (v := vI pl) rfl dX8_readsNumber_58 ?_
      refine lv_iconst (v := nI 1) S.1 S.2.1 dX8_readsNumber_61 (ofInt_nI 1) ?_
      refine nv_iadd S dX8_readsNumber_62 ?_
      refine nv_put S w (C := RX8) (T := TX8) (N := 11) hn_X8_readsNumber_8 tyX8_ok nmX8 0 rfl rfl 7 (by decide) (List.mem_of_getElem? (i := 1) rfl) rfl rfl (Nat.le_of_ble_eq_true rfl) (ws' := [(b 0, .inr (7, [.ref (b 1), .ref (b 2), .ref (b 3), vI sm, vI th, .ref (b 4), vI tl, vI (pl + 1), .ref (b 5), vI ro, vI ((0 + (cx t tl pl)) - 49)])), (b 1, .inl (Z 0, 853, .inl (ar 853 (enc X)))), (b 2, .inl (Z 0, 3412, .inl (ar 3412 sv))), (b 3, .inl (Z 0, 853, .inl (ar 853 sd))), (b 4, .inl (Z 0, 100, .inl (ar 100 t))), (b 5, .inl (Z 0, 128, .inl (ar 128 r)))]) rfl dX8_readsNumber_63 (fun H locs w => ?_)
      refine lv_goto (tgt := 10) S.1 S.2.1 dX8_readsNumber_66 (by decide) ?_
      have w := w.as (ws' := mdM Z b X sv sd sm th tl (pl + 1) ro ((0 + (cx t tl pl)) - 49) t r) rfl
      refine lv_aload_n S.1 S.2.1 dX8_readsNumber_10 rfl (lv_at hl 1 rfl) ?_
      refine nv_rVi (rest := []) S w hl.1 (c_X8_here l D Z b X sv sd sm th tl (pl + 1) ro ((0 + (cx t tl pl)) - 49) t r ht (by omega) (by omega)) [0, 1, 2, 3, 4, 5] rfl rfl gX8_readsNumber_X8_here rfl hdV_X8_here ⟨Nat.le_of_ble_eq_true rfl, Nat.le_of_ble_eq_true rfl⟩ (q0 := 0) rfl rfl rfl rfl (Nat.le_of_ble_eq_true rfl) ⟨Nat.zero_le _, Nat.zero_le _⟩ dX8_readsNumber_11 (fun H locs w => ?_)
      refine lv_i2l (v := (nI (cx t tl (pl + 1)) - 1).toInt64) S.1 S.2.1 dX8_readsNumber_14 rfl ?_
      refine lv_ldc2 (v := 48) S.1 S.2.1 S.2.2.2.1 (S.2.2.2.2 _ (by decide +kernel)) dX8_readsNumber_15 ?_
      refine lv_ldc2 (v := 57) S.1 S.2.1 S.2.2.2.1 (S.2.2.2.2 _ (by decide +kernel)) dX8_readsNumber_18 ?_
      refine nv_pSi (rest := []) S w hl.1 (c_X8_inS l D Z (cx t tl (pl + 1)) 48 57 (by omega) (by omega) (by omega)) gX8_readsNumber_X8_in rfl hdS_X8_in ⟨Nat.le_of_ble_eq_true rfl, Nat.le_of_ble_eq_true rfl⟩ rfl rfl (Nat.le_of_ble_eq_true rfl) ⟨Nat.zero_le _, Nat.zero_le _⟩ dX8_readsNumber_21 (fun H locs w => ?_)
      refine nv_if_eqB S (tgt := 69) dX8_readsNumber_24 (by decide) (fun h_4 => ?_) (fun h_4 => ?_)
      · skip
        refine lv_aload_n S.1 S.2.1 dX8_readsNumber_69 rfl (lv_at hl 1 rfl) ?_
        refine nv_get S w (C := RX8) (T := TX8) (N := 11) hn_X8_readsNumber_8 0 rfl rfl 7 (by decide) (List.mem_of_getElem? (i := 1) rfl) (v := vI (pl + 1)) rfl dX8_readsNumber_70 ?_
        refine lv_iload_n S.1 S.2.1 dX8_readsNumber_73 rfl (lv_at hl 0 rfl) ?_
        refine nv_icmp_eq S (by omega) (by omega) (tgt := 94) dX8_readsNumber_74 (by decide) (fun h_5 => ?_) (fun h_5 => ?_)
        · skip
          exfalso; omega
        · skip
          refine lv_aload_n S.1 S.2.1 dX8_readsNumber_77 rfl (lv_at hl 1 rfl) ?_
          refine nv_rVi (rest := []) S w hl.1 (c_X8_here l D Z b X sv sd sm th tl (pl + 1) ro ((0 + (cx t tl pl)) - 49) t r ht (by omega) (by omega)) [0, 1, 2, 3, 4, 5] rfl rfl gX8_readsNumber_X8_here rfl hdV_X8_here ⟨Nat.le_of_ble_eq_true rfl, Nat.le_of_ble_eq_true rfl⟩ (q0 := 0) rfl rfl rfl rfl (Nat.le_of_ble_eq_true rfl) ⟨Nat.zero_le _, Nat.zero_le _⟩ dX8_readsNumber_78 (fun H locs w => ?_)
          refine lv_i2l (v := (nI (cx t tl (pl + 1)) - 1).toInt64) S.1 S.2.1 dX8_readsNumber_81 rfl ?_
          refine lv_ldc2 (v := 48) S.1 S.2.1 S.2.2.2.1 (S.2.2.2.2 _ (by decide +kernel)) dX8_readsNumber_82 ?_
          refine lv_ldc2 (v := 57) S.1 S.2.1 S.2.2.2.1 (S.2.2.2.2 _ (by decide +kernel)) dX8_readsNumber_85 ?_
          refine nv_pSi (rest := []) S w hl.1 (c_X8_inS l D Z (cx t tl (pl + 1)) 48 57 (by omega) (by omega) (by omega)) gX8_readsNumber_X8_in rfl hdS_X8_in ⟨Nat.le_of_ble_eq_true rfl, Nat.le_of_ble_eq_true rfl⟩ rfl rfl (Nat.le_of_ble_eq_true rfl) ⟨Nat.zero_le _, Nat.zero_le _⟩ dX8_readsNumber_88 (fun H locs w => ?_)
          refine nv_if_eqB S (tgt := 96) dX8_readsNumber_91 (by decide) (fun h_6 => ?_) (fun h_6 => ?_)
          · skip
            refine lv_aload_n S.1 S.2.1 dX8_readsNumber_96 rfl (lv_at hl 1 rfl) ?_
            refine nv_get S w (C := RX8) (T := TX8) (N := 11) hn_X8_readsNumber_8 0 rfl rfl 10 (by decide) (List.mem_of_getElem? (i := 2) rfl) (v := vI ((0 + (cx t tl pl)) - 49)) rfl dX8_readsNumber_97 ?_
            refine lv_iload_n S.1 S.2.1 dX8_readsNumber_100 rfl (lv_at hl 2 rfl) ?_
            refine nv_icmp_le S (by omega) (by omega) (tgt := 111) dX8_readsNumber_101 (by decide) (fun h_7 => ?_) (fun h_7 => ?_)
            · skip
              refine lv_iconst (v := nI 1) S.1 S.2.1 dX8_readsNumber_111 (ofInt_nI 1) ?_
              exact nv_iret S w hr hlocks (nI_bool (by decide)) (by have e9 : rn (cx t tl) pl o = (cx t tl pl - 49 + 1, pl + 1) := (by unfold rn; rw [if_neg (by omega), if_neg (by omega), if_neg (by omega)]); rw [bP_t (show (rn (cx t tl) pl o).1 ≠ 0 by rw [e9]; exact Nat.succ_ne_zero _)]) (by have e9 : rn (cx t tl) pl o = (cx t tl pl - 49 + 1, pl + 1) := (by unfold rn; rw [if_neg (by omega), if_neg (by omega), if_neg (by omega)]); have e10 : nuN (cx t tl) pl = (0 + (cx t tl pl)) - 49 := (by unfold nuN; rw [if_neg (by omega), if_neg (by omega)]; try omega); rw [e9, e10]; try rfl) dX8_readsNumber_112
            · skip
              refine lv_aload_n S.1 S.2.1 dX8_readsNumber_104 rfl (lv_at hl 1 rfl) ?_
              refine lv_iload_n S.1 S.2.1 dX8_readsNumber_105 rfl (lv_at hl 0 rfl) ?_
              refine nv_put S w (C := RX8) (T := TX8) (N := 11) hn_X8_readsNumber_8 tyX8_ok nmX8 0 rfl rfl 7 (by decide) (List.mem_of_getElem? (i := 1) rfl) rfl rfl (Nat.le_of_ble_eq_true rfl) (ws' := [(b 0, .inr (7, [.ref (b 1), .ref (b 2), .ref (b 3), vI sm, vI th, .ref (b 4), vI tl, vI pl, .ref (b 5), vI ro, vI ((0 + (cx t tl pl)) - 49)])), (b 1, .inl (Z 0, 853, .inl (ar 853 (enc X)))), (b 2, .inl (Z 0, 3412, .inl (ar 3412 sv))), (b 3, .inl (Z 0, 853, .inl (ar 853 sd))), (b 4, .inl (Z 0, 100, .inl (ar 100 t))), (b 5, .inl (Z 0, 128, .inl (ar 128 r)))]) rfl dX8_readsNumber_106 (fun H locs w => ?_)
              refine lv_iconst (v := nI 0) S.1 S.2.1 dX8_readsNumber_109 (ofInt_nI 0) ?_
              exact nv_iret S w hr hlocks (nI_bool (by decide)) (by have e9 : rn (cx t tl) pl o = (0, pl) := (by unfold rn; rw [if_neg (by omega), if_neg (by omega), if_pos (by omega)]); rw [bP_f (show ¬ (rn (cx t tl) pl o).1 ≠ 0 by rw [e9]; exact fun z9 => z9 rfl)]) (by have e9 : rn (cx t tl) pl o = (0, pl) := (by unfold rn; rw [if_neg (by omega), if_neg (by omega), if_pos (by omega)]); have e10 : nuN (cx t tl) pl = (0 + (cx t tl pl)) - 49 := (by unfold nuN; rw [if_neg (by omega), if_neg (by omega)]; try omega); rw [e9, e10]; try rfl) dX8_readsNumber_110
          · skip
            exfalso; omega
      · skip
        refine lv_aload_n S.1 S.2.1 dX8_readsNumber_27 rfl (lv_at hl 1 rfl) ?_
        refine nv_get S w (C := RX8) (T := TX8) (N := 11) hn_X8_readsNumber_8 0 rfl rfl 7 (by decide) (List.mem_of_getElem? (i := 1) rfl) (v := vI (pl + 1)) rfl dX8_readsNumber_28 ?_
        refine lv_iload_n S.1 S.2.1 dX8_readsNumber_31 rfl (lv_at hl 0 rfl) ?_
        refine lv_iconst (v := nI 2) S.1 S.2.1 dX8_readsNumber_32 (ofInt_nI 2) ?_
        refine nv_iadd S dX8_readsNumber_33 ?_
        refine nv_icmp_ge S (by omega) (by omega) (tgt := 69) dX8_readsNumber_34 (by decide) (fun h_8 => ?_) (fun h_8 => ?_)
        · skip
          exfalso; omega
        · skip
          refine lv_aload_n S.1 S.2.1 dX8_readsNumber_37 rfl (lv_at hl 1 rfl) ?_
          refine lv_bipush (v := nI 10) S.1 S.2.1 dX8_readsNumber_38 (by decide +kernel) ?_
          refine lv_aload_n S.1 S.2.1 dX8_readsNumber_40 rfl (lv_at hl 1 rfl) ?_
          refine nv_get S w (C := RX8) (T := TX8) (N := 11) hn_X8_readsNumber_8 0 rfl rfl 10 (by decide) (List.mem_of_getElem? (i := 2) rfl) (v := vI ((0 + (cx t tl pl)) - 49)) rfl dX8_readsNumber_41 ?_
          refine nv_imul S dX8_readsNumber_44 ?_
          refine lv_aload_n S.1 S.2.1 dX8_readsNumber_45 rfl (lv_at hl 1 rfl) ?_
          refine nv_rVi (rest := [vI (10 * ((0 + (cx t tl pl)) - 49)), .ref (b 0)]) S w hl.1 (c_X8_here l D Z b X sv sd sm th tl (pl + 1) ro ((0 + (cx t tl pl)) - 49) t r ht (by omega) (by omega)) [0, 1, 2, 3, 4, 5] rfl rfl gX8_readsNumber_X8_here rfl hdV_X8_here ⟨Nat.le_of_ble_eq_true rfl, Nat.le_of_ble_eq_true rfl⟩ (q0 := 0) rfl rfl rfl rfl (Nat.le_of_ble_eq_true rfl) ⟨Nat.zero_le _, Nat.zero_le _⟩ dX8_readsNumber_46 (fun H locs w => ?_)
          refine ns_iadd S (by omega) dX8_readsNumber_49 ?_
          refine lv_bipush (v := nI 48) S.1 S.2.1 dX8_readsNumber_50 (by decide +kernel) ?_
          refine ns_isub S (by omega) dX8_readsNumber_52 ?_
          refine W.eq (g2 := F0 m 53 ls [vI (((10 * ((0 + (cx t tl pl)) - 49)) + (cx t tl (pl + 1))) - 49), .ref (b 0)]) rfl ?_
          refine nv_put S w (C := RX8) (T := TX8) (N := 11) hn_X8_readsNumber_8 tyX8_ok nmX8 0 rfl rfl 10 (by decide) (List.mem_of_getElem? (i := 2) rfl) rfl rfl (Nat.le_of_ble_eq_true rfl) (ws' := [(b 0, .inr (7, [.ref (b 1), .ref (b 2), .ref (b 3), vI sm, vI th, .ref (b 4), vI tl, vI (pl + 1), .ref (b 5), vI ro, vI (((10 * ((0 + (cx t tl pl)) - 49)) + (cx t tl (pl + 1))) - 49)])), (b 1, .inl (Z 0, 853, .inl (ar 853 (enc X)))), (b 2, .inl (Z 0, 3412, .inl (ar 3412 sv))), (b 3, .inl (Z 0, 853, .inl (ar 853 sd))), (b 4, .inl (Z 0, 100, .inl (ar 100 t))), (b 5, .inl (Z 0, 128, .inl (ar 128 r)))]) rfl dX8_readsNumber_53 (fun H locs w => ?_)
          refine lv_aload_n S.1 S.2.1 dX8_readsNumber_56 rfl (lv_at hl 1 rfl) ?_
          refine lv_dup S.1 S.2.1 dX8_readsNumber_57 rfl ?_
          refine nv_get S w (C := RX8) (T := TX8) (N := 11) hn_X8_readsNumber_8 0 rfl rfl 7 (by decide) (List.mem_of_getElem? (i := 1) rfl) (v := vI (pl + 1)) rfl dX8_readsNumber_58 ?_
          refine lv_iconst (v := nI 1) S.1 S.2.1 dX8_readsNumber_61 (ofInt_nI 1) ?_
          refine nv_iadd S dX8_readsNumber_62 ?_
          refine W.eq (g2 := F0 m 63 ls [vI (pl + 2), .ref (b 0)]) rfl ?_
          refine nv_put S w (C := RX8) (T := TX8) (N := 11) hn_X8_readsNumber_8 tyX8_ok nmX8 0 rfl rfl 7 (by decide) (List.mem_of_getElem? (i := 1) rfl) rfl rfl (Nat.le_of_ble_eq_true rfl) (ws' := [(b 0, .inr (7, [.ref (b 1), .ref (b 2), .ref (b 3), vI sm, vI th, .ref (b 4), vI tl, vI (pl + 2), .ref (b 5), vI ro, vI (((10 * ((0 + (cx t tl pl)) - 49)) + (cx t tl (pl + 1))) - 49)])), (b 1, .inl (Z 0, 853, .inl (ar 853 (enc X)))), (b 2, .inl (Z 0, 3412, .inl (ar 3412 sv))), (b 3, .inl (Z 0, 853, .inl (ar 853 sd))), (b 4, .inl (Z 0, 100, .inl (ar 100 t))), (b 5, .inl (Z 0, 128, .inl (ar 128 r)))]) rfl dX8_readsNumber_63 (fun H locs w => ?_)
          refine lv_goto (tgt := 10) S.1 S.2.1 dX8_readsNumber_66 (by decide) ?_
          have w := w.as (ws' := mdM Z b X sv sd sm th tl (pl + 2) ro (((10 * ((0 + (cx t tl pl)) - 49)) + (cx t tl (pl + 1))) - 49) t r) rfl
          refine lv_aload_n S.1 S.2.1 dX8_readsNumber_10 rfl (lv_at hl 1 rfl) ?_
          refine nv_rVi (rest := []) S w hl.1 (c_X8_here l D Z b X sv sd sm th tl (pl + 2) ro (((10 * ((0 + (cx t tl pl)) - 49)) + (cx t tl (pl + 1))) - 49) t r ht (by omega) (by omega)) [0, 1, 2, 3, 4, 5] rfl rfl gX8_readsNumber_X8_here rfl hdV_X8_here ⟨Nat.le_of_ble_eq_true rfl, Nat.le_of_ble_eq_true rfl⟩ (q0 := 0) rfl rfl rfl rfl (Nat.le_of_ble_eq_true rfl) ⟨Nat.zero_le _, Nat.zero_le _⟩ dX8_readsNumber_11 (fun H locs w => ?_)
          refine lv_i2l (v := (nI (cx t tl (pl + 2)) - 1).toInt64) S.1 S.2.1 dX8_readsNumber_14 rfl ?_
          refine lv_ldc2 (v := 48) S.1 S.2.1 S.2.2.2.1 (S.2.2.2.2 _ (by decide +kernel)) dX8_readsNumber_15 ?_
          refine lv_ldc2 (v := 57) S.1 S.2.1 S.2.2.2.1 (S.2.2.2.2 _ (by decide +kernel)) dX8_readsNumber_18 ?_
          refine nv_pSi (rest := []) S w hl.1 (c_X8_inS l D Z (cx t tl (pl + 2)) 48 57 (by omega) (by omega) (by omega)) gX8_readsNumber_X8_in rfl hdS_X8_in ⟨Nat.le_of_ble_eq_true rfl, Nat.le_of_ble_eq_true rfl⟩ rfl rfl (Nat.le_of_ble_eq_true rfl) ⟨Nat.zero_le _, Nat.zero_le _⟩ dX8_readsNumber_21 (fun H locs w => ?_)
          refine nv_if_eqB S (tgt := 69) dX8_readsNumber_24 (by decide) (fun h_9 => ?_) (fun h_9 => ?_)
          · skip
            refine lv_aload_n S.1 S.2.1 dX8_readsNumber_69 rfl (lv_at hl 1 rfl) ?_
            refine nv_get S w (C := RX8) (T := TX8) (N := 11) hn_X8_readsNumber_8 0 rfl rfl 7 (by decide) (List.mem_of_getElem? (i := 1) rfl) (v := vI (pl + 2)) rfl dX8_readsNumber_70 ?_
            refine lv_iload_n S.1 S.2.1 dX8_readsNumber_73 rfl (lv_at hl 0 rfl) ?_
            refine nv_icmp_eq S (by omega) (by omega) (tgt := 94) dX8_readsNumber_74 (by decide) (fun h_10 => ?_) (fun h_10 => ?_)
            · skip
              exfalso; omega
            · skip
              refine lv_aload_n S.1 S.2.1 dX8_readsNumber_77 rfl (lv_at hl 1 rfl) ?_
              refine nv_rVi (rest := []) S w hl.1 (c_X8_here l D Z b X sv sd sm th tl (pl + 2) ro (((10 * ((0 + (cx t tl pl)) - 49)) + (cx t tl (pl + 1))) - 49) t r ht (by omega) (by omega)) [0, 1, 2, 3, 4, 5] rfl rfl gX8_readsNumber_X8_here rfl hdV_X8_here ⟨Nat.le_of_ble_eq_true rfl, Nat.le_of_ble_eq_true rfl⟩ (q0 := 0) rfl rfl rfl rfl (Nat.le_of_ble_eq_true rfl) ⟨Nat.zero_le _, Nat.zero_le _⟩ dX8_readsNumber_78 (fun H locs w => ?_)
              refine lv_i2l (v := (nI (cx t tl (pl + 2)) - 1).toInt64) S.1 S.2.1 dX8_readsNumber_81 rfl ?_
              refine lv_ldc2 (v := 48) S.1 S.2.1 S.2.2.2.1 (S.2.2.2.2 _ (by decide +kernel)) dX8_readsNumber_82 ?_
              refine lv_ldc2 (v := 57) S.1 S.2.1 S.2.2.2.1 (S.2.2.2.2 _ (by decide +kernel)) dX8_readsNumber_85 ?_
              refine nv_pSi (rest := []) S w hl.1 (c_X8_inS l D Z (cx t tl (pl + 2)) 48 57 (by omega) (by omega) (by omega)) gX8_readsNumber_X8_in rfl hdS_X8_in ⟨Nat.le_of_ble_eq_true rfl, Nat.le_of_ble_eq_true rfl⟩ rfl rfl (Nat.le_of_ble_eq_true rfl) ⟨Nat.zero_le _, Nat.zero_le _⟩ dX8_readsNumber_88 (fun H locs w => ?_)
              refine nv_if_eqB S (tgt := 96) dX8_readsNumber_91 (by decide) (fun h_11 => ?_) (fun h_11 => ?_)
              · skip
                refine lv_aload_n S.1 S.2.1 dX8_readsNumber_96 rfl (lv_at hl 1 rfl) ?_
                refine nv_get S w (C := RX8) (T := TX8) (N := 11) hn_X8_readsNumber_8 0 rfl rfl 10 (by decide) (List.mem_of_getElem? (i := 2) rfl) (v := vI (((10 * ((0 + (cx t tl pl)) - 49)) + (cx t tl (pl + 1))) - 49)) rfl dX8_readsNumber_97 ?_
                refine lv_iload_n S.1 S.2.1 dX8_readsNumber_100 rfl (lv_at hl 2 rfl) ?_
                refine nv_icmp_le S (by omega) (by omega) (tgt := 111) dX8_readsNumber_101 (by decide) (fun h_12 => ?_) (fun h_12 => ?_)
                · skip
                  refine lv_iconst (v := nI 1) S.1 S.2.1 dX8_readsNumber_111 (ofInt_nI 1) ?_
                  exact nv_iret S w hr hlocks (nI_bool (by decide)) (by have e9 : rn (cx t tl) pl o = (10 * (cx t tl pl - 49) + cx t tl (pl + 1) - 49 + 1, pl + 2) := (by unfold rn; rw [if_neg (by omega), if_pos (by omega), if_neg (by omega), if_neg (by omega)]); rw [bP_t (show (rn (cx t tl) pl o).1 ≠ 0 by rw [e9]; exact Nat.succ_ne_zero _)]) (by have e9 : rn (cx t tl) pl o = (10 * (cx t tl pl - 49) + cx t tl (pl + 1) - 49 + 1, pl + 2) := (by unfold rn; rw [if_neg (by omega), if_pos (by omega), if_neg (by omega), if_neg (by omega)]); have e10 : nuN (cx t tl) pl = ((10 * ((0 + (cx t tl pl)) - 49)) + (cx t tl (pl + 1))) - 49 := (by unfold nuN; rw [if_neg (by omega), if_pos (by omega)]; try omega); rw [e9, e10]; try rfl) dX8_readsNumber_112
                · skip
                  refine lv_aload_n S.1 S.2.1 dX8_readsNumber_104 rfl (lv_at hl 1 rfl) ?_
                  refine lv_iload_n S.1 S.2.1 dX8_readsNumber_105 rfl (lv_at hl 0 rfl) ?_
                  refine nv_put S w (C := RX8) (T := TX8) (N := 11) hn_X8_readsNumber_8 tyX8_ok nmX8 0 rfl rfl 7 (by decide) (List.mem_of_getElem? (i := 1) rfl) rfl rfl (Nat.le_of_ble_eq_true rfl) (ws' := [(b 0, .inr (7, [.ref (b 1), .ref (b 2), .ref (b 3), vI sm, vI th, .ref (b 4), vI tl, vI pl, .ref (b 5), vI ro, vI (((10 * ((0 + (cx t tl pl)) - 49)) + (cx t tl (pl + 1))) - 49)])), (b 1, .inl (Z 0, 853, .inl (ar 853 (enc X)))), (b 2, .inl (Z 0, 3412, .inl (ar 3412 sv))), (b 3, .inl (Z 0, 853, .inl (ar 853 sd))), (b 4, .inl (Z 0, 100, .inl (ar 100 t))), (b 5, .inl (Z 0, 128, .inl (ar 128 r)))]) rfl dX8_readsNumber_106 (fun H locs w => ?_)
                  refine lv_iconst (v := nI 0) S.1 S.2.1 dX8_readsNumber_109 (ofInt_nI 0) ?_
                  exact nv_iret S w hr hlocks (nI_bool (by decide)) (by have e9 : rn (cx t tl) pl o = (0, pl) := (by unfold rn; rw [if_neg (by omega), if_pos (by omega), if_neg (by omega), if_pos (by omega)]); rw [bP_f (show ¬ (rn (cx t tl) pl o).1 ≠ 0 by rw [e9]; exact fun z9 => z9 rfl)]) (by have e9 : rn (cx t tl) pl o = (0, pl) := (by unfold rn; rw [if_neg (by omega), if_pos (by omega), if_neg (by omega), if_pos (by omega)]); have e10 : nuN (cx t tl) pl = ((10 * ((0 + (cx t tl pl)) - 49)) + (cx t tl (pl + 1))) - 49 := (by unfold nuN; rw [if_neg (by omega), if_pos (by omega)]; try omega); rw [e9, e10]; try rfl) dX8_readsNumber_110
              · skip
                exfalso; omega
          · skip
            refine lv_aload_n S.1 S.2.1 dX8_readsNumber_27 rfl (lv_at hl 1 rfl) ?_
            refine nv_get S w (C := RX8) (T := TX8) (N := 11) hn_X8_readsNumber_8 0 rfl rfl 7 (by decide) (List.mem_of_getElem? (i := 1) rfl) (v := vI (pl + 2)) rfl dX8_readsNumber_28 ?_
            refine lv_iload_n S.1 S.2.1 dX8_readsNumber_31 rfl (lv_at hl 0 rfl) ?_
            refine lv_iconst (v := nI 2) S.1 S.2.1 dX8_readsNumber_32 (ofInt_nI 2) ?_
            refine nv_iadd S dX8_readsNumber_33 ?_
            refine nv_icmp_ge S (by omega) (by omega) (tgt := 69) dX8_readsNumber_34 (by decide) (fun h_13 => ?_) (fun h_13 => ?_)
            · skip
              refine lv_aload_n S.1 S.2.1 dX8_readsNumber_69 rfl (lv_at hl 1 rfl) ?_
              refine nv_get S w (C := RX8) (T := TX8) (N := 11) hn_X8_readsNumber_8 0 rfl rfl 7 (by decide) (List.mem_of_getElem? (i := 1) rfl) (v := vI (pl + 2)) rfl dX8_readsNumber_70 ?_
              refine lv_iload_n S.1 S.2.1 dX8_readsNumber_73 rfl (lv_at hl 0 rfl) ?_
              refine nv_icmp_eq S (by omega) (by omega) (tgt := 94) dX8_readsNumber_74 (by decide) (fun h_14 => ?_) (fun h_14 => ?_)
              · skip
                exfalso; omega
              · skip
                refine lv_aload_n S.1 S.2.1 dX8_readsNumber_77 rfl (lv_at hl 1 rfl) ?_
                refine nv_rVi (rest := []) S w hl.1 (c_X8_here l D Z b X sv sd sm th tl (pl + 2) ro (((10 * ((0 + (cx t tl pl)) - 49)) + (cx t tl (pl + 1))) - 49) t r ht (by omega) (by omega)) [0, 1, 2, 3, 4, 5] rfl rfl gX8_readsNumber_X8_here rfl hdV_X8_here ⟨Nat.le_of_ble_eq_true rfl, Nat.le_of_ble_eq_true rfl⟩ (q0 := 0) rfl rfl rfl rfl (Nat.le_of_ble_eq_true rfl) ⟨Nat.zero_le _, Nat.zero_le _⟩ dX8_readsNumber_78 (fun H locs w => ?_)
                refine lv_i2l (v := (nI (cx t tl (pl + 2)) - 1).toInt64) S.1 S.2.1 dX8_readsNumber_81 rfl ?_
                refine lv_ldc2 (v := 48) S.1 S.2.1 S.2.2.2.1 (S.2.2.2.2 _ (by decide +kernel)) dX8_readsNumber_82 ?_
                refine lv_ldc2 (v := 57) S.1 S.2.1 S.2.2.2.1 (S.2.2.2.2 _ (by decide +kernel)) dX8_readsNumber_85 ?_
                refine nv_pSi (rest := []) S w hl.1 (c_X8_inS l D Z (cx t tl (pl + 2)) 48 57 (by omega) (by omega) (by omega)) gX8_readsNumber_X8_in rfl hdS_X8_in ⟨Nat.le_of_ble_eq_true rfl, Nat.le_of_ble_eq_true rfl⟩ rfl rfl (Nat.le_of_ble_eq_true rfl) ⟨Nat.zero_le _, Nat.zero_le _⟩ dX8_readsNumber_88 (fun H locs w => ?_)
                refine nv_if_eqB S (tgt := 96) dX8_readsNumber_91 (by decide) (fun h_15 => ?_) (fun h_15 => ?_)
                · skip
                  exfalso; omega
                · skip
                  refine lv_iconst (v := nI 0) S.1 S.2.1 dX8_readsNumber_94 (ofInt_nI 0) ?_
                  exact nv_iret S w hr hlocks (nI_bool (by decide)) (by have e9 : rn (cx t tl) pl o = (0, pl + 2) := (by unfold rn; rw [if_neg (by omega), if_pos (by omega), if_pos (by omega)]); rw [bP_f (show ¬ (rn (cx t tl) pl o).1 ≠ 0 by rw [e9]; exact fun z9 => z9 rfl)]) (by have e9 : rn (cx t tl) pl o = (0, pl + 2) := (by unfold rn; rw [if_neg (by omega), if_pos (by omega), if_pos (by omega)]); have e10 : nuN (cx t tl) pl = ((10 * ((0 + (cx t tl pl)) - 49)) + (cx t tl (pl + 1))) - 49 := (by unfold nuN; rw [if_neg (by omega), if_pos (by omega)]; try omega); rw [e9, e10]; try rfl) dX8_readsNumber_95
            · skip
              exfalso; omega

theorem hn_X8_readsEffect_8 : ∀ w ∈ wsX80, w ∈ wsX8_readsEffect := by decide +kernel
set_option maxRecDepth 100000 in
set_option maxHeartbeats 4000000 in
theorem c_X8_readsEffect (l : Launch) (D : va_G) (Z : Nat → ClassId) (b : Nat → Nat) (X : ST) (sv sd : Nat → Nat) (sm th tl pl ro nu : Nat) (t r : Nat → Nat) (a : Nat) (ht : ∀ j, j < 100 → t j < 128) (htl : tl ≤ 100) (hpl : pl ≤ 1000) (ha : a + 3 < 128) (hef : 98 ≤ cx t tl pl ∧ cx t tl pl < 105) : Ci l yX8_readsEffect wsX8_readsEffect 1 25 D Z [.ref (b 0), vI a] (mdM Z b X sv sd sm th tl pl ro nu t r) (nI (bP (49 ≤ cx t tl (pl + 1) ∧ cx t tl (pl + 1) ≤ 58))) (mdM Z b X sv sd sm th tl (pl + 1 + bP (49 ≤ cx t tl (pl + 1) ∧ cx t tl (pl + 1) ≤ 58)) ro nu t (ifz (bP (49 ≤ cx t tl (pl + 1) ∧ cx t tl (pl + 1) ≤ 58)) (un r (a + 2) (cx t tl pl - 98 + 1)) (un (un r (a + 2) (cx t tl pl - 98 + 1)) (a + 3) (cx t tl (pl + 1) - 49)))) := by
  refine ne_i (cc := cX8_readsEffect) (maxL := 2) (by decide +kernel) rfl (Nat.le_of_ble_eq_true rfl) (fun p e s m args below meth c A ls (S : CallFix p m c cX8_readsEffect 2 s args wsX8_readsEffect RX8) hr hlocks hl w => ?_)
  have hc0 := cx_le (i := pl) ht htl
  have hc1 := cx_le (i := pl + 1) ht htl
  have hl : lv_has ls 2 [(0, .ref (b 0)), (1, vI a)] := hl
  refine lv_aload_n S.1 S.2.1 dX8_readsEffect_0 rfl (lv_at hl 0 rfl) ?_
  refine nv_get S w (C := RX8) (T := TX8) (N := 11) hn_X8_readsEffect_8 0 rfl rfl 8 (by decide) (List.mem_of_getElem? (i := 1) rfl) (v := .ref (b 5)) rfl dX8_readsEffect_1 ?_
  refine lv_iload_n S.1 S.2.1 dX8_readsEffect_4 rfl (lv_at hl 1 rfl) ?_
  refine lv_iconst (v := nI 2) S.1 S.2.1 dX8_readsEffect_5 (ofInt_nI 2) ?_
  refine nv_iadd S dX8_readsEffect_6 ?_
  refine lv_aload_n S.1 S.2.1 dX8_readsEffect_7 rfl (lv_at hl 0 rfl) ?_
  refine nv_rVi (rest := [vI (a + 2), .ref (b 5)]) S w hl.1 (c_X8_here l D Z b X sv sd sm th tl pl ro nu t r ht (by omega) (by omega)) [0, 1, 2, 3, 4, 5] rfl rfl gX8_readsEffect_X8_here rfl hdV_X8_here ⟨Nat.le_of_ble_eq_true rfl, Nat.le_of_ble_eq_true rfl⟩ (q0 := 0) rfl rfl rfl rfl (Nat.le_of_ble_eq_true rfl) ⟨Nat.zero_le _, Nat.zero_le _⟩ dX8_readsEffect_8 (fun H locs w => ?_)
  refine lv_bipush (v := nI 97) S.1 S.2.1 dX8_readsEffect_11 (by decide +kernel) ?_
  refine ns_isub S (by omega) dX8_readsEffect_13 ?_
  refine W.eq (g2 := F0 m 14 ls [vI ((cx t tl pl) - 98), vI (a + 2), .ref (b 5)]) rfl ?_
  refine lv_iconst (v := nI 1) S.1 S.2.1 dX8_readsEffect_14 (ofInt_nI 1) ?_
  refine nv_iadd S dX8_readsEffect_15 ?_
  refine nv_iast S w (i := (a + 2)) (x := (((cx t tl pl) - 98) + 1)) (g := r) 5 rfl (by omega) (by decide) (ws' := [(b 0, .inr (7, [.ref (b 1), .ref (b 2), .ref (b 3), vI sm, vI th, .ref (b 4), vI tl, vI pl, .ref (b 5), vI ro, vI nu])), (b 1, .inl (Z 0, 853, .inl (ar 853 (enc X)))), (b 2, .inl (Z 0, 3412, .inl (ar 3412 sv))), (b 3, .inl (Z 0, 853, .inl (ar 853 sd))), (b 4, .inl (Z 0, 100, .inl (ar 100 t))), (b 5, .inl (Z 0, 128, .inl (ar 128 (un r (a + 2) (((cx t tl pl) - 98) + 1)))))]) rfl dX8_readsEffect_16 (fun H locs w => ?_)
  refine lv_aload_n S.1 S.2.1 dX8_readsEffect_17 rfl (lv_at hl 0 rfl) ?_
  refine lv_dup S.1 S.2.1 dX8_readsEffect_18 rfl ?_
  refine nv_get S w (C := RX8) (T := TX8) (N := 11) hn_X8_readsEffect_8 0 rfl rfl 7 (by decide) (List.mem_of_getElem? (i := 2) rfl) (v := vI pl) rfl dX8_readsEffect_19 ?_
  refine lv_iconst (v := nI 1) S.1 S.2.1 dX8_readsEffect_22 (ofInt_nI 1) ?_
  refine nv_iadd S dX8_readsEffect_23 ?_
  refine nv_put S w (C := RX8) (T := TX8) (N := 11) hn_X8_readsEffect_8 tyX8_ok nmX8 0 rfl rfl 7 (by decide) (List.mem_of_getElem? (i := 2) rfl) rfl rfl (Nat.le_of_ble_eq_true rfl) (ws' := [(b 0, .inr (7, [.ref (b 1), .ref (b 2), .ref (b 3), vI sm, vI th, .ref (b 4), vI tl, vI (pl + 1), .ref (b 5), vI ro, vI nu])), (b 1, .inl (Z 0, 853, .inl (ar 853 (enc X)))), (b 2, .inl (Z 0, 3412, .inl (ar 3412 sv))), (b 3, .inl (Z 0, 853, .inl (ar 853 sd))), (b 4, .inl (Z 0, 100, .inl (ar 100 t))), (b 5, .inl (Z 0, 128, .inl (ar 128 (un r (a + 2) (((cx t tl pl) - 98) + 1)))))]) rfl dX8_readsEffect_24 (fun H locs w => ?_)
  have w := w.as (ws' := mdM Z b X sv sd sm th tl (pl + 1) ro nu t (un r (a + 2) (((cx t tl pl) - 98) + 1))) rfl
  refine lv_aload_n S.1 S.2.1 dX8_readsEffect_27 rfl (lv_at hl 0 rfl) ?_
  refine nv_rVi (rest := []) S w hl.1 (c_X8_here l D Z b X sv sd sm th tl (pl + 1) ro nu t (un r (a + 2) (((cx t tl pl) - 98) + 1)) ht (by omega) (by omega)) [0, 1, 2, 3, 4, 5] rfl rfl gX8_readsEffect_X8_here rfl hdV_X8_here ⟨Nat.le_of_ble_eq_true rfl, Nat.le_of_ble_eq_true rfl⟩ (q0 := 0) rfl rfl rfl rfl (Nat.le_of_ble_eq_true rfl) ⟨Nat.zero_le _, Nat.zero_le _⟩ dX8_readsEffect_28 (fun H locs w => ?_)
  refine lv_i2l (v := (nI (cx t tl (pl + 1)) - 1).toInt64) S.1 S.2.1 dX8_readsEffect_31 rfl ?_
  refine lv_ldc2 (v := 48) S.1 S.2.1 S.2.2.2.1 (S.2.2.2.2 _ (by decide +kernel)) dX8_readsEffect_32 ?_
  refine lv_ldc2 (v := 57) S.1 S.2.1 S.2.2.2.1 (S.2.2.2.2 _ (by decide +kernel)) dX8_readsEffect_35 ?_
  refine nv_pSi (rest := []) S w hl.1 (c_X8_inS l D Z (cx t tl (pl + 1)) 48 57 (by omega) (by omega) (by omega)) gX8_readsEffect_X8_in rfl hdS_X8_in ⟨Nat.le_of_ble_eq_true rfl, Nat.le_of_ble_eq_true rfl⟩ rfl rfl (Nat.le_of_ble_eq_true rfl) ⟨Nat.zero_le _, Nat.zero_le _⟩ dX8_readsEffect_38 (fun H locs w => ?_)
  refine nv_if_neB S (tgt := 46) dX8_readsEffect_41 (by decide) (fun h_1 => ?_) (fun h_1 => ?_)
  · skip
    refine lv_aload_n S.1 S.2.1 dX8_readsEffect_46 rfl (lv_at hl 0 rfl) ?_
    refine nv_get S w (C := RX8) (T := TX8) (N := 11) hn_X8_readsEffect_8 0 rfl rfl 8 (by decide) (List.mem_of_getElem? (i := 1) rfl) (v := .ref (b 5)) rfl dX8_readsEffect_47 ?_
    refine lv_iload_n S.1 S.2.1 dX8_readsEffect_50 rfl (lv_at hl 1 rfl) ?_
    refine lv_iconst (v := nI 3) S.1 S.2.1 dX8_readsEffect_51 (ofInt_nI 3) ?_
    refine nv_iadd S dX8_readsEffect_52 ?_
    refine lv_aload_n S.1 S.2.1 dX8_readsEffect_53 rfl (lv_at hl 0 rfl) ?_
    refine nv_rVi (rest := [vI (a + 3), .ref (b 5)]) S w hl.1 (c_X8_here l D Z b X sv sd sm th tl (pl + 1) ro nu t (un r (a + 2) (((cx t tl pl) - 98) + 1)) ht (by omega) (by omega)) [0, 1, 2, 3, 4, 5] rfl rfl gX8_readsEffect_X8_here rfl hdV_X8_here ⟨Nat.le_of_ble_eq_true rfl, Nat.le_of_ble_eq_true rfl⟩ (q0 := 0) rfl rfl rfl rfl (Nat.le_of_ble_eq_true rfl) ⟨Nat.zero_le _, Nat.zero_le _⟩ dX8_readsEffect_54 (fun H locs w => ?_)
    refine lv_bipush (v := nI 48) S.1 S.2.1 dX8_readsEffect_57 (by decide +kernel) ?_
    refine ns_isub S (by omega) dX8_readsEffect_59 ?_
    refine W.eq (g2 := F0 m 60 ls [vI ((cx t tl (pl + 1)) - 49), vI (a + 3), .ref (b 5)]) rfl ?_
    refine nv_iast S w (i := (a + 3)) (x := ((cx t tl (pl + 1)) - 49)) (g := (un r (a + 2) (((cx t tl pl) - 98) + 1))) 5 rfl (by omega) (by decide) (ws' := [(b 0, .inr (7, [.ref (b 1), .ref (b 2), .ref (b 3), vI sm, vI th, .ref (b 4), vI tl, vI (pl + 1), .ref (b 5), vI ro, vI nu])), (b 1, .inl (Z 0, 853, .inl (ar 853 (enc X)))), (b 2, .inl (Z 0, 3412, .inl (ar 3412 sv))), (b 3, .inl (Z 0, 853, .inl (ar 853 sd))), (b 4, .inl (Z 0, 100, .inl (ar 100 t))), (b 5, .inl (Z 0, 128, .inl (ar 128 (un (un r (a + 2) (((cx t tl pl) - 98) + 1)) (a + 3) ((cx t tl (pl + 1)) - 49)))))]) rfl dX8_readsEffect_60 (fun H locs w => ?_)
    refine lv_aload_n S.1 S.2.1 dX8_readsEffect_61 rfl (lv_at hl 0 rfl) ?_
    refine lv_dup S.1 S.2.1 dX8_readsEffect_62 rfl ?_
    refine nv_get S w (C := RX8) (T := TX8) (N := 11) hn_X8_readsEffect_8 0 rfl rfl 7 (by decide) (List.mem_of_getElem? (i := 2) rfl) (v := vI (pl + 1)) rfl dX8_readsEffect_63 ?_
    refine lv_iconst (v := nI 1) S.1 S.2.1 dX8_readsEffect_66 (ofInt_nI 1) ?_
    refine nv_iadd S dX8_readsEffect_67 ?_
    refine W.eq (g2 := F0 m 68 ls [vI (pl + 2), .ref (b 0)]) rfl ?_
    refine nv_put S w (C := RX8) (T := TX8) (N := 11) hn_X8_readsEffect_8 tyX8_ok nmX8 0 rfl rfl 7 (by decide) (List.mem_of_getElem? (i := 2) rfl) rfl rfl (Nat.le_of_ble_eq_true rfl) (ws' := [(b 0, .inr (7, [.ref (b 1), .ref (b 2), .ref (b 3), vI sm, vI th, .ref (b 4), vI tl, vI (pl + 2), .ref (b 5), vI ro, vI nu])), (b 1, .inl (Z 0, 853, .inl (ar 853 (enc X)))), (b 2, .inl (Z 0, 3412, .inl (ar 3412 sv))), (b 3, .inl (Z 0, 853, .inl (ar 853 sd))), (b 4, .inl (Z 0, 100, .inl (ar 100 t))), (b 5, .inl (Z 0, 128, .inl (ar 128 (un (un r (a + 2) (((cx t tl pl) - 98) + 1)) (a + 3) ((cx t tl (pl + 1)) - 49)))))]) rfl dX8_readsEffect_68 (fun H locs w => ?_)
    refine lv_iconst (v := nI 1) S.1 S.2.1 dX8_readsEffect_71 (ofInt_nI 1) ?_
    exact nv_iret S w hr hlocks (nI_bool (by decide)) (by rw [bP_t (show (49 ≤ cx t tl (pl + 1) ∧ cx t tl (pl + 1) ≤ 58) by omega)]) (by rw [bP_t (show (49 ≤ cx t tl (pl + 1) ∧ cx t tl (pl + 1) ≤ 58) by omega)]; try rfl) dX8_readsEffect_72
  · skip
    refine lv_iconst (v := nI 0) S.1 S.2.1 dX8_readsEffect_44 (ofInt_nI 0) ?_
    exact nv_iret S w hr hlocks (nI_bool (by decide)) (by rw [bP_f (show ¬ (49 ≤ cx t tl (pl + 1) ∧ cx t tl (pl + 1) ≤ 58) by omega)]) (by rw [bP_f (show ¬ (49 ≤ cx t tl (pl + 1) ∧ cx t tl (pl + 1) ≤ 58) by omega)]; try rfl) dX8_readsEffect_45
