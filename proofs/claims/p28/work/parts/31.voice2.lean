theorem hn_X6_endRow_6 : ∀ w ∈ wsX60, w ∈ wsX6_endRow := by decide +kernel
theorem hdV_X6_enter : yX6_enter.cls = RX6 ∧ yX6_enter.cls ≠ "java/lang/invoke/MethodHandle" ∧ yX6_enter.cls ≠ "java/lang/invoke/VarHandle" ∧ (parseMethodDescriptor yX6_enter.desc).map (fun d => d.parameters.length) = some 1 := by decide +kernel
set_option maxRecDepth 100000 in
set_option maxHeartbeats 4000000 in
theorem c_X6_endRow (l : Launch) (D : va_G) (Z : Nat → ClassId) (q qp qr : Nat) (V : Nat → Nat) (q9 qc qw qo : Nat) (G : SG) (h : VB V) (hf : FR V) (hs : SB G) : Cv l yX6_endRow wsX6_endRow 2 42 D Z [.ref q, .ref q9] (voiceB Z q qp qr V ++ songB Z q9 qc qw qo G)  (voiceB Z q qp qr (endV G.2.1 V) ++ songB Z q9 qc qw qo G) := by
  refine ne_v (cc := cX6_endRow) (maxL := 3) (by decide +kernel) rfl (Nat.le_of_ble_eq_true rfl) (fun p e s m args below meth c A ls (S : CallFix p m c cX6_endRow 3 s args wsX6_endRow RX6) hr hlocks hl w => ?_)
  have h2 := h
  unfold VB at h2
  have hl : lv_has ls 3 [(0, .ref q), (1, .ref q9)] := hl
  refine lv_aload_n S.1 S.2.1 dX6_endRow_0 rfl (lv_at hl 0 rfl) ?_
  refine nv_get S w (C := RX6) (T := TX6) (N := 9) hn_X6_endRow_6 0 rfl rfl 5 (by decide) (List.mem_of_getElem? (i := 1) rfl) (v := vI (V 4)) rfl dX6_endRow_1 ?_
  refine lv_iconst (v := nI 1) S.1 S.2.1 dX6_endRow_4 (ofInt_nI 1) ?_
  by_cases h_0 : V 4 = 0
  · skip
    refine lv_isub S.1 S.2.1 dX6_endRow_5 ?_
    refine W.eq (g2 := F0 m 6 ls [.int (-1)]) (by rw [h_0]; rfl) ?_
    refine lv_istore_n (lv' := [(2, .int (-1)), (0, .ref q), (1, .ref q9)]) S.1 S.2.1 dX6_endRow_6 rfl hl (by decide) rfl (fun ls hl => ?_)
    refine lv_iload_n S.1 S.2.1 dX6_endRow_7 rfl (lv_at hl 0 rfl) ?_
    refine lv_iconst (v := nI 3) S.1 S.2.1 dX6_endRow_8 (ofInt_nI 3) ?_
    refine nv_pNi (rest := []) S w hl.1 (c_X7_isIndex l D Z (-1) (nI 3) ) gX6_endRow_X7_isIndex_n52 rfl (kN := 6) rfl (List.mem_of_getElem? (i := 6) rfl) (List.mem_of_getElem? (i := 5) rfl) hdS_X7_isIndex ⟨Nat.le_of_ble_eq_true rfl, Nat.le_of_ble_eq_true rfl⟩ rfl rfl (Nat.le_of_ble_eq_true rfl) ⟨Nat.zero_le _, Nat.zero_le _⟩ dX6_endRow_9 (fun H locs w => ?_)
    refine nv_if_eqB S (tgt := 49) dX6_endRow_12 (by decide) (fun h_1 => ?_) (fun h_1 => ?_)
    · skip
      refine lv_aload_n S.1 S.2.1 dX6_endRow_49 rfl (lv_at hl 1 rfl) ?_
      refine nv_get S w (C := RX6) (T := TX6) (N := 9) hn_X6_endRow_6 0 rfl rfl 8 (by decide) (List.mem_of_getElem? (i := 4) rfl) (v := vI (pk (rv V))) rfl dX6_endRow_50 ?_
      refine nv_pSi (rest := []) S w hl.1 (c_X0_isCall l D Z (rv V) h.rb) gX6_endRow_X0_isCall rfl hdS_X0_isCall ⟨Nat.le_of_ble_eq_true rfl, Nat.le_of_ble_eq_true rfl⟩ rfl rfl (Nat.le_of_ble_eq_true rfl) ⟨Nat.zero_le _, Nat.zero_le _⟩ dX6_endRow_53 (fun H locs w => ?_)
      refine W.eq (g2 := F0 m 56 ls [vI (bP (V 14 = 5 ∧ V 15 < 6))]) rfl ?_
      refine nv_if_eqB S (tgt := 70) dX6_endRow_56 (by decide) (fun h_2 => ?_) (fun h_2 => ?_)
      · skip
        exact nv_vret S w hr hlocks (congrArg (· ++ songB Z q9 qc qw qo G) ((end1_0 h_0).trans (by unfold endV; rw [if_neg h_2]))) dX6_endRow_70
      · skip
        refine lv_aload_n S.1 S.2.1 dX6_endRow_59 rfl (lv_at hl 1 rfl) ?_
        refine lv_aload_n S.1 S.2.1 dX6_endRow_60 rfl (lv_at hl 1 rfl) ?_
        refine nv_get S w (C := RX6) (T := TX6) (N := 9) hn_X6_endRow_6 0 rfl rfl 8 (by decide) (List.mem_of_getElem? (i := 4) rfl) (v := vI (pk (rv V))) rfl dX6_endRow_61 ?_
        refine nv_pSi (rest := [.ref q]) S w hl.1 (c_X0_numberOf l D Z (rv V) h.rb) gX6_endRow_X0_numberOf rfl hdS_X0_numberOf ⟨Nat.le_of_ble_eq_true rfl, Nat.le_of_ble_eq_true rfl⟩ rfl rfl (Nat.le_of_ble_eq_true rfl) ⟨Nat.zero_le _, Nat.zero_le _⟩ dX6_endRow_64 (fun H locs w => ?_)
        refine W.eq (g2 := F0 m 67 ls [vI (V 15), .ref q]) rfl ?_
        have w := w.as (ws' := voiceB Z q qp qr (end1V G.2.1 V) ++ songB Z q9 qc qw qo G) (congrArg (· ++ songB Z q9 qc qw qo G) (end1_0 h_0))
        refine nv_cVv (rest := []) (ws' := voiceB Z q qp qr (entV (end1V G.2.1 V) (V 15)) ++ songB Z q9 qc qw qo G) S w hl.1 (c_X6_enter l D Z q qp qr (end1V G.2.1 V) (V 15) (VB_end1V h hf.top) (by omega)) [0, 1, 2] rfl rfl rfl rfl gX6_endRow_X6_enter rfl hdV_X6_enter ⟨Nat.le_of_ble_eq_true rfl, Nat.le_of_ble_eq_true rfl⟩ (q0 := 0) rfl rfl rfl rfl (Nat.le_of_ble_eq_true rfl) ⟨Nat.zero_le _, Nat.zero_le _⟩ dX6_endRow_67 (fun H locs w => ?_)
        exact nv_vret S w hr hlocks (congrArg (· ++ songB Z q9 qc qw qo G) (by unfold endV; rw [if_pos h_2])) dX6_endRow_70
    · skip
      exact absurd h_1 (by decide)
  · skip
    refine nv_isub S (by omega) dX6_endRow_5 ?_
    refine lv_istore_n (lv' := [(2, vI ((V 4) - 1)), (0, .ref q), (1, .ref q9)]) S.1 S.2.1 dX6_endRow_6 rfl hl (by decide) rfl (fun ls hl => ?_)
    refine lv_iload_n S.1 S.2.1 dX6_endRow_7 rfl (lv_at hl 0 rfl) ?_
    refine lv_iconst (v := nI 3) S.1 S.2.1 dX6_endRow_8 (ofInt_nI 3) ?_
    refine nv_pNi (rest := []) S w hl.1 (c_X7_isIndexN l D Z ((V 4) - 1) 3 (by omega) (by omega)) gX6_endRow_X7_isIndex_n52 rfl (kN := 6) rfl (List.mem_of_getElem? (i := 6) rfl) (List.mem_of_getElem? (i := 5) rfl) hdS_X7_isIndex ⟨Nat.le_of_ble_eq_true rfl, Nat.le_of_ble_eq_true rfl⟩ rfl rfl (Nat.le_of_ble_eq_true rfl) ⟨Nat.zero_le _, Nat.zero_le _⟩ dX6_endRow_9 (fun H locs w => ?_)
    refine nv_if_eqB S (tgt := 49) dX6_endRow_12 (by decide) (fun h_3 => ?_) (fun h_3 => ?_)
    · skip
      exfalso; omega
    · skip
      have hfp := VB_fp h h_0
      have hrw := hs.2.1 _ (show V (5 + 2 * (V 4 - 1)) < 6 by omega)
      refine lv_aload_n S.1 S.2.1 dX6_endRow_15 rfl (lv_at hl 1 rfl) ?_
      refine nv_get S w (C := RX6) (T := TX6) (N := 9) hn_X6_endRow_6 0 rfl rfl 7 (by decide) (List.mem_of_getElem? (i := 2) rfl) (v := .ref qr) rfl dX6_endRow_16 ?_
      refine lv_iload_n S.1 S.2.1 dX6_endRow_19 rfl (lv_at hl 0 rfl) ?_
      refine lv_dup2_11 S.1 S.2.1 dX6_endRow_20 rfl rfl ?_
      refine nv_iald S w (i := ((V 4) - 1)) (g := (fun j => V (6 + 2 * j))) 2 rfl (by omega) (by decide) dX6_endRow_21 ?_
      refine W.eq (g2 := F0 m 22 ls [vI (V (6 + 2 * ((V 4) - 1))), vI ((V 4) - 1), .ref qr]) rfl ?_
      refine lv_iconst (v := nI 1) S.1 S.2.1 dX6_endRow_22 (ofInt_nI 1) ?_
      refine nv_iadd S dX6_endRow_23 ?_
      refine nv_iast S w (i := ((V 4) - 1)) (x := ((V (6 + 2 * ((V 4) - 1))) + 1)) (g := (fun j => V (6 + 2 * j))) 2 rfl (by omega) (by decide) (ws' := [(q, .inr (5, [vI (V 0), vI (V 1), vI (V 2), vI (V 3), vI (V 11), vI (V 4), .ref qp, .ref qr, vI (pk (rv V))])), (qp, .inl (Z 0, 3, .inl (ar 3 (fun j => V (5 + 2 * j))))), (qr, .inl (Z 0, 3, .inl (ar 3 (un (fun j => V (6 + 2 * j)) ((V 4) - 1) ((V (6 + 2 * ((V 4) - 1))) + 1)))))] ++ songB Z q9 qc qw qo G) rfl dX6_endRow_24 (fun H locs w => ?_)
      refine lv_aload_n S.1 S.2.1 dX6_endRow_25 rfl (lv_at hl 1 rfl) ?_
      refine nv_get S w (C := RX6) (T := TX6) (N := 9) hn_X6_endRow_6 0 rfl rfl 7 (by decide) (List.mem_of_getElem? (i := 2) rfl) (v := .ref qr) rfl dX6_endRow_26 ?_
      refine lv_iload_n S.1 S.2.1 dX6_endRow_29 rfl (lv_at hl 0 rfl) ?_
      refine nv_iald S w (i := ((V 4) - 1)) (g := (un (fun j => V (6 + 2 * j)) ((V 4) - 1) ((V (6 + 2 * ((V 4) - 1))) + 1))) 2 rfl (by omega) (by decide) dX6_endRow_30 ?_
      refine W.eq (g2 := F0 m 31 ls [vI (V (6 + 2 * (V 4 - 1)) + 1)]) (by rw [un_eq]) ?_
      refine lv_aload_n S.1 S.2.1 dX6_endRow_31 rfl (lv_at hl 2 rfl) ?_
      refine lv_aload_n S.1 S.2.1 dX6_endRow_32 rfl (lv_at hl 1 rfl) ?_
      refine nv_get S w (C := RX6) (T := TX6) (N := 9) hn_X6_endRow_6 0 rfl rfl 6 (by decide) (List.mem_of_getElem? (i := 3) rfl) (v := .ref qp) rfl dX6_endRow_33 ?_
      refine lv_iload_n S.1 S.2.1 dX6_endRow_36 rfl (lv_at hl 0 rfl) ?_
      refine nv_iald S w (i := ((V 4) - 1)) (g := (fun j => V (5 + 2 * j))) 1 rfl (by omega) (by decide) dX6_endRow_37 ?_
      refine W.eq (g2 := F0 m 38 ls [vI (V (5 + 2 * ((V 4) - 1))), .ref q9, vI (V (6 + 2 * (V 4 - 1)) + 1)]) rfl ?_
      refine nv_rVi (rest := [vI (V (6 + 2 * (V 4 - 1)) + 1)]) S w hl.1 (c_X4_rowsOf l D Z q9 qc qw qo G (V (5 + 2 * ((V 4) - 1))) (by omega)) [3, 4, 5, 6] rfl rfl gX6_endRow_X4_rowsOf rfl hdV_X4_rowsOf ⟨Nat.le_of_ble_eq_true rfl, Nat.le_of_ble_eq_true rfl⟩ (q0 := 0) rfl rfl rfl rfl (Nat.le_of_ble_eq_true rfl) ⟨Nat.zero_le _, Nat.zero_le _⟩ dX6_endRow_38 (fun H locs w => ?_)
      refine nv_icmp_lt S (by omega) (by omega) (tgt := 49) dX6_endRow_41 (by decide) (fun h_4 => ?_) (fun h_4 => ?_)
      · skip
        refine lv_aload_n S.1 S.2.1 dX6_endRow_49 rfl (lv_at hl 1 rfl) ?_
        refine nv_get S w (C := RX6) (T := TX6) (N := 9) hn_X6_endRow_6 0 rfl rfl 8 (by decide) (List.mem_of_getElem? (i := 4) rfl) (v := vI (pk (rv V))) rfl dX6_endRow_50 ?_
        refine nv_pSi (rest := []) S w hl.1 (c_X0_isCall l D Z (rv V) h.rb) gX6_endRow_X0_isCall rfl hdS_X0_isCall ⟨Nat.le_of_ble_eq_true rfl, Nat.le_of_ble_eq_true rfl⟩ rfl rfl (Nat.le_of_ble_eq_true rfl) ⟨Nat.zero_le _, Nat.zero_le _⟩ dX6_endRow_53 (fun H locs w => ?_)
        refine W.eq (g2 := F0 m 56 ls [vI (bP (V 14 = 5 ∧ V 15 < 6))]) rfl ?_
        refine nv_if_eqB S (tgt := 70) dX6_endRow_56 (by decide) (fun h_5 => ?_) (fun h_5 => ?_)
        · skip
          exact nv_vret S w hr hlocks (congrArg (· ++ songB Z q9 qc qw qo G) ((end1_a h_0 (by omega) (by omega)).trans (by unfold endV; rw [if_neg h_5]))) dX6_endRow_70
        · skip
          refine lv_aload_n S.1 S.2.1 dX6_endRow_59 rfl (lv_at hl 1 rfl) ?_
          refine lv_aload_n S.1 S.2.1 dX6_endRow_60 rfl (lv_at hl 1 rfl) ?_
          refine nv_get S w (C := RX6) (T := TX6) (N := 9) hn_X6_endRow_6 0 rfl rfl 8 (by decide) (List.mem_of_getElem? (i := 4) rfl) (v := vI (pk (rv V))) rfl dX6_endRow_61 ?_
          refine nv_pSi (rest := [.ref q]) S w hl.1 (c_X0_numberOf l D Z (rv V) h.rb) gX6_endRow_X0_numberOf rfl hdS_X0_numberOf ⟨Nat.le_of_ble_eq_true rfl, Nat.le_of_ble_eq_true rfl⟩ rfl rfl (Nat.le_of_ble_eq_true rfl) ⟨Nat.zero_le _, Nat.zero_le _⟩ dX6_endRow_64 (fun H locs w => ?_)
          refine W.eq (g2 := F0 m 67 ls [vI (V 15), .ref q]) rfl ?_
          have w := w.as (ws' := voiceB Z q qp qr (end1V G.2.1 V) ++ songB Z q9 qc qw qo G) (congrArg (· ++ songB Z q9 qc qw qo G) (end1_a h_0 (by omega) (by omega)))
          refine nv_cVv (rest := []) (ws' := voiceB Z q qp qr (entV (end1V G.2.1 V) (V 15)) ++ songB Z q9 qc qw qo G) S w hl.1 (c_X6_enter l D Z q qp qr (end1V G.2.1 V) (V 15) (VB_end1V h hf.top) (by omega)) [0, 1, 2] rfl rfl rfl rfl gX6_endRow_X6_enter rfl hdV_X6_enter ⟨Nat.le_of_ble_eq_true rfl, Nat.le_of_ble_eq_true rfl⟩ (q0 := 0) rfl rfl rfl rfl (Nat.le_of_ble_eq_true rfl) ⟨Nat.zero_le _, Nat.zero_le _⟩ dX6_endRow_67 (fun H locs w => ?_)
          exact nv_vret S w hr hlocks (congrArg (· ++ songB Z q9 qc qw qo G) (by unfold endV; rw [if_pos h_5])) dX6_endRow_70
      · skip
        refine lv_aload_n S.1 S.2.1 dX6_endRow_44 rfl (lv_at hl 1 rfl) ?_
        refine lv_iload_n S.1 S.2.1 dX6_endRow_45 rfl (lv_at hl 0 rfl) ?_
        refine nv_put S w (C := RX6) (T := TX6) (N := 9) hn_X6_endRow_6 tyX6_ok nmX6 0 rfl rfl 5 (by decide) (List.mem_of_getElem? (i := 1) rfl) rfl rfl (Nat.le_of_ble_eq_true rfl) (ws' := [(q, .inr (5, [vI (V 0), vI (V 1), vI (V 2), vI (V 3), vI (V 11), vI ((V 4) - 1), .ref qp, .ref qr, vI (pk (rv V))])), (qp, .inl (Z 0, 3, .inl (ar 3 (fun j => V (5 + 2 * j))))), (qr, .inl (Z 0, 3, .inl (ar 3 (un (fun j => V (6 + 2 * j)) ((V 4) - 1) ((V (6 + 2 * ((V 4) - 1))) + 1)))))] ++ songB Z q9 qc qw qo G) rfl dX6_endRow_46 (fun H locs w => ?_)
        refine lv_aload_n S.1 S.2.1 dX6_endRow_49 rfl (lv_at hl 1 rfl) ?_
        refine nv_get S w (C := RX6) (T := TX6) (N := 9) hn_X6_endRow_6 0 rfl rfl 8 (by decide) (List.mem_of_getElem? (i := 4) rfl) (v := vI (pk (rv V))) rfl dX6_endRow_50 ?_
        refine nv_pSi (rest := []) S w hl.1 (c_X0_isCall l D Z (rv V) h.rb) gX6_endRow_X0_isCall rfl hdS_X0_isCall ⟨Nat.le_of_ble_eq_true rfl, Nat.le_of_ble_eq_true rfl⟩ rfl rfl (Nat.le_of_ble_eq_true rfl) ⟨Nat.zero_le _, Nat.zero_le _⟩ dX6_endRow_53 (fun H locs w => ?_)
        refine W.eq (g2 := F0 m 56 ls [vI (bP (V 14 = 5 ∧ V 15 < 6))]) rfl ?_
        refine nv_if_eqB S (tgt := 70) dX6_endRow_56 (by decide) (fun h_6 => ?_) (fun h_6 => ?_)
        · skip
          exact nv_vret S w hr hlocks (congrArg (· ++ songB Z q9 qc qw qo G) ((end1_b h_0 (by omega) (by omega)).trans (by unfold endV; rw [if_neg h_6]))) dX6_endRow_70
        · skip
          refine lv_aload_n S.1 S.2.1 dX6_endRow_59 rfl (lv_at hl 1 rfl) ?_
          refine lv_aload_n S.1 S.2.1 dX6_endRow_60 rfl (lv_at hl 1 rfl) ?_
          refine nv_get S w (C := RX6) (T := TX6) (N := 9) hn_X6_endRow_6 0 rfl rfl 8 (by decide) (List.mem_of_getElem? (i := 4) rfl) (v := vI (pk (rv V))) rfl dX6_endRow_61 ?_
          refine nv_pSi (rest := [.ref q]) S w hl.1 (c_X0_numberOf l D Z (rv V) h.rb) gX6_endRow_X0_numberOf rfl hdS_X0_numberOf ⟨Nat.le_of_ble_eq_true rfl, Nat.le_of_ble_eq_true rfl⟩ rfl rfl (Nat.le_of_ble_eq_true rfl) ⟨Nat.zero_le _, Nat.zero_le _⟩ dX6_endRow_64 (fun H locs w => ?_)
          refine W.eq (g2 := F0 m 67 ls [vI (V 15), .ref q]) rfl ?_
          have w := w.as (ws' := voiceB Z q qp qr (end1V G.2.1 V) ++ songB Z q9 qc qw qo G) (congrArg (· ++ songB Z q9 qc qw qo G) (end1_b h_0 (by omega) (by omega)))
          refine nv_cVv (rest := []) (ws' := voiceB Z q qp qr (entV (end1V G.2.1 V) (V 15)) ++ songB Z q9 qc qw qo G) S w hl.1 (c_X6_enter l D Z q qp qr (end1V G.2.1 V) (V 15) (VB_end1V h hf.top) (by omega)) [0, 1, 2] rfl rfl rfl rfl gX6_endRow_X6_enter rfl hdV_X6_enter ⟨Nat.le_of_ble_eq_true rfl, Nat.le_of_ble_eq_true rfl⟩ (q0 := 0) rfl rfl rfl rfl (Nat.le_of_ble_eq_true rfl) ⟨Nat.zero_le _, Nat.zero_le _⟩ dX6_endRow_67 (fun H locs w => ?_)
          exact nv_vret S w hr hlocks (congrArg (· ++ songB Z q9 qc qw qo G) (by unfold endV; rw [if_pos h_6])) dX6_endRow_70

theorem hn_X6_copyFrom_6 : ∀ w ∈ wsX60, w ∈ wsX6_copyFrom := by decide +kernel
set_option maxRecDepth 100000 in
set_option maxHeartbeats 4000000 in
theorem c_X6_copyFrom (l : Launch) (D : va_G) (Z : Nat → ClassId) (q qp qr : Nat) (V : Nat → Nat) (q9 qp9 qr9 : Nat) (V9 : Nat → Nat)  : Cv l yX6_copyFrom wsX6_copyFrom 1 26 D Z [.ref q, .ref q9] (voiceB Z q qp qr V ++ voiceB Z q9 qp9 qr9 V9)  (voiceB Z q qp qr V9 ++ voiceB Z q9 qp9 qr9 V9) := by
  refine ne_v (cc := cX6_copyFrom) (maxL := 2) (by decide +kernel) rfl (Nat.le_of_ble_eq_true rfl) (fun p e s m args below meth c A ls (S : CallFix p m c cX6_copyFrom 2 s args wsX6_copyFrom RX6) hr hlocks hl w => ?_)
  have hl : lv_has ls 2 [(0, .ref q), (1, .ref q9)] := hl
  refine lv_aload_n S.1 S.2.1 dX6_copyFrom_0 rfl (lv_at hl 0 rfl) ?_
  refine lv_aload_n S.1 S.2.1 dX6_copyFrom_1 rfl (lv_at hl 1 rfl) ?_
  refine nv_get S w (C := RX6) (T := TX6) (N := 9) hn_X6_copyFrom_6 3 rfl rfl 0 (by decide) (List.mem_of_getElem? (i := 1) rfl) (v := vI (V9 0)) rfl dX6_copyFrom_2 ?_
  refine nv_put S w (C := RX6) (T := TX6) (N := 9) hn_X6_copyFrom_6 tyX6_ok nmX6 0 rfl rfl 0 (by decide) (List.mem_of_getElem? (i := 1) rfl) rfl rfl (Nat.le_of_ble_eq_true rfl) (ws' := [(q, .inr (5, [vI (V9 0), vI (V 1), vI (V 2), vI (V 3), vI (V 11), vI (V 4), .ref qp, .ref qr, vI (pk (rv V))])), (qp, .inl (Z 0, 3, .inl (ar 3 (fun j => V (5 + 2 * j))))), (qr, .inl (Z 0, 3, .inl (ar 3 (fun j => V (6 + 2 * j)))))] ++ voiceB Z q9 qp9 qr9 V9) rfl dX6_copyFrom_5 (fun H locs w => ?_)
  refine lv_aload_n S.1 S.2.1 dX6_copyFrom_8 rfl (lv_at hl 0 rfl) ?_
  refine lv_aload_n S.1 S.2.1 dX6_copyFrom_9 rfl (lv_at hl 1 rfl) ?_
  refine nv_get S w (C := RX6) (T := TX6) (N := 9) hn_X6_copyFrom_6 3 rfl rfl 1 (by decide) (List.mem_of_getElem? (i := 2) rfl) (v := vI (V9 1)) rfl dX6_copyFrom_10 ?_
  refine nv_put S w (C := RX6) (T := TX6) (N := 9) hn_X6_copyFrom_6 tyX6_ok nmX6 0 rfl rfl 1 (by decide) (List.mem_of_getElem? (i := 2) rfl) rfl rfl (Nat.le_of_ble_eq_true rfl) (ws' := [(q, .inr (5, [vI (V9 0), vI (V9 1), vI (V 2), vI (V 3), vI (V 11), vI (V 4), .ref qp, .ref qr, vI (pk (rv V))])), (qp, .inl (Z 0, 3, .inl (ar 3 (fun j => V (5 + 2 * j))))), (qr, .inl (Z 0, 3, .inl (ar 3 (fun j => V (6 + 2 * j)))))] ++ voiceB Z q9 qp9 qr9 V9) rfl dX6_copyFrom_13 (fun H locs w => ?_)
  refine lv_aload_n S.1 S.2.1 dX6_copyFrom_16 rfl (lv_at hl 0 rfl) ?_
  refine lv_aload_n S.1 S.2.1 dX6_copyFrom_17 rfl (lv_at hl 1 rfl) ?_
  refine nv_get S w (C := RX6) (T := TX6) (N := 9) hn_X6_copyFrom_6 3 rfl rfl 2 (by decide) (List.mem_of_getElem? (i := 3) rfl) (v := vI (V9 2)) rfl dX6_copyFrom_18 ?_
  refine nv_put S w (C := RX6) (T := TX6) (N := 9) hn_X6_copyFrom_6 tyX6_ok nmX6 0 rfl rfl 2 (by decide) (List.mem_of_getElem? (i := 3) rfl) rfl rfl (Nat.le_of_ble_eq_true rfl) (ws' := [(q, .inr (5, [vI (V9 0), vI (V9 1), vI (V9 2), vI (V 3), vI (V 11), vI (V 4), .ref qp, .ref qr, vI (pk (rv V))])), (qp, .inl (Z 0, 3, .inl (ar 3 (fun j => V (5 + 2 * j))))), (qr, .inl (Z 0, 3, .inl (ar 3 (fun j => V (6 + 2 * j)))))] ++ voiceB Z q9 qp9 qr9 V9) rfl dX6_copyFrom_21 (fun H locs w => ?_)
  refine lv_aload_n S.1 S.2.1 dX6_copyFrom_24 rfl (lv_at hl 0 rfl) ?_
  refine lv_aload_n S.1 S.2.1 dX6_copyFrom_25 rfl (lv_at hl 1 rfl) ?_
  refine nv_get S w (C := RX6) (T := TX6) (N := 9) hn_X6_copyFrom_6 3 rfl rfl 3 (by decide) (List.mem_of_getElem? (i := 4) rfl) (v := vI (V9 3)) rfl dX6_copyFrom_26 ?_
  refine nv_put S w (C := RX6) (T := TX6) (N := 9) hn_X6_copyFrom_6 tyX6_ok nmX6 0 rfl rfl 3 (by decide) (List.mem_of_getElem? (i := 4) rfl) rfl rfl (Nat.le_of_ble_eq_true rfl) (ws' := [(q, .inr (5, [vI (V9 0), vI (V9 1), vI (V9 2), vI (V9 3), vI (V 11), vI (V 4), .ref qp, .ref qr, vI (pk (rv V))])), (qp, .inl (Z 0, 3, .inl (ar 3 (fun j => V (5 + 2 * j))))), (qr, .inl (Z 0, 3, .inl (ar 3 (fun j => V (6 + 2 * j)))))] ++ voiceB Z q9 qp9 qr9 V9) rfl dX6_copyFrom_29 (fun H locs w => ?_)
  refine lv_aload_n S.1 S.2.1 dX6_copyFrom_32 rfl (lv_at hl 0 rfl) ?_
  refine lv_aload_n S.1 S.2.1 dX6_copyFrom_33 rfl (lv_at hl 1 rfl) ?_
  refine nv_get S w (C := RX6) (T := TX6) (N := 9) hn_X6_copyFrom_6 3 rfl rfl 4 (by decide) (List.mem_of_getElem? (i := 5) rfl) (v := vI (V9 11)) rfl dX6_copyFrom_34 ?_
  refine nv_put S w (C := RX6) (T := TX6) (N := 9) hn_X6_copyFrom_6 tyX6_ok nmX6 0 rfl rfl 4 (by decide) (List.mem_of_getElem? (i := 5) rfl) rfl rfl (Nat.le_of_ble_eq_true rfl) (ws' := [(q, .inr (5, [vI (V9 0), vI (V9 1), vI (V9 2), vI (V9 3), vI (V9 11), vI (V 4), .ref qp, .ref qr, vI (pk (rv V))])), (qp, .inl (Z 0, 3, .inl (ar 3 (fun j => V (5 + 2 * j))))), (qr, .inl (Z 0, 3, .inl (ar 3 (fun j => V (6 + 2 * j)))))] ++ voiceB Z q9 qp9 qr9 V9) rfl dX6_copyFrom_37 (fun H locs w => ?_)
  refine lv_aload_n S.1 S.2.1 dX6_copyFrom_40 rfl (lv_at hl 0 rfl) ?_
  refine lv_aload_n S.1 S.2.1 dX6_copyFrom_41 rfl (lv_at hl 1 rfl) ?_
  refine nv_get S w (C := RX6) (T := TX6) (N := 9) hn_X6_copyFrom_6 3 rfl rfl 5 (by decide) (List.mem_of_getElem? (i := 6) rfl) (v := vI (V9 4)) rfl dX6_copyFrom_42 ?_
  refine nv_put S w (C := RX6) (T := TX6) (N := 9) hn_X6_copyFrom_6 tyX6_ok nmX6 0 rfl rfl 5 (by decide) (List.mem_of_getElem? (i := 6) rfl) rfl rfl (Nat.le_of_ble_eq_true rfl) (ws' := [(q, .inr (5, [vI (V9 0), vI (V9 1), vI (V9 2), vI (V9 3), vI (V9 11), vI (V9 4), .ref qp, .ref qr, vI (pk (rv V))])), (qp, .inl (Z 0, 3, .inl (ar 3 (fun j => V (5 + 2 * j))))), (qr, .inl (Z 0, 3, .inl (ar 3 (fun j => V (6 + 2 * j)))))] ++ voiceB Z q9 qp9 qr9 V9) rfl dX6_copyFrom_45 (fun H locs w => ?_)
  refine lv_aload_n S.1 S.2.1 dX6_copyFrom_48 rfl (lv_at hl 1 rfl) ?_
  refine nv_get S w (C := RX6) (T := TX6) (N := 9) hn_X6_copyFrom_6 3 rfl rfl 6 (by decide) (List.mem_of_getElem? (i := 7) rfl) (v := .ref qp9) rfl dX6_copyFrom_49 ?_
  refine lv_iconst (v := nI 0) S.1 S.2.1 dX6_copyFrom_52 (ofInt_nI 0) ?_
  refine lv_aload_n S.1 S.2.1 dX6_copyFrom_53 rfl (lv_at hl 0 rfl) ?_
  refine nv_get S w (C := RX6) (T := TX6) (N := 9) hn_X6_copyFrom_6 0 rfl rfl 6 (by decide) (List.mem_of_getElem? (i := 7) rfl) (v := .ref qp) rfl dX6_copyFrom_54 ?_
  refine lv_iconst (v := nI 0) S.1 S.2.1 dX6_copyFrom_57 (ofInt_nI 0) ?_
  refine lv_iconst (v := nI 3) S.1 S.2.1 dX6_copyFrom_58 (ofInt_nI 3) ?_
  refine nv_icopy (rest := []) S w hl.1 (by decide +kernel) (by decide +kernel) (by decide +kernel) (by decide +kernel) (Nat.le_of_ble_eq_true rfl) (Nat.le_of_ble_eq_true rfl) 4 1 (g := (fun j => V9 (5 + 2 * j))) (h := (fun j => V (5 + 2 * j))) rfl rfl (by decide) (by decide) (r := ar 3 (fun j => V9 (5 + 2 * j))) ar_cpy (ws' := [(q, .inr (5, [vI (V9 0), vI (V9 1), vI (V9 2), vI (V9 3), vI (V9 11), vI (V9 4), .ref qp, .ref qr, vI (pk (rv V))])), (qp, .inl (Z 0, 3, .inl (ar 3 (fun j => V9 (5 + 2 * j))))), (qr, .inl (Z 0, 3, .inl (ar 3 (fun j => V (6 + 2 * j)))))] ++ voiceB Z q9 qp9 qr9 V9) rfl dX6_copyFrom_59 (fun H locs w => ?_)
  refine lv_aload_n S.1 S.2.1 dX6_copyFrom_62 rfl (lv_at hl 1 rfl) ?_
  refine nv_get S w (C := RX6) (T := TX6) (N := 9) hn_X6_copyFrom_6 3 rfl rfl 7 (by decide) (List.mem_of_getElem? (i := 12) rfl) (v := .ref qr9) rfl dX6_copyFrom_63 ?_
  refine lv_iconst (v := nI 0) S.1 S.2.1 dX6_copyFrom_66 (ofInt_nI 0) ?_
  refine lv_aload_n S.1 S.2.1 dX6_copyFrom_67 rfl (lv_at hl 0 rfl) ?_
  refine nv_get S w (C := RX6) (T := TX6) (N := 9) hn_X6_copyFrom_6 0 rfl rfl 7 (by decide) (List.mem_of_getElem? (i := 12) rfl) (v := .ref qr) rfl dX6_copyFrom_68 ?_
  refine lv_iconst (v := nI 0) S.1 S.2.1 dX6_copyFrom_71 (ofInt_nI 0) ?_
  refine lv_iconst (v := nI 3) S.1 S.2.1 dX6_copyFrom_72 (ofInt_nI 3) ?_
  refine nv_icopy (rest := []) S w hl.1 (by decide +kernel) (by decide +kernel) (by decide +kernel) (by decide +kernel) (Nat.le_of_ble_eq_true rfl) (Nat.le_of_ble_eq_true rfl) 5 2 (g := (fun j => V9 (6 + 2 * j))) (h := (fun j => V (6 + 2 * j))) rfl rfl (by decide) (by decide) (r := ar 3 (fun j => V9 (6 + 2 * j))) ar_cpy (ws' := [(q, .inr (5, [vI (V9 0), vI (V9 1), vI (V9 2), vI (V9 3), vI (V9 11), vI (V9 4), .ref qp, .ref qr, vI (pk (rv V))])), (qp, .inl (Z 0, 3, .inl (ar 3 (fun j => V9 (5 + 2 * j))))), (qr, .inl (Z 0, 3, .inl (ar 3 (fun j => V9 (6 + 2 * j)))))] ++ voiceB Z q9 qp9 qr9 V9) rfl dX6_copyFrom_73 (fun H locs w => ?_)
  refine lv_aload_n S.1 S.2.1 dX6_copyFrom_76 rfl (lv_at hl 0 rfl) ?_
  refine lv_aload_n S.1 S.2.1 dX6_copyFrom_77 rfl (lv_at hl 1 rfl) ?_
  refine nv_get S w (C := RX6) (T := TX6) (N := 9) hn_X6_copyFrom_6 3 rfl rfl 8 (by decide) (List.mem_of_getElem? (i := 13) rfl) (v := vI (pk (rv V9))) rfl dX6_copyFrom_78 ?_
  refine nv_put S w (C := RX6) (T := TX6) (N := 9) hn_X6_copyFrom_6 tyX6_ok nmX6 0 rfl rfl 8 (by decide) (List.mem_of_getElem? (i := 13) rfl) rfl rfl (Nat.le_of_ble_eq_true rfl) (ws' := [(q, .inr (5, [vI (V9 0), vI (V9 1), vI (V9 2), vI (V9 3), vI (V9 11), vI (V9 4), .ref qp, .ref qr, vI (pk (rv V9))])), (qp, .inl (Z 0, 3, .inl (ar 3 (fun j => V9 (5 + 2 * j))))), (qr, .inl (Z 0, 3, .inl (ar 3 (fun j => V9 (6 + 2 * j)))))] ++ voiceB Z q9 qp9 qr9 V9) rfl dX6_copyFrom_81 (fun H locs w => ?_)
  exact nv_vret S w hr hlocks rfl dX6_copyFrom_84

theorem hn_X6_goToBeginning_6 : ∀ w ∈ wsX60, w ∈ wsX6_goToBeginning := by decide +kernel
theorem hdV_X6_stealBy : yX6_stealBy.cls = RX6 ∧ yX6_stealBy.cls ≠ "java/lang/invoke/MethodHandle" ∧ yX6_stealBy.cls ≠ "java/lang/invoke/VarHandle" ∧ (parseMethodDescriptor yX6_stealBy.desc).map (fun d => d.parameters.length) = some 2 := by decide +kernel
set_option maxRecDepth 100000 in
set_option maxHeartbeats 4000000 in
theorem c_X6_goToBeginning (l : Launch) (D : va_G) (Z : Nat → ClassId) (q qp qr : Nat) (V : Nat → Nat) (h : VB V) : Cv l yX6_goToBeginning wsX6_goToBeginning 1 23 D Z [.ref q] (voiceB Z q qp qr V)  (voiceB Z q qp qr (gbV V)) := by
  refine ne_v (cc := cX6_goToBeginning) (maxL := 1) (by decide +kernel) rfl (Nat.le_of_ble_eq_true rfl) (fun p e s m args below meth c A ls (S : CallFix p m c cX6_goToBeginning 1 s args wsX6_goToBeginning RX6) hr hlocks hl w => ?_)
  have h2 := h
  unfold VB at h2
  have hl : lv_has ls 1 [(0, .ref q)] := hl
  refine lv_aload_n S.1 S.2.1 dX6_goToBeginning_0 rfl (lv_at hl 0 rfl) ?_
  refine lv_iconst (v := nI 0) S.1 S.2.1 dX6_goToBeginning_1 (ofInt_nI 0) ?_
  refine nv_put S w (C := RX6) (T := TX6) (N := 9) hn_X6_goToBeginning_6 tyX6_ok nmX6 0 rfl rfl 0 (by decide) (List.mem_of_getElem? (i := 1) rfl) rfl rfl (Nat.le_of_ble_eq_true rfl) (ws' := [(q, .inr (5, [vI 0, vI (V 1), vI (V 2), vI (V 3), vI (V 11), vI (V 4), .ref qp, .ref qr, vI (pk (rv V))])), (qp, .inl (Z 0, 3, .inl (ar 3 (fun j => V (5 + 2 * j))))), (qr, .inl (Z 0, 3, .inl (ar 3 (fun j => V (6 + 2 * j)))))]) rfl dX6_goToBeginning_2 (fun H locs w => ?_)
  refine lv_aload_n S.1 S.2.1 dX6_goToBeginning_5 rfl (lv_at hl 0 rfl) ?_
  refine lv_iconst (v := nI 0) S.1 S.2.1 dX6_goToBeginning_6 (ofInt_nI 0) ?_
  refine nv_put S w (C := RX6) (T := TX6) (N := 9) hn_X6_goToBeginning_6 tyX6_ok nmX6 0 rfl rfl 1 (by decide) (List.mem_of_getElem? (i := 2) rfl) rfl rfl (Nat.le_of_ble_eq_true rfl) (ws' := [(q, .inr (5, [vI 0, vI 0, vI (V 2), vI (V 3), vI (V 11), vI (V 4), .ref qp, .ref qr, vI (pk (rv V))])), (qp, .inl (Z 0, 3, .inl (ar 3 (fun j => V (5 + 2 * j))))), (qr, .inl (Z 0, 3, .inl (ar 3 (fun j => V (6 + 2 * j)))))]) rfl dX6_goToBeginning_7 (fun H locs w => ?_)
  refine lv_aload_n S.1 S.2.1 dX6_goToBeginning_10 rfl (lv_at hl 0 rfl) ?_
  refine lv_iconst (v := nI 0) S.1 S.2.1 dX6_goToBeginning_11 (ofInt_nI 0) ?_
  refine lv_iconst (v := nI 0) S.1 S.2.1 dX6_goToBeginning_12 (ofInt_nI 0) ?_
  have w := w.as (ws' := voiceB Z q qp qr (un (un V 0 0) 1 0)) (by apply voiceB_mk <;> first | rfl | (simp [un_at, un_at, rv, pk, un_at]; done) | (intro j hj; rcases (show j = 0 ∨ j = 1 ∨ j = 2 by omega) with rfl | rfl | rfl <;> simp [un_at, un_at, un_at]; done) | (simp [un_at, un_at, rv, pk, un_at]; omega))
  refine nv_cVi (rest := []) (ws' := voiceB Z q qp qr (un (un (un (un V 0 0) 1 0) 3 0) 2 0)) S w hl.1 (c_X6_stealBy l D Z q qp qr (un (un V 0 0) 1 0) 0 0 (by unfold VB; simp [un_at]; omega)) [0, 1, 2] rfl rfl rfl rfl gX6_goToBeginning_X6_stealBy rfl hdV_X6_stealBy ⟨Nat.le_of_ble_eq_true rfl, Nat.le_of_ble_eq_true rfl⟩ (q0 := 0) rfl rfl rfl rfl (Nat.le_of_ble_eq_true rfl) ⟨Nat.zero_le _, Nat.zero_le _⟩ dX6_goToBeginning_13 (fun H locs w => ?_)
  refine lv_pop S.1 S.2.1 dX6_goToBeginning_16 rfl ?_
  refine lv_aload_n S.1 S.2.1 dX6_goToBeginning_17 rfl (lv_at hl 0 rfl) ?_
  refine lv_iconst (v := nI 0) S.1 S.2.1 dX6_goToBeginning_18 (ofInt_nI 0) ?_
  refine nv_put S w (C := RX6) (T := TX6) (N := 9) hn_X6_goToBeginning_6 tyX6_ok nmX6 0 rfl rfl 4 (by decide) (List.mem_of_getElem? (i := 3) rfl) rfl rfl (Nat.le_of_ble_eq_true rfl) (ws' := [(q, .inr (5, [vI ((un (un (un (un V 0 0) 1 0) 3 0) 2 0) 0), vI ((un (un (un (un V 0 0) 1 0) 3 0) 2 0) 1), vI ((un (un (un (un V 0 0) 1 0) 3 0) 2 0) 2), vI ((un (un (un (un V 0 0) 1 0) 3 0) 2 0) 3), vI 0, vI ((un (un (un (un V 0 0) 1 0) 3 0) 2 0) 4), .ref qp, .ref qr, vI (pk (rv (un (un (un (un V 0 0) 1 0) 3 0) 2 0)))])), (qp, .inl (Z 0, 3, .inl (ar 3 (fun j => (un (un (un (un V 0 0) 1 0) 3 0) 2 0) (5 + 2 * j))))), (qr, .inl (Z 0, 3, .inl (ar 3 (fun j => (un (un (un (un V 0 0) 1 0) 3 0) 2 0) (6 + 2 * j)))))]) rfl dX6_goToBeginning_19 (fun H locs w => ?_)
  refine lv_aload_n S.1 S.2.1 dX6_goToBeginning_22 rfl (lv_at hl 0 rfl) ?_
  refine lv_iconst (v := nI 0) S.1 S.2.1 dX6_goToBeginning_23 (ofInt_nI 0) ?_
  refine nv_put S w (C := RX6) (T := TX6) (N := 9) hn_X6_goToBeginning_6 tyX6_ok nmX6 0 rfl rfl 5 (by decide) (List.mem_of_getElem? (i := 4) rfl) rfl rfl (Nat.le_of_ble_eq_true rfl) (ws' := [(q, .inr (5, [vI ((un (un (un (un V 0 0) 1 0) 3 0) 2 0) 0), vI ((un (un (un (un V 0 0) 1 0) 3 0) 2 0) 1), vI ((un (un (un (un V 0 0) 1 0) 3 0) 2 0) 2), vI ((un (un (un (un V 0 0) 1 0) 3 0) 2 0) 3), vI 0, vI 0, .ref qp, .ref qr, vI (pk (rv (un (un (un (un V 0 0) 1 0) 3 0) 2 0)))])), (qp, .inl (Z 0, 3, .inl (ar 3 (fun j => (un (un (un (un V 0 0) 1 0) 3 0) 2 0) (5 + 2 * j))))), (qr, .inl (Z 0, 3, .inl (ar 3 (fun j => (un (un (un (un V 0 0) 1 0) 3 0) 2 0) (6 + 2 * j)))))]) rfl dX6_goToBeginning_24 (fun H locs w => ?_)
  refine lv_aload_n S.1 S.2.1 dX6_goToBeginning_27 rfl (lv_at hl 0 rfl) ?_
  refine lv_sipush (v := nI 960) S.1 S.2.1 dX6_goToBeginning_28 (by decide +kernel) ?_
  refine nv_put S w (C := RX6) (T := TX6) (N := 9) hn_X6_goToBeginning_6 tyX6_ok nmX6 0 rfl rfl 8 (by decide) (List.mem_of_getElem? (i := 5) rfl) rfl rfl (Nat.le_of_ble_eq_true rfl) (ws' := [(q, .inr (5, [vI ((un (un (un (un V 0 0) 1 0) 3 0) 2 0) 0), vI ((un (un (un (un V 0 0) 1 0) 3 0) 2 0) 1), vI ((un (un (un (un V 0 0) 1 0) 3 0) 2 0) 2), vI ((un (un (un (un V 0 0) 1 0) 3 0) 2 0) 3), vI 0, vI 0, .ref qp, .ref qr, vI 960])), (qp, .inl (Z 0, 3, .inl (ar 3 (fun j => (un (un (un (un V 0 0) 1 0) 3 0) 2 0) (5 + 2 * j))))), (qr, .inl (Z 0, 3, .inl (ar 3 (fun j => (un (un (un (un V 0 0) 1 0) 3 0) 2 0) (6 + 2 * j)))))]) rfl dX6_goToBeginning_31 (fun H locs w => ?_)
  exact nv_vret S w hr hlocks (by apply voiceB_mk <;> first | rfl | (simp [gbV, un_at, rv, pk, un_at]; done) | (intro j hj; rcases (show j = 0 ∨ j = 1 ∨ j = 2 by omega) with rfl | rfl | rfl <;> simp [gbV, un_at, un_at]; done) | (simp [gbV, un_at, rv, pk, un_at]; omega)) dX6_goToBeginning_34

theorem hn_X6_fact_6 : ∀ w ∈ wsX60, w ∈ wsX6_fact := by decide +kernel
theorem hdV_X6_latestPattern : yX6_latestPattern.cls = RX6 ∧ yX6_latestPattern.cls ≠ "java/lang/invoke/MethodHandle" ∧ yX6_latestPattern.cls ≠ "java/lang/invoke/VarHandle" ∧ (parseMethodDescriptor yX6_latestPattern.desc).map (fun d => d.parameters.length) = some 0 := by decide +kernel
theorem hdV_X6_latestRow : yX6_latestRow.cls = RX6 ∧ yX6_latestRow.cls ≠ "java/lang/invoke/MethodHandle" ∧ yX6_latestRow.cls ≠ "java/lang/invoke/VarHandle" ∧ (parseMethodDescriptor yX6_latestRow.desc).map (fun d => d.parameters.length) = some 0 := by decide +kernel
set_option maxRecDepth 100000 in
set_option maxHeartbeats 4000000 in
theorem c_X6_fact (l : Launch) (D : va_G) (Z : Nat → ClassId) (q qp qr : Nat) (V : Nat → Nat) (k : Nat) (h : VB V) (hk : k < 8) : Ci l yX6_fact wsX6_fact 2 42 D Z [.ref q, vI k] (voiceB Z q qp qr V) (factV V k) (voiceB Z q qp qr V) := by
  refine ne_i (cc := cX6_fact) (maxL := 2) (by decide +kernel) rfl (Nat.le_of_ble_eq_true rfl) (fun p e s m args below meth c A ls (S : CallFix p m c cX6_fact 2 s args wsX6_fact RX6) hr hlocks hl w => ?_)
  have h2 := h
  unfold VB at h2
  have hl : lv_has ls 2 [(0, .ref q), (1, vI k)] := hl
  refine lv_iload_n S.1 S.2.1 dX6_fact_0 rfl (lv_at hl 1 rfl) ?_
  by_cases h_1 : k = 0
  · skip
    refine nv_tableIn S (by omega) dX6_fact_1 (by rw [h_1]; decide) (by rw [h_1]; decide) (off := 43) (by rw [h_1]; rfl) (tgt := 44) (by decide) ?_
    refine lv_aload_n S.1 S.2.1 dX6_fact_44 rfl (lv_at hl 0 rfl) ?_
    refine nv_get S w (C := RX6) (T := TX6) (N := 9) hn_X6_fact_6 0 rfl rfl 0 (by decide) (List.mem_of_getElem? (i := 1) rfl) (v := vI (V 0)) rfl dX6_fact_45 ?_
    exact nv_iret S w hr hlocks rfl (by unfold factV; first | (simp [h_1]; done) | (rw [show k = 7 by omega]; rfl) | (simp [h_1, show ¬ V 2 = 0 by omega]; done)) rfl dX6_fact_48
  · skip
    by_cases h_2 : k = 1
    · skip
      refine nv_tableIn S (by omega) dX6_fact_1 (by rw [h_2]; decide) (by rw [h_2]; decide) (off := 48) (by rw [h_2]; rfl) (tgt := 49) (by decide) ?_
      refine lv_aload_n S.1 S.2.1 dX6_fact_49 rfl (lv_at hl 0 rfl) ?_
      refine nv_get S w (C := RX6) (T := TX6) (N := 9) hn_X6_fact_6 0 rfl rfl 1 (by decide) (List.mem_of_getElem? (i := 2) rfl) (v := vI (V 1)) rfl dX6_fact_50 ?_
      exact nv_iret S w hr hlocks rfl (by unfold factV; first | (simp [h_1, h_2]; done) | (rw [show k = 7 by omega]; rfl) | (simp [h_1, h_2, show ¬ V 2 = 0 by omega]; done)) rfl dX6_fact_53
    · skip
      by_cases h_3 : k = 2
      · skip
        refine nv_tableIn S (by omega) dX6_fact_1 (by rw [h_3]; decide) (by rw [h_3]; decide) (off := 53) (by rw [h_3]; rfl) (tgt := 54) (by decide) ?_
        refine lv_aload_n S.1 S.2.1 dX6_fact_54 rfl (lv_at hl 0 rfl) ?_
        refine nv_get S w (C := RX6) (T := TX6) (N := 9) hn_X6_fact_6 0 rfl rfl 2 (by decide) (List.mem_of_getElem? (i := 3) rfl) (v := vI (V 2)) rfl dX6_fact_55 ?_
        exact nv_iret S w hr hlocks rfl (by unfold factV; first | (simp [h_1, h_2, h_3]; done) | (rw [show k = 7 by omega]; rfl) | (simp [h_1, h_2, h_3, show ¬ V 2 = 0 by omega]; done)) rfl dX6_fact_58
      · skip
        by_cases h_4 : k = 3
        · skip
          refine nv_tableIn S (by omega) dX6_fact_1 (by rw [h_4]; decide) (by rw [h_4]; decide) (off := 58) (by rw [h_4]; rfl) (tgt := 59) (by decide) ?_
          refine lv_aload_n S.1 S.2.1 dX6_fact_59 rfl (lv_at hl 0 rfl) ?_
          refine nv_get S w (C := RX6) (T := TX6) (N := 9) hn_X6_fact_6 0 rfl rfl 2 (by decide) (List.mem_of_getElem? (i := 3) rfl) (v := vI (V 2)) rfl dX6_fact_60 ?_
          refine nv_if_le S (by omega) (tgt := 73) dX6_fact_63 (by decide) (fun h_5 => ?_) (fun h_5 => ?_)
          · skip
            refine lv_iconst (v := -1) S.1 S.2.1 dX6_fact_73 (by decide +kernel) ?_
            exact nv_iret S w hr hlocks rfl (by unfold factV; first | (simp [h_1, h_2, h_3, h_4, h_5]; done) | (rw [show k = 7 by omega]; rfl) | (simp [h_1, h_2, h_3, h_4, h_5, show ¬ V 2 = 0 by omega]; done)) rfl dX6_fact_74
          · skip
            refine lv_aload_n S.1 S.2.1 dX6_fact_66 rfl (lv_at hl 0 rfl) ?_
            refine nv_get S w (C := RX6) (T := TX6) (N := 9) hn_X6_fact_6 0 rfl rfl 3 (by decide) (List.mem_of_getElem? (i := 4) rfl) (v := vI (V 3)) rfl dX6_fact_67 ?_
            refine lv_goto (tgt := 74) S.1 S.2.1 dX6_fact_70 (by decide) ?_
            exact nv_iret S w hr hlocks rfl (by unfold factV; first | (simp [h_1, h_2, h_3, h_4, h_5]; done) | (rw [show k = 7 by omega]; rfl) | (simp [h_1, h_2, h_3, h_4, h_5, show ¬ V 2 = 0 by omega]; done)) rfl dX6_fact_74
        · skip
          by_cases h_6 : k = 4
          · skip
            refine nv_tableIn S (by omega) dX6_fact_1 (by rw [h_6]; decide) (by rw [h_6]; decide) (off := 74) (by rw [h_6]; rfl) (tgt := 75) (by decide) ?_
            refine lv_aload_n S.1 S.2.1 dX6_fact_75 rfl (lv_at hl 0 rfl) ?_
            refine nv_get S w (C := RX6) (T := TX6) (N := 9) hn_X6_fact_6 0 rfl rfl 5 (by decide) (List.mem_of_getElem? (i := 5) rfl) (v := vI (V 4)) rfl dX6_fact_76 ?_
            exact nv_iret S w hr hlocks rfl (by unfold factV; first | (simp [h_1, h_2, h_3, h_4, h_6]; done) | (rw [show k = 7 by omega]; rfl) | (simp [h_1, h_2, h_3, h_4, h_6, show ¬ V 2 = 0 by omega]; done)) rfl dX6_fact_79
          · skip
            by_cases h_7 : k = 5
            · skip
              refine nv_tableIn S (by omega) dX6_fact_1 (by rw [h_7]; decide) (by rw [h_7]; decide) (off := 79) (by rw [h_7]; rfl) (tgt := 80) (by decide) ?_
              refine lv_aload_n S.1 S.2.1 dX6_fact_80 rfl (lv_at hl 0 rfl) ?_
              by_cases h_0 : V 4 = 0
              · skip
                refine nv_rVi (rest := []) S w hl.1 (c_X6_latestPattern0 l D Z q qp qr V h (by omega)) [0, 1, 2] rfl rfl gX6_fact_X6_latestPattern rfl hdV_X6_latestPattern ⟨Nat.le_of_ble_eq_true rfl, Nat.le_of_ble_eq_true rfl⟩ (q0 := 0) rfl rfl rfl rfl (Nat.le_of_ble_eq_true rfl) ⟨Nat.zero_le _, Nat.zero_le _⟩ dX6_fact_81 (fun H locs w => ?_)
                exact nv_iret S w hr hlocks rfl (by unfold factV; first | (simp [h_1, h_2, h_3, h_4, h_6, h_7, h_0]; done) | (rw [show k = 7 by omega]; rfl) | (simp [h_1, h_2, h_3, h_4, h_6, h_7, h_0, show ¬ V 2 = 0 by omega]; done)) rfl dX6_fact_84
              · skip
                refine nv_rVi (rest := []) S w hl.1 (c_X6_latestPattern l D Z q qp qr V h (by omega)) [0, 1, 2] rfl rfl gX6_fact_X6_latestPattern rfl hdV_X6_latestPattern ⟨Nat.le_of_ble_eq_true rfl, Nat.le_of_ble_eq_true rfl⟩ (q0 := 0) rfl rfl rfl rfl (Nat.le_of_ble_eq_true rfl) ⟨Nat.zero_le _, Nat.zero_le _⟩ dX6_fact_81 (fun H locs w => ?_)
                exact nv_iret S w hr hlocks rfl (by unfold factV; first | (simp [h_1, h_2, h_3, h_4, h_6, h_7, h_0]; done) | (rw [show k = 7 by omega]; rfl) | (simp [h_1, h_2, h_3, h_4, h_6, h_7, h_0, show ¬ V 2 = 0 by omega]; done)) rfl dX6_fact_84
            · skip
              by_cases h_8 : k = 6
              · skip
                refine nv_tableIn S (by omega) dX6_fact_1 (by rw [h_8]; decide) (by rw [h_8]; decide) (off := 84) (by rw [h_8]; rfl) (tgt := 85) (by decide) ?_
                refine lv_aload_n S.1 S.2.1 dX6_fact_85 rfl (lv_at hl 0 rfl) ?_
                by_cases h_0 : V 4 = 0
                · skip
                  refine nv_rVi (rest := []) S w hl.1 (c_X6_latestRow0 l D Z q qp qr V h (by omega)) [0, 1, 2] rfl rfl gX6_fact_X6_latestRow rfl hdV_X6_latestRow ⟨Nat.le_of_ble_eq_true rfl, Nat.le_of_ble_eq_true rfl⟩ (q0 := 0) rfl rfl rfl rfl (Nat.le_of_ble_eq_true rfl) ⟨Nat.zero_le _, Nat.zero_le _⟩ dX6_fact_86 (fun H locs w => ?_)
                  exact nv_iret S w hr hlocks rfl (by unfold factV; first | (simp [h_1, h_2, h_3, h_4, h_6, h_7, h_8, h_0]; done) | (rw [show k = 7 by omega]; rfl) | (simp [h_1, h_2, h_3, h_4, h_6, h_7, h_8, h_0, show ¬ V 2 = 0 by omega]; done)) rfl dX6_fact_89
                · skip
                  refine nv_rVi (rest := []) S w hl.1 (c_X6_latestRow l D Z q qp qr V h (by omega)) [0, 1, 2] rfl rfl gX6_fact_X6_latestRow rfl hdV_X6_latestRow ⟨Nat.le_of_ble_eq_true rfl, Nat.le_of_ble_eq_true rfl⟩ (q0 := 0) rfl rfl rfl rfl (Nat.le_of_ble_eq_true rfl) ⟨Nat.zero_le _, Nat.zero_le _⟩ dX6_fact_86 (fun H locs w => ?_)
                  exact nv_iret S w hr hlocks rfl (by unfold factV; first | (simp [h_1, h_2, h_3, h_4, h_6, h_7, h_8, h_0]; done) | (rw [show k = 7 by omega]; rfl) | (simp [h_1, h_2, h_3, h_4, h_6, h_7, h_8, h_0, show ¬ V 2 = 0 by omega]; done)) rfl dX6_fact_89
              · skip
                refine nv_tableOut S (by omega) dX6_fact_1 (by omega) (tgt := 90) (by decide) ?_
                refine lv_aload_n S.1 S.2.1 dX6_fact_90 rfl (lv_at hl 0 rfl) ?_
                refine nv_get S w (C := RX6) (T := TX6) (N := 9) hn_X6_fact_6 0 rfl rfl 4 (by decide) (List.mem_of_getElem? (i := 6) rfl) (v := vI (V 11)) rfl dX6_fact_91 ?_
                exact nv_iret S w hr hlocks rfl (by unfold factV; first | (simp [h_1, h_2, h_3, h_4, h_6, h_7, h_8]; done) | (rw [show k = 7 by omega]; rfl) | (simp [h_1, h_2, h_3, h_4, h_6, h_7, h_8, show ¬ V 2 = 0 by omega]; done)) rfl dX6_fact_94
