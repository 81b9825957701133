set_option maxRecDepth 100000 in
set_option maxHeartbeats 4000000 in
theorem c_X2_isDigit (l : Launch) (D : va_G) (Z : Nat → ClassId) (x : Nat) (hx : x < 1000) : Ci l yX2_isDigit wsX2_isDigit 0 0 D Z [sI x] ([]) (nI (bP (49 ≤ x ∧ x ≤ 58))) ([]) := by
  refine ne_i (cc := cX2_isDigit) (maxL := 1) (by decide +kernel) rfl (Nat.le_of_ble_eq_true rfl) (fun p e s m args below meth c A ls (S : CallFix p m c cX2_isDigit 1 s args wsX2_isDigit RX2) hr hlocks hl w => ?_)
  have hl : lv_has ls 1 [(0, sI x)] := hl
  refine lv_iload_n S.1 S.2.1 dX2_isDigit_0 rfl (lv_at hl 0 rfl) ?_
  refine lv_bipush (v := nI 48) S.1 S.2.1 dX2_isDigit_1 (by decide +kernel) ?_
  refine ns_icmp_lt S (by omega) (by omega) (tgt := 16) dX2_isDigit_3 (by decide) (fun h_1 => ?_) (fun h_1 => ?_)
  · skip
    refine lv_iconst (v := nI 0) S.1 S.2.1 dX2_isDigit_16 (ofInt_nI 0) ?_
    exact nv_iret S w hr hlocks (nI_bool (by decide)) (by rw [bP_f (by omega)]) rfl dX2_isDigit_17
  · skip
    refine lv_iload_n S.1 S.2.1 dX2_isDigit_6 rfl (lv_at hl 0 rfl) ?_
    refine lv_bipush (v := nI 57) S.1 S.2.1 dX2_isDigit_7 (by decide +kernel) ?_
    refine ns_icmp_gt S (by omega) (by omega) (tgt := 16) dX2_isDigit_9 (by decide) (fun h_2 => ?_) (fun h_2 => ?_)
    · skip
      refine lv_iconst (v := nI 0) S.1 S.2.1 dX2_isDigit_16 (ofInt_nI 0) ?_
      exact nv_iret S w hr hlocks (nI_bool (by decide)) (by rw [bP_f (by omega)]) rfl dX2_isDigit_17
    · skip
      refine lv_iconst (v := nI 1) S.1 S.2.1 dX2_isDigit_12 (ofInt_nI 1) ?_
      refine lv_goto (tgt := 17) S.1 S.2.1 dX2_isDigit_13 (by decide) ?_
      exact nv_iret S w hr hlocks (nI_bool (by decide)) (by rw [bP_t (by omega)]) rfl dX2_isDigit_17

theorem hn_X2_hasSpace_2 : ∀ w ∈ wsX20, w ∈ wsX2_hasSpace := by decide +kernel
set_option maxRecDepth 100000 in
set_option maxHeartbeats 4000000 in
theorem c_X2_hasSpace (l : Launch) (D : va_G) (Z : Nat → ClassId) (q qb qc n i pa ro : Nat) (t : Nat → Nat) (k : Nat → Nat → Nat) (hn : n ≤ 100) : Ci l yX2_hasSpace wsX2_hasSpace 0 0 D Z [.ref q] (ptB Z q qb qc n i pa ro t k) (nI (bP (n < 100))) (ptB Z q qb qc n i pa ro t k) := by
  refine ne_i (cc := cX2_hasSpace) (maxL := 1) (by decide +kernel) rfl (Nat.le_of_ble_eq_true rfl) (fun p e s m args below meth c A ls (S : CallFix p m c cX2_hasSpace 1 s args wsX2_hasSpace RX2) hr hlocks hl w => ?_)
  have hl : lv_has ls 1 [(0, .ref q)] := hl
  refine lv_aload_n S.1 S.2.1 dX2_hasSpace_0 rfl (lv_at hl 0 rfl) ?_
  refine nv_get S w (C := RX2) (T := TX2) (N := 6) hn_X2_hasSpace_2 0 rfl rfl 1 (by decide) (List.mem_of_getElem? (i := 1) rfl) (v := vI n) rfl dX2_hasSpace_1 ?_
  refine lv_bipush (v := nI 100) S.1 S.2.1 dX2_hasSpace_4 (by decide +kernel) ?_
  refine nv_icmp_ge S (by omega) (by omega) (tgt := 13) dX2_hasSpace_6 (by decide) (fun h_1 => ?_) (fun h_1 => ?_)
  · skip
    refine lv_iconst (v := nI 0) S.1 S.2.1 dX2_hasSpace_13 (ofInt_nI 0) ?_
    exact nv_iret S w hr hlocks (nI_bool (by decide)) (by rw [bP_f (by omega)]) rfl dX2_hasSpace_14
  · skip
    refine lv_iconst (v := nI 1) S.1 S.2.1 dX2_hasSpace_9 (ofInt_nI 1) ?_
    refine lv_goto (tgt := 14) S.1 S.2.1 dX2_hasSpace_10 (by decide) ?_
    exact nv_iret S w hr hlocks (nI_bool (by decide)) (by rw [bP_t (by omega)]) rfl dX2_hasSpace_14

theorem hn_X2_add_2 : ∀ w ∈ wsX20, w ∈ wsX2_add := by decide +kernel
set_option maxRecDepth 100000 in
set_option maxHeartbeats 4000000 in
theorem c_X2_add (l : Launch) (D : va_G) (Z : Nat → ClassId) (q qb qc n i pa ro : Nat) (t : Nat → Nat) (k : Nat → Nat → Nat) (x : Nat) (hn : n < 100) (hx : x < 128) : Cv l yX2_add wsX2_add 1 21 D Z [.ref q, vI x] (ptB Z q qb qc n i pa ro t k)  (ptB Z q qb qc (n + 1) i pa ro (un t n x) k) := by
  refine ne_v (cc := cX2_add) (maxL := 2) (by decide +kernel) rfl (Nat.le_of_ble_eq_true rfl) (fun p e s m args below meth c A ls (S : CallFix p m c cX2_add 2 s args wsX2_add RX2) hr hlocks hl w => ?_)
  have hl : lv_has ls 2 [(0, .ref q), (1, vI x)] := hl
  refine lv_aload_n S.1 S.2.1 dX2_add_0 rfl (lv_at hl 0 rfl) ?_
  refine nv_get S w (C := RX2) (T := TX2) (N := 6) hn_X2_add_2 0 rfl rfl 1 (by decide) (List.mem_of_getElem? (i := 1) rfl) (v := vI n) rfl dX2_add_1 ?_
  refine lv_bipush (v := nI 100) S.1 S.2.1 dX2_add_4 (by decide +kernel) ?_
  refine nv_pNi (rest := []) S w hl.1 (c_X7_isIndexN l D Z n 100 (by omega) (by omega)) gX2_add_X7_isIndex_n23 rfl (kN := 3) rfl (List.mem_of_getElem? (i := 4) rfl) (List.mem_of_getElem? (i := 3) rfl) hdS_X7_isIndex ⟨Nat.le_of_ble_eq_true rfl, Nat.le_of_ble_eq_true rfl⟩ rfl rfl (Nat.le_of_ble_eq_true rfl) ⟨Nat.zero_le _, Nat.zero_le _⟩ dX2_add_6 (fun H locs w => ?_)
  refine nv_if_eqB S (tgt := 32) dX2_add_9 (by decide) (fun h_1 => ?_) (fun h_1 => ?_)
  · skip
    exfalso; omega
  · skip
    refine lv_aload_n S.1 S.2.1 dX2_add_12 rfl (lv_at hl 0 rfl) ?_
    refine nv_get S w (C := RX2) (T := TX2) (N := 6) hn_X2_add_2 0 rfl rfl 0 (by decide) (List.mem_of_getElem? (i := 2) rfl) (v := .ref qb) rfl dX2_add_13 ?_
    refine lv_aload_n S.1 S.2.1 dX2_add_16 rfl (lv_at hl 0 rfl) ?_
    refine nv_get S w (C := RX2) (T := TX2) (N := 6) hn_X2_add_2 0 rfl rfl 1 (by decide) (List.mem_of_getElem? (i := 1) rfl) (v := vI n) rfl dX2_add_17 ?_
    refine lv_iload_n S.1 S.2.1 dX2_add_20 rfl (lv_at hl 1 rfl) ?_
    refine nv_bast S w (i := n) (x := x) (g := t) 1 rfl (by omega) (by decide) (nar_byte (by omega)) (ws' := [(q, .inr (1, [.ref qb, vI n, vI i, vI pa, vI ro, .ref qc])), (qb, .inl (Z 1, 100, .inl (ar 100 (un t n x)))), (qc, .inl (Z 0, 32, .inl (ar 32 (fun j => pk (k j)))))]) rfl dX2_add_21 (fun H locs w => ?_)
    refine lv_aload_n S.1 S.2.1 dX2_add_22 rfl (lv_at hl 0 rfl) ?_
    refine lv_dup S.1 S.2.1 dX2_add_23 rfl ?_
    refine nv_get S w (C := RX2) (T := TX2) (N := 6) hn_X2_add_2 0 rfl rfl 1 (by decide) (List.mem_of_getElem? (i := 1) rfl) (v := vI n) rfl dX2_add_24 ?_
    refine lv_iconst (v := nI 1) S.1 S.2.1 dX2_add_27 (ofInt_nI 1) ?_
    refine nv_iadd S dX2_add_28 ?_
    refine nv_put S w (C := RX2) (T := TX2) (N := 6) hn_X2_add_2 tyX2_ok nmX2 0 rfl rfl 1 (by decide) (List.mem_of_getElem? (i := 1) rfl) rfl rfl (Nat.le_of_ble_eq_true rfl) (ws' := [(q, .inr (1, [.ref qb, vI (n + 1), vI i, vI pa, vI ro, .ref qc])), (qb, .inl (Z 1, 100, .inl (ar 100 (un t n x)))), (qc, .inl (Z 0, 32, .inl (ar 32 (fun j => pk (k j)))))]) rfl dX2_add_29 (fun H locs w => ?_)
    exact nv_vret S w hr hlocks rfl dX2_add_32

theorem hn_X2_next_2 : ∀ w ∈ wsX20, w ∈ wsX2_next := by decide +kernel
set_option maxRecDepth 100000 in
set_option maxHeartbeats 4000000 in
theorem c_X2_next (l : Launch) (D : va_G) (Z : Nat → ClassId) (q qb qc n i pa ro : Nat) (t : Nat → Nat) (k : Nat → Nat → Nat) (ht : ∀ j, j < 100 → t j < 128) (hn : n ≤ 100) (hi : i ≤ 100000) : Ci l yX2_next wsX2_next 0 0 D Z [.ref q] (ptB Z q qb qc n i pa ro t k) (nI (cx t n i) - 1) (ptB Z q qb qc n i pa ro t k) := by
  refine ne_i (cc := cX2_next) (maxL := 1) (by decide +kernel) rfl (Nat.le_of_ble_eq_true rfl) (fun p e s m args below meth c A ls (S : CallFix p m c cX2_next 1 s args wsX2_next RX2) hr hlocks hl w => ?_)
  have hl : lv_has ls 1 [(0, .ref q)] := hl
  refine lv_aload_n S.1 S.2.1 dX2_next_0 rfl (lv_at hl 0 rfl) ?_
  refine nv_get S w (C := RX2) (T := TX2) (N := 6) hn_X2_next_2 0 rfl rfl 2 (by decide) (List.mem_of_getElem? (i := 1) rfl) (v := vI i) rfl dX2_next_1 ?_
  refine nv_if_lt (tgt := 39) S (by omega) dX2_next_4 (by decide) ?_
  refine lv_aload_n S.1 S.2.1 dX2_next_7 rfl (lv_at hl 0 rfl) ?_
  refine nv_get S w (C := RX2) (T := TX2) (N := 6) hn_X2_next_2 0 rfl rfl 2 (by decide) (List.mem_of_getElem? (i := 1) rfl) (v := vI i) rfl dX2_next_8 ?_
  refine lv_aload_n S.1 S.2.1 dX2_next_11 rfl (lv_at hl 0 rfl) ?_
  refine nv_get S w (C := RX2) (T := TX2) (N := 6) hn_X2_next_2 0 rfl rfl 1 (by decide) (List.mem_of_getElem? (i := 2) rfl) (v := vI n) rfl dX2_next_12 ?_
  refine nv_icmp_ge S (by omega) (by omega) (tgt := 39) dX2_next_15 (by decide) (fun h_2 => ?_) (fun h_2 => ?_)
  · skip
    refine lv_iconst (v := -1) S.1 S.2.1 dX2_next_39 (by decide +kernel) ?_
    exact nv_iret S w hr hlocks rfl (by unfold cx; rw [if_neg (by omega)]; rfl) rfl dX2_next_40
  · skip
    refine lv_aload_n S.1 S.2.1 dX2_next_18 rfl (lv_at hl 0 rfl) ?_
    refine nv_get S w (C := RX2) (T := TX2) (N := 6) hn_X2_next_2 0 rfl rfl 2 (by decide) (List.mem_of_getElem? (i := 1) rfl) (v := vI i) rfl dX2_next_19 ?_
    refine lv_bipush (v := nI 100) S.1 S.2.1 dX2_next_22 (by decide +kernel) ?_
    refine nv_icmp_ge S (by omega) (by omega) (tgt := 39) dX2_next_24 (by decide) (fun h_3 => ?_) (fun h_3 => ?_)
    · skip
      exfalso; omega
    · skip
      refine lv_aload_n S.1 S.2.1 dX2_next_27 rfl (lv_at hl 0 rfl) ?_
      refine nv_get S w (C := RX2) (T := TX2) (N := 6) hn_X2_next_2 0 rfl rfl 0 (by decide) (List.mem_of_getElem? (i := 3) rfl) (v := .ref qb) rfl dX2_next_28 ?_
      refine lv_aload_n S.1 S.2.1 dX2_next_31 rfl (lv_at hl 0 rfl) ?_
      refine nv_get S w (C := RX2) (T := TX2) (N := 6) hn_X2_next_2 0 rfl rfl 2 (by decide) (List.mem_of_getElem? (i := 1) rfl) (v := vI i) rfl dX2_next_32 ?_
      refine nv_bald S w (i := i) (g := t) 1 rfl (by omega) (by decide) dX2_next_35 ?_
      refine lv_goto (tgt := 40) S.1 S.2.1 dX2_next_36 (by decide) ?_
      exact nv_iret S w hr hlocks rfl (by unfold cx; rw [if_pos (by omega), nI_pred]) rfl dX2_next_40

theorem hn_X2_readNumber_2 : ∀ w ∈ wsX20, w ∈ wsX2_readNumber := by decide +kernel
theorem hdV_X2_next : yX2_next.cls = RX2 ∧ yX2_next.cls ≠ "java/lang/invoke/MethodHandle" ∧ yX2_next.cls ≠ "java/lang/invoke/VarHandle" ∧ (parseMethodDescriptor yX2_next.desc).map (fun d => d.parameters.length) = some 0 := by decide +kernel
theorem hdS_X2_isDigit : yX2_isDigit.cls ≠ "java/lang/invoke/MethodHandle" ∧ yX2_isDigit.cls ≠ "java/lang/invoke/VarHandle" ∧ (parseMethodDescriptor yX2_isDigit.desc).map (fun d => d.parameters.length) = some 1 := by decide +kernel
set_option maxRecDepth 100000 in
set_option maxHeartbeats 4000000 in
theorem c_X2_readNumber (l : Launch) (D : va_G) (Z : Nat → ClassId) (q qb qc n i pa ro : Nat) (t : Nat → Nat) (k : Nat → Nat → Nat) (o : Nat) (ht : ∀ j, j < 100 → t j < 128) (hn : n ≤ 100) (hi : i ≤ 1000) (ho : o ≤ 100) : Ci l yX2_readNumber wsX2_readNumber 1 20 D Z [.ref q, vI o] (ptB Z q qb qc n i pa ro t k) (nI ((rn (cx t n) i o).1) - 1) (ptB Z q qb qc n ((rn (cx t n) i o).2) pa ro t k) := by
  refine ne_i (cc := cX2_readNumber) (maxL := 4) (by decide +kernel) rfl (Nat.le_of_ble_eq_true rfl) (fun p e s m args below meth c A ls (S : CallFix p m c cX2_readNumber 4 s args wsX2_readNumber RX2) hr hlocks hl w => ?_)
  have hc0 := cx_le (i := i) ht hn
  have hc1 := cx_le (i := i + 1) ht hn
  have hc2 := cx_le (i := i + 2) ht hn
  have hl : lv_has ls 4 [(0, .ref q), (1, vI o)] := hl
  refine lv_aload_n S.1 S.2.1 dX2_readNumber_0 rfl (lv_at hl 0 rfl) ?_
  refine nv_get S w (C := RX2) (T := TX2) (N := 6) hn_X2_readNumber_2 0 rfl rfl 2 (by decide) (List.mem_of_getElem? (i := 1) rfl) (v := vI i) rfl dX2_readNumber_1 ?_
  refine lv_istore_n (lv' := [(2, vI i), (0, .ref q), (1, vI o)]) S.1 S.2.1 dX2_readNumber_4 rfl hl (by decide) rfl (fun ls hl => ?_)
  refine lv_aload_n S.1 S.2.1 dX2_readNumber_5 rfl (lv_at hl 1 rfl) ?_
  refine nv_rVi (rest := []) S w hl.1 (c_X2_next l D Z q qb qc n i pa ro t k ht (by omega) (by omega)) [0, 1, 2] rfl rfl gX2_readNumber_X2_next rfl hdV_X2_next ⟨Nat.le_of_ble_eq_true rfl, Nat.le_of_ble_eq_true rfl⟩ (q0 := 0) rfl rfl rfl rfl (Nat.le_of_ble_eq_true rfl) ⟨Nat.zero_le _, Nat.zero_le _⟩ dX2_readNumber_6 (fun H locs w => ?_)
  refine nv_pSi (rest := []) S w hl.1 (c_X2_isDigit l D Z (cx t n i) (by omega)) gX2_readNumber_X2_isDigit rfl hdS_X2_isDigit ⟨Nat.le_of_ble_eq_true rfl, Nat.le_of_ble_eq_true rfl⟩ rfl rfl (Nat.le_of_ble_eq_true rfl) ⟨Nat.zero_le _, Nat.zero_le _⟩ dX2_readNumber_9 (fun H locs w => ?_)
  refine nv_if_neB S (tgt := 17) dX2_readNumber_12 (by decide) (fun h_1 => ?_) (fun h_1 => ?_)
  · skip
    refine lv_aload_n S.1 S.2.1 dX2_readNumber_17 rfl (lv_at hl 1 rfl) ?_
    refine nv_rVi (rest := []) S w hl.1 (c_X2_next l D Z q qb qc n i pa ro t k ht (by omega) (by omega)) [0, 1, 2] rfl rfl gX2_readNumber_X2_next rfl hdV_X2_next ⟨Nat.le_of_ble_eq_true rfl, Nat.le_of_ble_eq_true rfl⟩ (q0 := 0) rfl rfl rfl rfl (Nat.le_of_ble_eq_true rfl) ⟨Nat.zero_le _, Nat.zero_le _⟩ dX2_readNumber_18 (fun H locs w => ?_)
    refine lv_bipush (v := nI 48) S.1 S.2.1 dX2_readNumber_21 (by decide +kernel) ?_
    refine ns_isub S (by omega) dX2_readNumber_23 ?_
    refine W.eq (g2 := F0 m 24 ls [vI ((cx t n i) - 49)]) rfl ?_
    refine lv_istore_n (lv' := [(3, vI ((cx t n i) - 49)), (2, vI i), (0, .ref q), (1, vI o)]) S.1 S.2.1 dX2_readNumber_24 rfl hl (by decide) rfl (fun ls hl => ?_)
    refine lv_aload_n S.1 S.2.1 dX2_readNumber_25 rfl (lv_at hl 2 rfl) ?_
    refine lv_dup S.1 S.2.1 dX2_readNumber_26 rfl ?_
    refine nv_get S w (C := RX2) (T := TX2) (N := 6) hn_X2_readNumber_2 0 rfl rfl 2 (by decide) (List.mem_of_getElem? (i := 1) rfl) (v := vI i) rfl dX2_readNumber_27 ?_
    refine lv_iconst (v := nI 1) S.1 S.2.1 dX2_readNumber_30 (ofInt_nI 1) ?_
    refine nv_iadd S dX2_readNumber_31 ?_
    refine nv_put S w (C := RX2) (T := TX2) (N := 6) hn_X2_readNumber_2 tyX2_ok nmX2 0 rfl rfl 2 (by decide) (List.mem_of_getElem? (i := 1) rfl) rfl rfl (Nat.le_of_ble_eq_true rfl) (ws' := [(q, .inr (1, [.ref qb, vI n, vI (i + 1), vI pa, vI ro, .ref qc])), (qb, .inl (Z 1, 100, .inl (ar 100 t))), (qc, .inl (Z 0, 32, .inl (ar 32 (fun j => pk (k j)))))]) rfl dX2_readNumber_32 (fun H locs w => ?_)
    refine lv_aload_n S.1 S.2.1 dX2_readNumber_35 rfl (lv_at hl 2 rfl) ?_
    have w := w.as (ws' := ptB Z q qb qc n (i + 1) pa ro t k) (rfl)
    refine nv_rVi (rest := []) S w hl.1 (c_X2_next l D Z q qb qc n (i + 1) pa ro t k ht (by omega) (by omega)) [0, 1, 2] rfl rfl gX2_readNumber_X2_next rfl hdV_X2_next ⟨Nat.le_of_ble_eq_true rfl, Nat.le_of_ble_eq_true rfl⟩ (q0 := 0) rfl rfl rfl rfl (Nat.le_of_ble_eq_true rfl) ⟨Nat.zero_le _, Nat.zero_le _⟩ dX2_readNumber_36 (fun H locs w => ?_)
    refine nv_pSi (rest := []) S w hl.1 (c_X2_isDigit l D Z (cx t n (i + 1)) (by omega)) gX2_readNumber_X2_isDigit rfl hdS_X2_isDigit ⟨Nat.le_of_ble_eq_true rfl, Nat.le_of_ble_eq_true rfl⟩ rfl rfl (Nat.le_of_ble_eq_true rfl) ⟨Nat.zero_le _, Nat.zero_le _⟩ dX2_readNumber_39 (fun H locs w => ?_)
    refine nv_if_eqB S (tgt := 68) dX2_readNumber_42 (by decide) (fun h_2 => ?_) (fun h_2 => ?_)
    · skip
      refine lv_aload_n S.1 S.2.1 dX2_readNumber_68 rfl (lv_at hl 2 rfl) ?_
      refine nv_rVi (rest := []) S w hl.1 (c_X2_next l D Z q qb qc n (i + 1) pa ro t k ht (by omega) (by omega)) [0, 1, 2] rfl rfl gX2_readNumber_X2_next rfl hdV_X2_next ⟨Nat.le_of_ble_eq_true rfl, Nat.le_of_ble_eq_true rfl⟩ (q0 := 0) rfl rfl rfl rfl (Nat.le_of_ble_eq_true rfl) ⟨Nat.zero_le _, Nat.zero_le _⟩ dX2_readNumber_69 (fun H locs w => ?_)
      refine nv_pSi (rest := []) S w hl.1 (c_X2_isDigit l D Z (cx t n (i + 1)) (by omega)) gX2_readNumber_X2_isDigit rfl hdS_X2_isDigit ⟨Nat.le_of_ble_eq_true rfl, Nat.le_of_ble_eq_true rfl⟩ rfl rfl (Nat.le_of_ble_eq_true rfl) ⟨Nat.zero_le _, Nat.zero_le _⟩ dX2_readNumber_72 (fun H locs w => ?_)
      refine nv_if_eqB S (tgt := 80) dX2_readNumber_75 (by decide) (fun h_3 => ?_) (fun h_3 => ?_)
      · skip
        refine lv_iload_n S.1 S.2.1 dX2_readNumber_80 rfl (lv_at hl 0 rfl) ?_
        refine lv_iload_n S.1 S.2.1 dX2_readNumber_81 rfl (lv_at hl 3 rfl) ?_
        refine nv_icmp_le S (by omega) (by omega) (tgt := 92) dX2_readNumber_82 (by decide) (fun h_4 => ?_) (fun h_4 => ?_)
        · skip
          refine lv_iload_n S.1 S.2.1 dX2_readNumber_92 rfl (lv_at hl 0 rfl) ?_
          exact nv_iret S w hr hlocks rfl (by unfold rn; rw [if_neg (fun z9 => z9 h_1), if_neg h_2, if_neg (by omega)]; try exact (nI_pred _).symm) (by unfold rn; rw [if_neg (fun z9 => z9 h_1), if_neg h_2, if_neg (by omega)]; try rfl) dX2_readNumber_93
        · skip
          refine lv_aload_n S.1 S.2.1 dX2_readNumber_85 rfl (lv_at hl 2 rfl) ?_
          refine lv_iload_n S.1 S.2.1 dX2_readNumber_86 rfl (lv_at hl 1 rfl) ?_
          refine nv_put S w (C := RX2) (T := TX2) (N := 6) hn_X2_readNumber_2 tyX2_ok nmX2 0 rfl rfl 2 (by decide) (List.mem_of_getElem? (i := 1) rfl) rfl rfl (Nat.le_of_ble_eq_true rfl) (ws' := [(q, .inr (1, [.ref qb, vI n, vI i, vI pa, vI ro, .ref qc])), (qb, .inl (Z 1, 100, .inl (ar 100 t))), (qc, .inl (Z 0, 32, .inl (ar 32 (fun j => pk (k j)))))]) rfl dX2_readNumber_87 (fun H locs w => ?_)
          refine lv_iconst (v := -1) S.1 S.2.1 dX2_readNumber_90 (by decide +kernel) ?_
          exact nv_iret S w hr hlocks rfl (by unfold rn; rw [if_neg (fun z9 => z9 h_1), if_neg h_2, if_pos (by omega)]; try rfl) (by unfold rn; rw [if_neg (fun z9 => z9 h_1), if_neg h_2, if_pos (by omega)]; try rfl) dX2_readNumber_91
      · skip
        exfalso; omega
    · skip
      refine lv_bipush (v := nI 10) S.1 S.2.1 dX2_readNumber_45 (by decide +kernel) ?_
      refine lv_iload_n S.1 S.2.1 dX2_readNumber_47 rfl (lv_at hl 0 rfl) ?_
      refine nv_imul S dX2_readNumber_48 ?_
      refine lv_aload_n S.1 S.2.1 dX2_readNumber_49 rfl (lv_at hl 2 rfl) ?_
      refine nv_rVi (rest := [vI (10 * ((cx t n i) - 49))]) S w hl.1 (c_X2_next l D Z q qb qc n (i + 1) pa ro t k ht (by omega) (by omega)) [0, 1, 2] rfl rfl gX2_readNumber_X2_next rfl hdV_X2_next ⟨Nat.le_of_ble_eq_true rfl, Nat.le_of_ble_eq_true rfl⟩ (q0 := 0) rfl rfl rfl rfl (Nat.le_of_ble_eq_true rfl) ⟨Nat.zero_le _, Nat.zero_le _⟩ dX2_readNumber_50 (fun H locs w => ?_)
      refine ns_iadd S (by omega) dX2_readNumber_53 ?_
      refine lv_bipush (v := nI 48) S.1 S.2.1 dX2_readNumber_54 (by decide +kernel) ?_
      refine ns_isub S (by omega) dX2_readNumber_56 ?_
      refine W.eq (g2 := F0 m 57 ls [vI (((10 * ((cx t n i) - 49)) + (cx t n (i + 1))) - 49)]) rfl ?_
      refine lv_istore_n (lv' := [(3, vI (((10 * ((cx t n i) - 49)) + (cx t n (i + 1))) - 49)), (2, vI i), (0, .ref q), (1, vI o)]) S.1 S.2.1 dX2_readNumber_57 rfl hl (by decide) rfl (fun ls hl => ?_)
      refine lv_aload_n S.1 S.2.1 dX2_readNumber_58 rfl (lv_at hl 2 rfl) ?_
      refine lv_dup S.1 S.2.1 dX2_readNumber_59 rfl ?_
      refine nv_get S w (C := RX2) (T := TX2) (N := 6) hn_X2_readNumber_2 0 rfl rfl 2 (by decide) (List.mem_of_getElem? (i := 1) rfl) (v := vI (i + 1)) rfl dX2_readNumber_60 ?_
      refine lv_iconst (v := nI 1) S.1 S.2.1 dX2_readNumber_63 (ofInt_nI 1) ?_
      refine nv_iadd S dX2_readNumber_64 ?_
      refine W.eq (g2 := F0 m 65 ls [vI (i + 2), .ref q]) rfl ?_
      refine nv_put S w (C := RX2) (T := TX2) (N := 6) hn_X2_readNumber_2 tyX2_ok nmX2 0 rfl rfl 2 (by decide) (List.mem_of_getElem? (i := 1) rfl) rfl rfl (Nat.le_of_ble_eq_true rfl) (ws' := [(q, .inr (1, [.ref qb, vI n, vI (i + 2), vI pa, vI ro, .ref qc])), (qb, .inl (Z 1, 100, .inl (ar 100 t))), (qc, .inl (Z 0, 32, .inl (ar 32 (fun j => pk (k j)))))]) rfl dX2_readNumber_65 (fun H locs w => ?_)
      refine lv_aload_n S.1 S.2.1 dX2_readNumber_68 rfl (lv_at hl 2 rfl) ?_
      have w := w.as (ws' := ptB Z q qb qc n (i + 2) pa ro t k) (rfl)
      refine nv_rVi (rest := []) S w hl.1 (c_X2_next l D Z q qb qc n (i + 2) pa ro t k ht (by omega) (by omega)) [0, 1, 2] rfl rfl gX2_readNumber_X2_next rfl hdV_X2_next ⟨Nat.le_of_ble_eq_true rfl, Nat.le_of_ble_eq_true rfl⟩ (q0 := 0) rfl rfl rfl rfl (Nat.le_of_ble_eq_true rfl) ⟨Nat.zero_le _, Nat.zero_le _⟩ dX2_readNumber_69 (fun H locs w => ?_)
      refine nv_pSi (rest := []) S w hl.1 (c_X2_isDigit l D Z (cx t n (i + 2)) (by omega)) gX2_readNumber_X2_isDigit rfl hdS_X2_isDigit ⟨Nat.le_of_ble_eq_true rfl, Nat.le_of_ble_eq_true rfl⟩ rfl rfl (Nat.le_of_ble_eq_true rfl) ⟨Nat.zero_le _, Nat.zero_le _⟩ dX2_readNumber_72 (fun H locs w => ?_)
      refine nv_if_eqB S (tgt := 80) dX2_readNumber_75 (by decide) (fun h_5 => ?_) (fun h_5 => ?_)
      · skip
        refine lv_iload_n S.1 S.2.1 dX2_readNumber_80 rfl (lv_at hl 0 rfl) ?_
        refine lv_iload_n S.1 S.2.1 dX2_readNumber_81 rfl (lv_at hl 3 rfl) ?_
        refine nv_icmp_le S (by omega) (by omega) (tgt := 92) dX2_readNumber_82 (by decide) (fun h_6 => ?_) (fun h_6 => ?_)
        · skip
          refine lv_iload_n S.1 S.2.1 dX2_readNumber_92 rfl (lv_at hl 0 rfl) ?_
          exact nv_iret S w hr hlocks rfl (by unfold rn; rw [if_neg (fun z9 => z9 h_1), if_pos h_2, if_neg h_5, if_neg (by omega)]; try exact (nI_pred _).symm) (by unfold rn; rw [if_neg (fun z9 => z9 h_1), if_pos h_2, if_neg h_5, if_neg (by omega)]; try rfl) dX2_readNumber_93
        · skip
          refine lv_aload_n S.1 S.2.1 dX2_readNumber_85 rfl (lv_at hl 2 rfl) ?_
          refine lv_iload_n S.1 S.2.1 dX2_readNumber_86 rfl (lv_at hl 1 rfl) ?_
          refine nv_put S w (C := RX2) (T := TX2) (N := 6) hn_X2_readNumber_2 tyX2_ok nmX2 0 rfl rfl 2 (by decide) (List.mem_of_getElem? (i := 1) rfl) rfl rfl (Nat.le_of_ble_eq_true rfl) (ws' := [(q, .inr (1, [.ref qb, vI n, vI i, vI pa, vI ro, .ref qc])), (qb, .inl (Z 1, 100, .inl (ar 100 t))), (qc, .inl (Z 0, 32, .inl (ar 32 (fun j => pk (k j)))))]) rfl dX2_readNumber_87 (fun H locs w => ?_)
          refine lv_iconst (v := -1) S.1 S.2.1 dX2_readNumber_90 (by decide +kernel) ?_
          exact nv_iret S w hr hlocks rfl (by unfold rn; rw [if_neg (fun z9 => z9 h_1), if_pos h_2, if_neg h_5, if_pos (by omega)]; try rfl) (by unfold rn; rw [if_neg (fun z9 => z9 h_1), if_pos h_2, if_neg h_5, if_pos (by omega)]; try rfl) dX2_readNumber_91
      · skip
        refine lv_iconst (v := -1) S.1 S.2.1 dX2_readNumber_78 (by decide +kernel) ?_
        exact nv_iret S w hr hlocks rfl (by unfold rn; rw [if_neg (fun z9 => z9 h_1), if_pos h_2, if_pos h_5]; try rfl) (by unfold rn; rw [if_neg (fun z9 => z9 h_1), if_pos h_2, if_pos h_5]; try rfl) dX2_readNumber_79
  · skip
    refine lv_iconst (v := -1) S.1 S.2.1 dX2_readNumber_15 (by decide +kernel) ?_
    exact nv_iret S w hr hlocks rfl (by unfold rn; rw [if_pos h_1]; try rfl) (by unfold rn; rw [if_pos h_1]; try rfl) dX2_readNumber_16

theorem hn_X2_readVolume_2 : ∀ w ∈ wsX20, w ∈ wsX2_readVolume := by decide +kernel
theorem hdV_X2_readNumber : yX2_readNumber.cls = RX2 ∧ yX2_readNumber.cls ≠ "java/lang/invoke/MethodHandle" ∧ yX2_readNumber.cls ≠ "java/lang/invoke/VarHandle" ∧ (parseMethodDescriptor yX2_readNumber.desc).map (fun d => d.parameters.length) = some 1 := by decide +kernel
set_option maxRecDepth 100000 in
set_option maxHeartbeats 4000000 in
theorem c_X2_readVolume (l : Launch) (D : va_G) (Z : Nat → ClassId) (q qb qc n i pa ro : Nat) (t : Nat → Nat) (k : Nat → Nat → Nat) (ht : ∀ j, j < 100 → t j < 128) (hn : n ≤ 100) (hi : i ≤ 999) : Ci l yX2_readVolume wsX2_readVolume 2 43 D Z [.ref q] (ptB Z q qb qc n i pa ro t k) (nI ((rvo (cx t n) i).1) - 1) (ptB Z q qb qc n ((rvo (cx t n) i).2) pa ro t k) := by
  refine ne_i (cc := cX2_readVolume) (maxL := 1) (by decide +kernel) rfl (Nat.le_of_ble_eq_true rfl) (fun p e s m args below meth c A ls (S : CallFix p m c cX2_readVolume 1 s args wsX2_readVolume RX2) hr hlocks hl w => ?_)
  have hc0 := cx_le (i := i) ht hn
  have hl : lv_has ls 1 [(0, .ref q)] := hl
  refine lv_aload_n S.1 S.2.1 dX2_readVolume_0 rfl (lv_at hl 0 rfl) ?_
  refine nv_rVi (rest := []) S w hl.1 (c_X2_next l D Z q qb qc n i pa ro t k ht (by omega) (by omega)) [0, 1, 2] rfl rfl gX2_readVolume_X2_next rfl hdV_X2_next ⟨Nat.le_of_ble_eq_true rfl, Nat.le_of_ble_eq_true rfl⟩ (q0 := 0) rfl rfl rfl rfl (Nat.le_of_ble_eq_true rfl) ⟨Nat.zero_le _, Nat.zero_le _⟩ dX2_readVolume_1 (fun H locs w => ?_)
  refine lv_bipush (v := nI 118) S.1 S.2.1 dX2_readVolume_4 (by decide +kernel) ?_
  refine ns_icmp_eq S (by omega) (by omega) (tgt := 12) dX2_readVolume_6 (by decide) (fun h_1 => ?_) (fun h_1 => ?_)
  · skip
    refine lv_aload_n S.1 S.2.1 dX2_readVolume_12 rfl (lv_at hl 0 rfl) ?_
    refine lv_dup S.1 S.2.1 dX2_readVolume_13 rfl ?_
    refine nv_get S w (C := RX2) (T := TX2) (N := 6) hn_X2_readVolume_2 0 rfl rfl 2 (by decide) (List.mem_of_getElem? (i := 1) rfl) (v := vI i) rfl dX2_readVolume_14 ?_
    refine lv_iconst (v := nI 1) S.1 S.2.1 dX2_readVolume_17 (ofInt_nI 1) ?_
    refine nv_iadd S dX2_readVolume_18 ?_
    refine nv_put S w (C := RX2) (T := TX2) (N := 6) hn_X2_readVolume_2 tyX2_ok nmX2 0 rfl rfl 2 (by decide) (List.mem_of_getElem? (i := 1) rfl) rfl rfl (Nat.le_of_ble_eq_true rfl) (ws' := [(q, .inr (1, [.ref qb, vI n, vI (i + 1), vI pa, vI ro, .ref qc])), (qb, .inl (Z 1, 100, .inl (ar 100 t))), (qc, .inl (Z 0, 32, .inl (ar 32 (fun j => pk (k j)))))]) rfl dX2_readVolume_19 (fun H locs w => ?_)
    refine lv_aload_n S.1 S.2.1 dX2_readVolume_22 rfl (lv_at hl 0 rfl) ?_
    refine lv_bipush (v := nI 15) S.1 S.2.1 dX2_readVolume_23 (by decide +kernel) ?_
    have w := w.as (ws' := ptB Z q qb qc n (i + 1) pa ro t k) (rfl)
    refine nv_cVi (rest := []) (ws' := ptB Z q qb qc n ((rn (cx t n) (i + 1) 15).2) pa ro t k) S w hl.1 (c_X2_readNumber l D Z q qb qc n (i + 1) pa ro t k 15 ht (by omega) (by omega) (by omega)) [0, 1, 2] rfl rfl rfl rfl gX2_readVolume_X2_readNumber rfl hdV_X2_readNumber ⟨Nat.le_of_ble_eq_true rfl, Nat.le_of_ble_eq_true rfl⟩ (q0 := 0) rfl rfl rfl rfl (Nat.le_of_ble_eq_true rfl) ⟨Nat.zero_le _, Nat.zero_le _⟩ dX2_readVolume_25 (fun H locs w => ?_)
    exact nv_iret S w hr hlocks rfl (by unfold rvo; rw [if_pos h_1]) (by unfold rvo; rw [if_pos h_1]) dX2_readVolume_28
  · skip
    refine lv_bipush (v := nI 15) S.1 S.2.1 dX2_readVolume_9 (by decide +kernel) ?_
    exact nv_iret S w hr hlocks rfl (by unfold rvo; rw [if_neg h_1]; exact (nI_pred 15).symm) (by unfold rvo; rw [if_neg h_1]) dX2_readVolume_11

theorem hn_X2_readEffect_2 : ∀ w ∈ wsX20, w ∈ wsX2_readEffect := by decide +kernel
set_option maxRecDepth 100000 in
set_option maxHeartbeats 4000000 in
theorem c_X2_readEffect (l : Launch) (D : va_G) (Z : Nat → ClassId) (q qb qc n i pa ro : Nat) (t : Nat → Nat) (k : Nat → Nat → Nat) (ht : ∀ j, j < 100 → t j < 128) (hn : n ≤ 100) (hi : i ≤ 1000) : Ci l yX2_readEffect wsX2_readEffect 1 20 D Z [.ref q] (ptB Z q qb qc n i pa ro t k) (nI ((ref (cx t n) i).1)) (ptB Z q qb qc n ((ref (cx t n) i).2) pa ro t k) := by
  refine ne_i (cc := cX2_readEffect) (maxL := 2) (by decide +kernel) rfl (Nat.le_of_ble_eq_true rfl) (fun p e s m args below meth c A ls (S : CallFix p m c cX2_readEffect 2 s args wsX2_readEffect RX2) hr hlocks hl w => ?_)
  have hc0 := cx_le (i := i) ht hn
  have hl : lv_has ls 2 [(0, .ref q)] := hl
  refine lv_aload_n S.1 S.2.1 dX2_readEffect_0 rfl (lv_at hl 0 rfl) ?_
  refine nv_rVi (rest := []) S w hl.1 (c_X2_next l D Z q qb qc n i pa ro t k ht (by omega) (by omega)) [0, 1, 2] rfl rfl gX2_readEffect_X2_next rfl hdV_X2_next ⟨Nat.le_of_ble_eq_true rfl, Nat.le_of_ble_eq_true rfl⟩ (q0 := 0) rfl rfl rfl rfl (Nat.le_of_ble_eq_true rfl) ⟨Nat.zero_le _, Nat.zero_le _⟩ dX2_readEffect_1 (fun H locs w => ?_)
  refine lv_bipush (v := nI 97) S.1 S.2.1 dX2_readEffect_4 (by decide +kernel) ?_
  refine ns_icmp_lt S (by omega) (by omega) (tgt := 18) dX2_readEffect_6 (by decide) (fun h_1 => ?_) (fun h_1 => ?_)
  · skip
    refine lv_iconst (v := nI 0) S.1 S.2.1 dX2_readEffect_18 (ofInt_nI 0) ?_
    exact nv_iret S w hr hlocks rfl (by unfold ref; rw [if_neg (by omega)]) (by unfold ref; rw [if_neg (by omega)]) dX2_readEffect_19
  · skip
    refine lv_aload_n S.1 S.2.1 dX2_readEffect_9 rfl (lv_at hl 0 rfl) ?_
    refine nv_rVi (rest := []) S w hl.1 (c_X2_next l D Z q qb qc n i pa ro t k ht (by omega) (by omega)) [0, 1, 2] rfl rfl gX2_readEffect_X2_next rfl hdV_X2_next ⟨Nat.le_of_ble_eq_true rfl, Nat.le_of_ble_eq_true rfl⟩ (q0 := 0) rfl rfl rfl rfl (Nat.le_of_ble_eq_true rfl) ⟨Nat.zero_le _, Nat.zero_le _⟩ dX2_readEffect_10 (fun H locs w => ?_)
    refine lv_bipush (v := nI 104) S.1 S.2.1 dX2_readEffect_13 (by decide +kernel) ?_
    refine ns_icmp_lt S (by omega) (by omega) (tgt := 20) dX2_readEffect_15 (by decide) (fun h_2 => ?_) (fun h_2 => ?_)
    · skip
      refine lv_aload_n S.1 S.2.1 dX2_readEffect_20 rfl (lv_at hl 0 rfl) ?_
      refine nv_rVi (rest := []) S w hl.1 (c_X2_next l D Z q qb qc n i pa ro t k ht (by omega) (by omega)) [0, 1, 2] rfl rfl gX2_readEffect_X2_next rfl hdV_X2_next ⟨Nat.le_of_ble_eq_true rfl, Nat.le_of_ble_eq_true rfl⟩ (q0 := 0) rfl rfl rfl rfl (Nat.le_of_ble_eq_true rfl) ⟨Nat.zero_le _, Nat.zero_le _⟩ dX2_readEffect_21 (fun H locs w => ?_)
      refine lv_bipush (v := nI 97) S.1 S.2.1 dX2_readEffect_24 (by decide +kernel) ?_
      refine ns_isub S (by omega) dX2_readEffect_26 ?_
      refine W.eq (g2 := F0 m 27 ls [vI ((cx t n i) - 98)]) rfl ?_
      refine lv_iconst (v := nI 1) S.1 S.2.1 dX2_readEffect_27 (ofInt_nI 1) ?_
      refine nv_iadd S dX2_readEffect_28 ?_
      refine lv_istore_n (lv' := [(1, vI (((cx t n i) - 98) + 1)), (0, .ref q)]) S.1 S.2.1 dX2_readEffect_29 rfl hl (by decide) rfl (fun ls hl => ?_)
      refine lv_aload_n S.1 S.2.1 dX2_readEffect_30 rfl (lv_at hl 1 rfl) ?_
      refine lv_dup S.1 S.2.1 dX2_readEffect_31 rfl ?_
      refine nv_get S w (C := RX2) (T := TX2) (N := 6) hn_X2_readEffect_2 0 rfl rfl 2 (by decide) (List.mem_of_getElem? (i := 1) rfl) (v := vI i) rfl dX2_readEffect_32 ?_
      refine lv_iconst (v := nI 1) S.1 S.2.1 dX2_readEffect_35 (ofInt_nI 1) ?_
      refine nv_iadd S dX2_readEffect_36 ?_
      refine nv_put S w (C := RX2) (T := TX2) (N := 6) hn_X2_readEffect_2 tyX2_ok nmX2 0 rfl rfl 2 (by decide) (List.mem_of_getElem? (i := 1) rfl) rfl rfl (Nat.le_of_ble_eq_true rfl) (ws' := [(q, .inr (1, [.ref qb, vI n, vI (i + 1), vI pa, vI ro, .ref qc])), (qb, .inl (Z 1, 100, .inl (ar 100 t))), (qc, .inl (Z 0, 32, .inl (ar 32 (fun j => pk (k j)))))]) rfl dX2_readEffect_37 (fun H locs w => ?_)
      refine lv_iload_n S.1 S.2.1 dX2_readEffect_40 rfl (lv_at hl 0 rfl) ?_
      exact nv_iret S w hr hlocks rfl (by unfold ref; rw [if_pos (by omega)]) (by unfold ref; rw [if_pos (by omega)]; rfl) dX2_readEffect_41
    · skip
      refine lv_iconst (v := nI 0) S.1 S.2.1 dX2_readEffect_18 (ofInt_nI 0) ?_
      exact nv_iret S w hr hlocks rfl (by unfold ref; rw [if_neg (by omega)]) (by unfold ref; rw [if_neg (by omega)]) dX2_readEffect_19

def kce (c : Nat → Nat) (i x : Nat) (k : Nat → Nat → Nat) : Nat → Nat → Nat := if (rce c i).1 = 0 then k else uc k x (rce c i).2.2
theorem uc_same {k : Nat → Nat → Nat} {x : Nat} {r : Nat → Nat} (h : k x = r) : uc k x r = k := by
  funext j
  unfold uc
  split
  · rename_i e; rw [e, h]
  · rfl

theorem hdV_X2_readVolume : yX2_readVolume.cls = RX2 ∧ yX2_readVolume.cls ≠ "java/lang/invoke/MethodHandle" ∧ yX2_readVolume.cls ≠ "java/lang/invoke/VarHandle" ∧ (parseMethodDescriptor yX2_readVolume.desc).map (fun d => d.parameters.length) = some 0 := by decide +kernel
theorem hdV_X2_readEffect : yX2_readEffect.cls = RX2 ∧ yX2_readEffect.cls ≠ "java/lang/invoke/MethodHandle" ∧ yX2_readEffect.cls ≠ "java/lang/invoke/VarHandle" ∧ (parseMethodDescriptor yX2_readEffect.desc).map (fun d => d.parameters.length) = some 0 := by decide +kernel
theorem hn_X2_readCell_2 : ∀ w ∈ wsX20, w ∈ wsX2_readCell := by decide +kernel
theorem hdS_X0_packed : yX0_packed.cls ≠ "java/lang/invoke/MethodHandle" ∧ yX0_packed.cls ≠ "java/lang/invoke/VarHandle" ∧ (parseMethodDescriptor yX0_packed.desc).map (fun d => d.parameters.length) = some 4 := by decide +kernel
set_option maxRecDepth 100000 in
set_option maxHeartbeats 4000000 in
theorem c_X2_readCell (l : Launch) (D : va_G) (Z : Nat → ClassId) (q qb qc n i pa ro : Nat) (t : Nat → Nat) (k : Nat → Nat → Nat) (x : Nat) (ht : ∀ j, j < 100 → t j < 128) (hn : n ≤ 100) (hi : i ≤ 900) (hx : x < 32) (hk : k x = eC) : Ci l yX2_readCell wsX2_readCell 3 63 D Z [.ref q, vI x] (ptB Z q qb qc n i pa ro t k) (nI ((rce (cx t n) i).1)) (ptB Z q qb qc n ((rce (cx t n) i).2.1) pa ro t (kce (cx t n) i x k)) := by
  refine ne_i (cc := cX2_readCell) (maxL := 6) (by decide +kernel) rfl (Nat.le_of_ble_eq_true rfl) (fun p e s m args below meth c A ls (S : CallFix p m c cX2_readCell 6 s args wsX2_readCell RX2) hr hlocks hl w => ?_)
  have hc0 := cx_le (i := i) ht hn
  have b1 := rn_b (c := cx t n) i 61
  have b2 := rvo_b (c := cx t n) (rn (cx t n) i 61).2
  have b3 := ref_b (c := cx t n) (rvo (cx t n) (rn (cx t n) i 61).2).2
  have hc1 := cx_le (i := (ref (cx t n) (rvo (cx t n) (rn (cx t n) i 61).2).2).2) ht hn
  have hl : lv_has ls 6 [(0, .ref q), (1, vI x)] := hl
  refine lv_aload_n S.1 S.2.1 dX2_readCell_0 rfl (lv_at hl 0 rfl) ?_
  refine nv_rVi (rest := []) S w hl.1 (c_X2_next l D Z q qb qc n i pa ro t k ht (by omega) (by omega)) [0, 1, 2] rfl rfl gX2_readCell_X2_next rfl hdV_X2_next ⟨Nat.le_of_ble_eq_true rfl, Nat.le_of_ble_eq_true rfl⟩ (q0 := 0) rfl rfl rfl rfl (Nat.le_of_ble_eq_true rfl) ⟨Nat.zero_le _, Nat.zero_le _⟩ dX2_readCell_1 (fun H locs w => ?_)
  refine lv_bipush (v := nI 46) S.1 S.2.1 dX2_readCell_4 (by decide +kernel) ?_
  refine ns_icmp_ne S (by omega) (by omega) (tgt := 21) dX2_readCell_6 (by decide) (fun h_1 => ?_) (fun h_1 => ?_)
  · skip
    refine lv_aload_n S.1 S.2.1 dX2_readCell_21 rfl (lv_at hl 0 rfl) ?_
    refine lv_bipush (v := nI 61) S.1 S.2.1 dX2_readCell_22 (by decide +kernel) ?_
    refine nv_cVi (rest := []) (ws' := ptB Z q qb qc n ((rn (cx t n) i 61).2) pa ro t k) S w hl.1 (c_X2_readNumber l D Z q qb qc n i pa ro t k 61 ht (by omega) (by omega) (by omega)) [0, 1, 2] rfl rfl rfl rfl gX2_readCell_X2_readNumber rfl hdV_X2_readNumber ⟨Nat.le_of_ble_eq_true rfl, Nat.le_of_ble_eq_true rfl⟩ (q0 := 0) rfl rfl rfl rfl (Nat.le_of_ble_eq_true rfl) ⟨Nat.zero_le _, Nat.zero_le _⟩ dX2_readCell_24 (fun H locs w => ?_)
    refine lv_istore_n (lv' := [(2, sI ((rn (cx t n) i 61).1)), (0, .ref q), (1, vI x)]) S.1 S.2.1 dX2_readCell_27 rfl hl (by decide) rfl (fun ls hl => ?_)
    refine lv_iload_n S.1 S.2.1 dX2_readCell_28 rfl (lv_at hl 0 rfl) ?_
    refine lv_iconst (v := -1) S.1 S.2.1 dX2_readCell_29 (by decide +kernel) ?_
    refine W.eq (g2 := F0 m 30 ls [sI 0, sI ((rn (cx t n) i 61).1)]) (by rw [← s0]) ?_
    refine ns_icmp_neS S (by omega) (by omega) (tgt := 35) dX2_readCell_30 (by decide) (fun h_2 => ?_) (fun h_2 => ?_)
    · skip
      refine lv_aload_n S.1 S.2.1 dX2_readCell_35 rfl (lv_at hl 1 rfl) ?_
      refine nv_cVi (rest := []) (ws' := ptB Z q qb qc n ((rvo (cx t n) ((rn (cx t n) i 61).2)).2) pa ro t k) S w hl.1 (c_X2_readVolume l D Z q qb qc n ((rn (cx t n) i 61).2) pa ro t k ht (by omega) (by omega)) [0, 1, 2] rfl rfl rfl rfl gX2_readCell_X2_readVolume rfl hdV_X2_readVolume ⟨Nat.le_of_ble_eq_true rfl, Nat.le_of_ble_eq_true rfl⟩ (q0 := 0) rfl rfl rfl rfl (Nat.le_of_ble_eq_true rfl) ⟨Nat.zero_le _, Nat.zero_le _⟩ dX2_readCell_36 (fun H locs w => ?_)
      refine lv_istore_n (lv' := [(3, sI ((rvo (cx t n) ((rn (cx t n) i 61).2)).1)), (2, sI ((rn (cx t n) i 61).1)), (0, .ref q), (1, vI x)]) S.1 S.2.1 dX2_readCell_39 rfl hl (by decide) rfl (fun ls hl => ?_)
      refine lv_iload_n S.1 S.2.1 dX2_readCell_40 rfl (lv_at hl 0 rfl) ?_
      refine lv_iconst (v := -1) S.1 S.2.1 dX2_readCell_41 (by decide +kernel) ?_
      refine W.eq (g2 := F0 m 42 ls [sI 0, sI ((rvo (cx t n) ((rn (cx t n) i 61).2)).1)]) (by rw [← s0]) ?_
      refine ns_icmp_neS S (by omega) (by omega) (tgt := 47) dX2_readCell_42 (by decide) (fun h_3 => ?_) (fun h_3 => ?_)
      · skip
        refine lv_aload_n S.1 S.2.1 dX2_readCell_47 rfl (lv_at hl 2 rfl) ?_
        refine nv_cVi (rest := []) (ws' := ptB Z q qb qc n ((ref (cx t n) ((rvo (cx t n) ((rn (cx t n) i 61).2)).2)).2) pa ro t k) S w hl.1 (c_X2_readEffect l D Z q qb qc n ((rvo (cx t n) ((rn (cx t n) i 61).2)).2) pa ro t k ht (by omega) (by omega)) [0, 1, 2] rfl rfl rfl rfl gX2_readCell_X2_readEffect rfl hdV_X2_readEffect ⟨Nat.le_of_ble_eq_true rfl, Nat.le_of_ble_eq_true rfl⟩ (q0 := 0) rfl rfl rfl rfl (Nat.le_of_ble_eq_true rfl) ⟨Nat.zero_le _, Nat.zero_le _⟩ dX2_readCell_48 (fun H locs w => ?_)
        refine lv_istore (lv' := [(4, vI ((ref (cx t n) ((rvo (cx t n) ((rn (cx t n) i 61).2)).2)).1)), (3, sI ((rvo (cx t n) ((rn (cx t n) i 61).2)).1)), (2, sI ((rn (cx t n) i 61).1)), (0, .ref q), (1, vI x)]) S.1 S.2.1 dX2_readCell_51 hl (by decide) rfl (fun ls hl => ?_)
        refine lv_iconst (v := nI 0) S.1 S.2.1 dX2_readCell_53 (ofInt_nI 0) ?_
        refine lv_istore (lv' := [(5, vI 0), (4, vI ((ref (cx t n) ((rvo (cx t n) ((rn (cx t n) i 61).2)).2)).1)), (3, sI ((rvo (cx t n) ((rn (cx t n) i 61).2)).1)), (2, sI ((rn (cx t n) i 61).1)), (0, .ref q), (1, vI x)]) S.1 S.2.1 dX2_readCell_54 hl (by decide) rfl (fun ls hl => ?_)
        refine lv_iload S.1 S.2.1 dX2_readCell_56 (lv_at hl 1 rfl) ?_
        refine nv_if_eq S (by omega) (tgt := 92) dX2_readCell_58 (by decide) (fun h_4 => ?_) (fun h_4 => ?_)
        · skip
          refine lv_iload_n S.1 S.2.1 dX2_readCell_92 rfl (lv_at hl 5 rfl) ?_
          refine lv_bipush (v := nI 32) S.1 S.2.1 dX2_readCell_93 (by decide +kernel) ?_
          refine nv_pNi (rest := []) S w hl.1 (c_X7_isIndexN l D Z x 32 (by omega) (by omega)) gX2_readCell_X7_isIndex_n23 rfl (kN := 3) rfl (List.mem_of_getElem? (i := 26) rfl) (List.mem_of_getElem? (i := 25) rfl) hdS_X7_isIndex ⟨Nat.le_of_ble_eq_true rfl, Nat.le_of_ble_eq_true rfl⟩ rfl rfl (Nat.le_of_ble_eq_true rfl) ⟨Nat.zero_le _, Nat.zero_le _⟩ dX2_readCell_95 (fun H locs w => ?_)
          refine nv_if_eqB S (tgt := 116) dX2_readCell_98 (by decide) (fun h_5 => ?_) (fun h_5 => ?_)
          · skip
            exfalso; omega
          · skip
            refine lv_aload_n S.1 S.2.1 dX2_readCell_101 rfl (lv_at hl 4 rfl) ?_
            refine nv_get S w (C := RX2) (T := TX2) (N := 6) hn_X2_readCell_2 0 rfl rfl 5 (by decide) (List.mem_of_getElem? (i := 2) rfl) (v := .ref qc) rfl dX2_readCell_102 ?_
            refine lv_iload_n S.1 S.2.1 dX2_readCell_105 rfl (lv_at hl 5 rfl) ?_
            refine lv_iload_n S.1 S.2.1 dX2_readCell_106 rfl (lv_at hl 3 rfl) ?_
            refine W.eq (g2 := F0 m 107 ls [vI ((rn (cx t n) i 61).1 - 1), vI x, .ref qc]) (by rw [sN (x := ((rn (cx t n) i 61).1)) (by omega)]) ?_
            refine lv_iload_n S.1 S.2.1 dX2_readCell_107 rfl (lv_at hl 2 rfl) ?_
            refine W.eq (g2 := F0 m 108 ls [vI ((rvo (cx t n) (rn (cx t n) i 61).2).1 - 1), vI ((rn (cx t n) i 61).1 - 1), vI x, .ref qc]) (by rw [sN (x := ((rvo (cx t n) ((rn (cx t n) i 61).2)).1)) (by omega)]) ?_
            refine lv_iload S.1 S.2.1 dX2_readCell_108 (lv_at hl 1 rfl) ?_
            refine lv_iload S.1 S.2.1 dX2_readCell_110 (lv_at hl 0 rfl) ?_
            refine nv_pSi (rest := [vI x, .ref qc]) S w hl.1 (c_X0_packed l D Z ((rn (cx t n) i 61).1 - 1) ((rvo (cx t n) (rn (cx t n) i 61).2).1 - 1) ((ref (cx t n) ((rvo (cx t n) ((rn (cx t n) i 61).2)).2)).1) 0 (by omega)) gX2_readCell_X0_packed rfl hdS_X0_packed ⟨Nat.le_of_ble_eq_true rfl, Nat.le_of_ble_eq_true rfl⟩ rfl rfl (Nat.le_of_ble_eq_true rfl) ⟨Nat.zero_le _, Nat.zero_le _⟩ dX2_readCell_112 (fun H locs w => ?_)
            refine nv_iast S w (i := x) (x := (((rn (cx t n) i 61).1 - 1) + ((rvo (cx t n) (rn (cx t n) i 61).2).1 - 1) * 2 ^ 6 + ((ref (cx t n) ((rvo (cx t n) ((rn (cx t n) i 61).2)).2)).1) * 2 ^ 10 + 0 * 2 ^ 13)) (g := (fun j => pk (k j))) 2 rfl (by omega) (by decide) (ws' := [(q, .inr (1, [.ref qb, vI n, vI ((ref (cx t n) ((rvo (cx t n) ((rn (cx t n) i 61).2)).2)).2), vI pa, vI ro, .ref qc])), (qb, .inl (Z 1, 100, .inl (ar 100 t))), (qc, .inl (Z 0, 32, .inl (ar 32 (un (fun j => pk (k j)) x (((rn (cx t n) i 61).1 - 1) + ((rvo (cx t n) (rn (cx t n) i 61).2).1 - 1) * 2 ^ 6 + ((ref (cx t n) ((rvo (cx t n) ((rn (cx t n) i 61).2)).2)).1) * 2 ^ 10 + 0 * 2 ^ 13)))))]) rfl dX2_readCell_115 (fun H locs w => ?_)
            refine lv_iconst (v := nI 1) S.1 S.2.1 dX2_readCell_116 (ofInt_nI 1) ?_
            exact nv_iret S w hr hlocks (nI_bool (by decide)) (by have e9 : rce (cx t n) i = (1, (ref (cx t n) (rvo (cx t n) (rn (cx t n) i 61).2).2).2, cel ((rn (cx t n) i 61).1 - 1) ((rvo (cx t n) (rn (cx t n) i 61).2).1 - 1) 0 0) := (by unfold rce; rw [if_neg (show ¬ cx t n i = 47 from h_1), if_neg h_2, if_neg h_3, if_pos h_4]); rw [e9]) (by have e9 : rce (cx t n) i = (1, (ref (cx t n) (rvo (cx t n) (rn (cx t n) i 61).2).2).2, cel ((rn (cx t n) i 61).1 - 1) ((rvo (cx t n) (rn (cx t n) i 61).2).1 - 1) 0 0) := (by unfold rce; rw [if_neg (show ¬ cx t n i = 47 from h_1), if_neg h_2, if_neg h_3, if_pos h_4]); unfold kce; rw [e9]; show _ = ptB Z q qb qc n ((ref (cx t n) (rvo (cx t n) (rn (cx t n) i 61).2).2).2) pa ro t (if (1 : Nat) = 0 then k else uc k x (cel ((rn (cx t n) i 61).1 - 1) ((rvo (cx t n) (rn (cx t n) i 61).2).1 - 1) 0 0)); rw [if_neg (by decide)]; exact ptB_k (fun j hj => by simp only [un_at, uc]; split <;> (first | rfl | (simp only [pk, cel]; simp; omega)))) dX2_readCell_117
        · skip
          refine lv_aload_n S.1 S.2.1 dX2_readCell_61 rfl (lv_at hl 4 rfl) ?_
          refine nv_rVi (rest := []) S w hl.1 (c_X2_next l D Z q qb qc n ((ref (cx t n) ((rvo (cx t n) ((rn (cx t n) i 61).2)).2)).2) pa ro t k ht (by omega) (by omega)) [0, 1, 2] rfl rfl gX2_readCell_X2_next rfl hdV_X2_next ⟨Nat.le_of_ble_eq_true rfl, Nat.le_of_ble_eq_true rfl⟩ (q0 := 0) rfl rfl rfl rfl (Nat.le_of_ble_eq_true rfl) ⟨Nat.zero_le _, Nat.zero_le _⟩ dX2_readCell_62 (fun H locs w => ?_)
          refine nv_pSi (rest := []) S w hl.1 (c_X2_isDigit l D Z (cx t n ((ref (cx t n) ((rvo (cx t n) ((rn (cx t n) i 61).2)).2)).2)) (by omega)) gX2_readCell_X2_isDigit rfl hdS_X2_isDigit ⟨Nat.le_of_ble_eq_true rfl, Nat.le_of_ble_eq_true rfl⟩ rfl rfl (Nat.le_of_ble_eq_true rfl) ⟨Nat.zero_le _, Nat.zero_le _⟩ dX2_readCell_65 (fun H locs w => ?_)
          refine nv_if_neB S (tgt := 73) dX2_readCell_68 (by decide) (fun h_6 => ?_) (fun h_6 => ?_)
          · skip
            refine lv_aload_n S.1 S.2.1 dX2_readCell_73 rfl (lv_at hl 4 rfl) ?_
            refine nv_rVi (rest := []) S w hl.1 (c_X2_next l D Z q qb qc n ((ref (cx t n) ((rvo (cx t n) ((rn (cx t n) i 61).2)).2)).2) pa ro t k ht (by omega) (by omega)) [0, 1, 2] rfl rfl gX2_readCell_X2_next rfl hdV_X2_next ⟨Nat.le_of_ble_eq_true rfl, Nat.le_of_ble_eq_true rfl⟩ (q0 := 0) rfl rfl rfl rfl (Nat.le_of_ble_eq_true rfl) ⟨Nat.zero_le _, Nat.zero_le _⟩ dX2_readCell_74 (fun H locs w => ?_)
            refine lv_bipush (v := nI 48) S.1 S.2.1 dX2_readCell_77 (by decide +kernel) ?_
            refine ns_isub S (by omega) dX2_readCell_79 ?_
            refine W.eq (g2 := F0 m 80 ls [vI ((cx t n ((ref (cx t n) ((rvo (cx t n) ((rn (cx t n) i 61).2)).2)).2)) - 49)]) rfl ?_
            refine lv_istore (lv' := [(5, vI ((cx t n ((ref (cx t n) ((rvo (cx t n) ((rn (cx t n) i 61).2)).2)).2)) - 49)), (4, vI ((ref (cx t n) ((rvo (cx t n) ((rn (cx t n) i 61).2)).2)).1)), (3, sI ((rvo (cx t n) ((rn (cx t n) i 61).2)).1)), (2, sI ((rn (cx t n) i 61).1)), (0, .ref q), (1, vI x)]) S.1 S.2.1 dX2_readCell_80 hl (by decide) rfl (fun ls hl => ?_)
            refine lv_aload_n S.1 S.2.1 dX2_readCell_82 rfl (lv_at hl 4 rfl) ?_
            refine lv_dup S.1 S.2.1 dX2_readCell_83 rfl ?_
            refine nv_get S w (C := RX2) (T := TX2) (N := 6) hn_X2_readCell_2 0 rfl rfl 2 (by decide) (List.mem_of_getElem? (i := 1) rfl) (v := vI ((ref (cx t n) ((rvo (cx t n) ((rn (cx t n) i 61).2)).2)).2)) rfl dX2_readCell_84 ?_
            refine lv_iconst (v := nI 1) S.1 S.2.1 dX2_readCell_87 (ofInt_nI 1) ?_
            refine nv_iadd S dX2_readCell_88 ?_
            refine nv_put S w (C := RX2) (T := TX2) (N := 6) hn_X2_readCell_2 tyX2_ok nmX2 0 rfl rfl 2 (by decide) (List.mem_of_getElem? (i := 1) rfl) rfl rfl (Nat.le_of_ble_eq_true rfl) (ws' := [(q, .inr (1, [.ref qb, vI n, vI (((ref (cx t n) ((rvo (cx t n) ((rn (cx t n) i 61).2)).2)).2) + 1), vI pa, vI ro, .ref qc])), (qb, .inl (Z 1, 100, .inl (ar 100 t))), (qc, .inl (Z 0, 32, .inl (ar 32 (fun j => pk (k j)))))]) rfl dX2_readCell_89 (fun H locs w => ?_)
            refine lv_iload_n S.1 S.2.1 dX2_readCell_92 rfl (lv_at hl 5 rfl) ?_
            refine lv_bipush (v := nI 32) S.1 S.2.1 dX2_readCell_93 (by decide +kernel) ?_
            have w := w.as (ws' := ptB Z q qb qc n (((ref (cx t n) ((rvo (cx t n) ((rn (cx t n) i 61).2)).2)).2) + 1) pa ro t k) (rfl)
            refine nv_pNi (rest := []) S w hl.1 (c_X7_isIndexN l D Z x 32 (by omega) (by omega)) gX2_readCell_X7_isIndex_n23 rfl (kN := 3) rfl (List.mem_of_getElem? (i := 26) rfl) (List.mem_of_getElem? (i := 25) rfl) hdS_X7_isIndex ⟨Nat.le_of_ble_eq_true rfl, Nat.le_of_ble_eq_true rfl⟩ rfl rfl (Nat.le_of_ble_eq_true rfl) ⟨Nat.zero_le _, Nat.zero_le _⟩ dX2_readCell_95 (fun H locs w => ?_)
            refine nv_if_eqB S (tgt := 116) dX2_readCell_98 (by decide) (fun h_7 => ?_) (fun h_7 => ?_)
            · skip
              exfalso; omega
            · skip
              refine lv_aload_n S.1 S.2.1 dX2_readCell_101 rfl (lv_at hl 4 rfl) ?_
              refine nv_get S w (C := RX2) (T := TX2) (N := 6) hn_X2_readCell_2 0 rfl rfl 5 (by decide) (List.mem_of_getElem? (i := 2) rfl) (v := .ref qc) rfl dX2_readCell_102 ?_
              refine lv_iload_n S.1 S.2.1 dX2_readCell_105 rfl (lv_at hl 5 rfl) ?_
              refine lv_iload_n S.1 S.2.1 dX2_readCell_106 rfl (lv_at hl 3 rfl) ?_
              refine W.eq (g2 := F0 m 107 ls [vI ((rn (cx t n) i 61).1 - 1), vI x, .ref qc]) (by rw [sN (x := ((rn (cx t n) i 61).1)) (by omega)]) ?_
              refine lv_iload_n S.1 S.2.1 dX2_readCell_107 rfl (lv_at hl 2 rfl) ?_
              refine W.eq (g2 := F0 m 108 ls [vI ((rvo (cx t n) (rn (cx t n) i 61).2).1 - 1), vI ((rn (cx t n) i 61).1 - 1), vI x, .ref qc]) (by rw [sN (x := ((rvo (cx t n) ((rn (cx t n) i 61).2)).1)) (by omega)]) ?_
              refine lv_iload S.1 S.2.1 dX2_readCell_108 (lv_at hl 1 rfl) ?_
              refine lv_iload S.1 S.2.1 dX2_readCell_110 (lv_at hl 0 rfl) ?_
              refine nv_pSi (rest := [vI x, .ref qc]) S w hl.1 (c_X0_packed l D Z ((rn (cx t n) i 61).1 - 1) ((rvo (cx t n) (rn (cx t n) i 61).2).1 - 1) ((ref (cx t n) ((rvo (cx t n) ((rn (cx t n) i 61).2)).2)).1) ((cx t n ((ref (cx t n) ((rvo (cx t n) ((rn (cx t n) i 61).2)).2)).2)) - 49) (by omega)) gX2_readCell_X0_packed rfl hdS_X0_packed ⟨Nat.le_of_ble_eq_true rfl, Nat.le_of_ble_eq_true rfl⟩ rfl rfl (Nat.le_of_ble_eq_true rfl) ⟨Nat.zero_le _, Nat.zero_le _⟩ dX2_readCell_112 (fun H locs w => ?_)
              refine nv_iast S w (i := x) (x := (((rn (cx t n) i 61).1 - 1) + ((rvo (cx t n) (rn (cx t n) i 61).2).1 - 1) * 2 ^ 6 + ((ref (cx t n) ((rvo (cx t n) ((rn (cx t n) i 61).2)).2)).1) * 2 ^ 10 + ((cx t n ((ref (cx t n) ((rvo (cx t n) ((rn (cx t n) i 61).2)).2)).2)) - 49) * 2 ^ 13)) (g := (fun j => pk (k j))) 2 rfl (by omega) (by decide) (ws' := [(q, .inr (1, [.ref qb, vI n, vI (((ref (cx t n) ((rvo (cx t n) ((rn (cx t n) i 61).2)).2)).2) + 1), vI pa, vI ro, .ref qc])), (qb, .inl (Z 1, 100, .inl (ar 100 t))), (qc, .inl (Z 0, 32, .inl (ar 32 (un (fun j => pk (k j)) x (((rn (cx t n) i 61).1 - 1) + ((rvo (cx t n) (rn (cx t n) i 61).2).1 - 1) * 2 ^ 6 + ((ref (cx t n) ((rvo (cx t n) ((rn (cx t n) i 61).2)).2)).1) * 2 ^ 10 + ((cx t n ((ref (cx t n) ((rvo (cx t n) ((rn (cx t n) i 61).2)).2)).2)) - 49) * 2 ^ 13)))))]) rfl dX2_readCell_115 (fun H locs w => ?_)
              refine lv_iconst (v := nI 1) S.1 S.2.1 dX2_readCell_116 (ofInt_nI 1) ?_
              exact nv_iret S w hr hlocks (nI_bool (by decide)) (by have e9 : rce (cx t n) i = (1, (ref (cx t n) (rvo (cx t n) (rn (cx t n) i 61).2).2).2 + 1, cel ((rn (cx t n) i 61).1 - 1) ((rvo (cx t n) (rn (cx t n) i 61).2).1 - 1) (ref (cx t n) (rvo (cx t n) (rn (cx t n) i 61).2).2).1 (cx t n (ref (cx t n) (rvo (cx t n) (rn (cx t n) i 61).2).2).2 - 49)) := (by unfold rce; rw [if_neg (show ¬ cx t n i = 47 from h_1), if_neg h_2, if_neg h_3, if_neg h_4, if_pos h_6]); rw [e9]) (by have e9 : rce (cx t n) i = (1, (ref (cx t n) (rvo (cx t n) (rn (cx t n) i 61).2).2).2 + 1, cel ((rn (cx t n) i 61).1 - 1) ((rvo (cx t n) (rn (cx t n) i 61).2).1 - 1) (ref (cx t n) (rvo (cx t n) (rn (cx t n) i 61).2).2).1 (cx t n (ref (cx t n) (rvo (cx t n) (rn (cx t n) i 61).2).2).2 - 49)) := (by unfold rce; rw [if_neg (show ¬ cx t n i = 47 from h_1), if_neg h_2, if_neg h_3, if_neg h_4, if_pos h_6]); unfold kce; rw [e9]; show _ = ptB Z q qb qc n ((ref (cx t n) (rvo (cx t n) (rn (cx t n) i 61).2).2).2 + 1) pa ro t (if (1 : Nat) = 0 then k else uc k x (cel ((rn (cx t n) i 61).1 - 1) ((rvo (cx t n) (rn (cx t n) i 61).2).1 - 1) (ref (cx t n) (rvo (cx t n) (rn (cx t n) i 61).2).2).1 (cx t n (ref (cx t n) (rvo (cx t n) (rn (cx t n) i 61).2).2).2 - 49))); rw [if_neg (by decide)]; exact ptB_k (fun j hj => by simp only [un_at, uc]; split <;> (first | rfl | (simp only [pk, cel]; simp; omega)))) dX2_readCell_117
          · skip
            refine lv_iconst (v := nI 0) S.1 S.2.1 dX2_readCell_71 (ofInt_nI 0) ?_
            exact nv_iret S w hr hlocks (nI_bool (by decide)) (by have e9 : rce (cx t n) i = (0, (ref (cx t n) (rvo (cx t n) (rn (cx t n) i 61).2).2).2, eC) := (by unfold rce; rw [if_neg (show ¬ cx t n i = 47 from h_1), if_neg h_2, if_neg h_3, if_neg h_4, if_neg h_6]); rw [e9]) (by have e9 : rce (cx t n) i = (0, (ref (cx t n) (rvo (cx t n) (rn (cx t n) i 61).2).2).2, eC) := (by unfold rce; rw [if_neg (show ¬ cx t n i = 47 from h_1), if_neg h_2, if_neg h_3, if_neg h_4, if_neg h_6]); unfold kce; rw [e9]; show _ = ptB Z q qb qc n ((ref (cx t n) (rvo (cx t n) (rn (cx t n) i 61).2).2).2) pa ro t (if (0 : Nat) = 0 then k else _); rw [if_pos rfl]; try rfl) dX2_readCell_72
      · skip
        refine lv_iconst (v := nI 0) S.1 S.2.1 dX2_readCell_45 (ofInt_nI 0) ?_
        exact nv_iret S w hr hlocks (nI_bool (by decide)) (by have e9 : rce (cx t n) i = (0, (rvo (cx t n) (rn (cx t n) i 61).2).2, eC) := (by unfold rce; rw [if_neg (show ¬ cx t n i = 47 from h_1), if_neg h_2, if_pos h_3]); rw [e9]) (by have e9 : rce (cx t n) i = (0, (rvo (cx t n) (rn (cx t n) i 61).2).2, eC) := (by unfold rce; rw [if_neg (show ¬ cx t n i = 47 from h_1), if_neg h_2, if_pos h_3]); unfold kce; rw [e9]; show _ = ptB Z q qb qc n ((rvo (cx t n) (rn (cx t n) i 61).2).2) pa ro t (if (0 : Nat) = 0 then k else _); rw [if_pos rfl]; try rfl) dX2_readCell_46
    · skip
      refine lv_iconst (v := nI 0) S.1 S.2.1 dX2_readCell_33 (ofInt_nI 0) ?_
      exact nv_iret S w hr hlocks (nI_bool (by decide)) (by have e9 : rce (cx t n) i = (0, (rn (cx t n) i 61).2, eC) := (by unfold rce; rw [if_neg (show ¬ cx t n i = 47 from h_1), if_pos h_2]); rw [e9]) (by have e9 : rce (cx t n) i = (0, (rn (cx t n) i 61).2, eC) := (by unfold rce; rw [if_neg (show ¬ cx t n i = 47 from h_1), if_pos h_2]); unfold kce; rw [e9]; show _ = ptB Z q qb qc n ((rn (cx t n) i 61).2) pa ro t (if (0 : Nat) = 0 then k else _); rw [if_pos rfl]; try rfl) dX2_readCell_34
  · skip
    refine lv_aload_n S.1 S.2.1 dX2_readCell_9 rfl (lv_at hl 0 rfl) ?_
    refine lv_dup S.1 S.2.1 dX2_readCell_10 rfl ?_
    refine nv_get S w (C := RX2) (T := TX2) (N := 6) hn_X2_readCell_2 0 rfl rfl 2 (by decide) (List.mem_of_getElem? (i := 1) rfl) (v := vI i) rfl dX2_readCell_11 ?_
    refine lv_iconst (v := nI 1) S.1 S.2.1 dX2_readCell_14 (ofInt_nI 1) ?_
    refine nv_iadd S dX2_readCell_15 ?_
    refine nv_put S w (C := RX2) (T := TX2) (N := 6) hn_X2_readCell_2 tyX2_ok nmX2 0 rfl rfl 2 (by decide) (List.mem_of_getElem? (i := 1) rfl) rfl rfl (Nat.le_of_ble_eq_true rfl) (ws' := [(q, .inr (1, [.ref qb, vI n, vI (i + 1), vI pa, vI ro, .ref qc])), (qb, .inl (Z 1, 100, .inl (ar 100 t))), (qc, .inl (Z 0, 32, .inl (ar 32 (fun j => pk (k j)))))]) rfl dX2_readCell_16 (fun H locs w => ?_)
    refine lv_iconst (v := nI 1) S.1 S.2.1 dX2_readCell_19 (ofInt_nI 1) ?_
    exact nv_iret S w hr hlocks (nI_bool (by decide)) (by have e9 : rce (cx t n) i = (1, i + 1, eC) := (by unfold rce; rw [if_pos (show cx t n i = 47 from h_1)]); rw [e9]) (by have e9 : rce (cx t n) i = (1, i + 1, eC) := (by unfold rce; rw [if_pos (show cx t n i = 47 from h_1)]); unfold kce; rw [e9]; show _ = ptB Z q qb qc n (i + 1) pa ro t (if (1 : Nat) = 0 then k else uc k x eC); rw [if_neg (by decide), uc_same hk]; rfl) dX2_readCell_20

theorem hdV_X2_readCell : yX2_readCell.cls = RX2 ∧ yX2_readCell.cls ≠ "java/lang/invoke/MethodHandle" ∧ yX2_readCell.cls ≠ "java/lang/invoke/VarHandle" ∧ (parseMethodDescriptor yX2_readCell.desc).map (fun d => d.parameters.length) = some 1 := by decide +kernel
theorem hn_X2_readRow_2 : ∀ w ∈ wsX20, w ∈ wsX2_readRow := by decide +kernel
set_option maxRecDepth 100000 in
set_option maxHeartbeats 4000000 in
theorem k_X2_readRow (l : Launch) (D : va_G) (Z : Nat → ClassId) (q qb qc n i pa ro : Nat) (t : Nat → Nat) (k : Nat → Nat → Nat) (y : Nat) (ht : ∀ j, j < 100 → t j < 128) (hn : n ≤ 100) (hi : i ≤ 800) (hy : y < 8) (hk : ∀ j, y * 4 ≤ j → k j = eC) {p : Program} {e : Env} {s : State} {m : MethodId} {args : Array Value} {below : List Frame} {meth : Method} {c : Code} {A : Nat → Prop} (S : CallFix p m c cX2_readRow 3 s args wsX2_readRow RX2) (hr : meth.sig.returnType = (some .boolean)) (hlocks : meth.locks = false) : ∀ (n9 : Nat), (∀ (d i2 : Nat) (k2 : Nat → Nat → Nat) (hd4 : d < 4) (hi2 : i2 ≤ 800 + 8 * d) (hk2 : ∀ j, y * 4 + d ≤ j → k2 j = eC) (er : rro (cx t n) y 4 0 i k = rro (cx t n) y (4 - d) d i2 k2) (hm : 4 - d < n9), ∀ (H : Heap) (locs : List Loc) (ls : Array Slot) (hl : lv_has ls 3 [(0, .ref q), (1, vI y), (2, vI d)]) (w : Wd D Z A s (ptB Z q qb qc n i2 pa ro t k2) H locs), W p l e (rmO 4 88) s m args below meth c H locs 0 0 (Qi below D Z A args s (nI ((rro (cx t n) y 4 0 i k).1)) (ptB Z q qb qc n ((rro (cx t n) y 4 0 i k).2.1) pa ro t ((rro (cx t n) y 4 0 i k).2.2))) (F0 m 2 ls [])) := by
  intro n9
  induction n9 with
  | zero => intro d i2 k2 hd4 hi2 hk2 er hm; exact absurd hm (Nat.not_lt_zero _)
  | succ n9 ih =>
    skip
    · intro d i2 k2 hd4 hi2 hk2 er hm H locs ls hl w
      have hb9 := rce_b (c := cx t n) i2
      have hb1 := rce_1 (c := cx t n) i2
      have hc0 := cx_le (i := (rce (cx t n) i2).2.1) ht hn
      refine lv_iload_n S.1 S.2.1 dX2_readRow_2 rfl (lv_at hl 2 rfl) ?_
      refine lv_iconst (v := nI 4) S.1 S.2.1 dX2_readRow_3 (ofInt_nI 4) ?_
      refine nv_icmp_ge S (by omega) (by omega) (tgt := 53) dX2_readRow_4 (by decide) (fun h_1 => ?_) (fun h_1 => ?_)
      · skip
        exfalso; omega
      · skip
        refine lv_aload_n S.1 S.2.1 dX2_readRow_7 rfl (lv_at hl 0 rfl) ?_
        refine lv_iload_n S.1 S.2.1 dX2_readRow_8 rfl (lv_at hl 1 rfl) ?_
        refine lv_iconst (v := nI 4) S.1 S.2.1 dX2_readRow_9 (ofInt_nI 4) ?_
        refine nv_imul S dX2_readRow_10 ?_
        refine lv_iload_n S.1 S.2.1 dX2_readRow_11 rfl (lv_at hl 2 rfl) ?_
        refine nv_iadd S dX2_readRow_12 ?_
        refine nv_cVi (rest := []) (ws' := ptB Z q qb qc n ((rce (cx t n) i2).2.1) pa ro t (kce (cx t n) i2 ((y * 4) + d) k2)) S w hl.1 (c_X2_readCell l D Z q qb qc n i2 pa ro t k2 ((y * 4) + d) ht (by omega) (by omega) (by omega) (hk2 _ (Nat.le_refl _))) [0, 1, 2] rfl rfl rfl rfl gX2_readRow_X2_readCell rfl hdV_X2_readCell ⟨Nat.le_of_ble_eq_true rfl, Nat.le_of_ble_eq_true rfl⟩ (q0 := 0) rfl rfl rfl rfl (Nat.le_of_ble_eq_true rfl) ⟨Nat.zero_le _, Nat.zero_le _⟩ dX2_readRow_13 (fun H locs w => ?_)
        refine nv_if_ne S (by omega) (tgt := 21) dX2_readRow_16 (by decide) (fun h_2 => ?_) (fun h_2 => ?_)
        · skip
          refine lv_aload_n S.1 S.2.1 dX2_readRow_21 rfl (lv_at hl 0 rfl) ?_
          refine nv_rVi (rest := []) S w hl.1 (c_X2_next l D Z q qb qc n ((rce (cx t n) i2).2.1) pa ro t (kce (cx t n) i2 ((y * 4) + d) k2) ht (by omega) (by omega)) [0, 1, 2] rfl rfl gX2_readRow_X2_next rfl hdV_X2_next ⟨Nat.le_of_ble_eq_true rfl, Nat.le_of_ble_eq_true rfl⟩ (q0 := 0) rfl rfl rfl rfl (Nat.le_of_ble_eq_true rfl) ⟨Nat.zero_le _, Nat.zero_le _⟩ dX2_readRow_22 (fun H locs w => ?_)
          refine lv_bipush (v := nI 44) S.1 S.2.1 dX2_readRow_25 (by decide +kernel) ?_
          refine ns_icmp_ne S (by omega) (by omega) (tgt := 35) dX2_readRow_27 (by decide) (fun h_3 => ?_) (fun h_3 => ?_)
          · skip
            refine lv_iconst (v := nI 1) S.1 S.2.1 dX2_readRow_35 (ofInt_nI 1) ?_
            exact nv_iret S w hr hlocks (nI_bool (by decide)) (by have e9 : rro (cx t n) y (4 - d) d i2 k2 = (1, (rce (cx t n) i2).2.1, uc k2 (y * 4 + d) (rce (cx t n) i2).2.2) := (by rw [show 4 - d = (3 - d) + 1 by omega, rro, if_neg h_2, if_neg (fun z9 => h_3 z9.1)]); rw [er, e9]) (by have e9 : rro (cx t n) y (4 - d) d i2 k2 = (1, (rce (cx t n) i2).2.1, uc k2 (y * 4 + d) (rce (cx t n) i2).2.2) := (by rw [show 4 - d = (3 - d) + 1 by omega, rro, if_neg h_2, if_neg (fun z9 => h_3 z9.1)]); rw [er, e9]; rw [show kce (cx t n) i2 (y * 4 + d) k2 = uc k2 (y * 4 + d) (rce (cx t n) i2).2.2 from if_neg h_2]) dX2_readRow_36
          · skip
            refine lv_iload_n S.1 S.2.1 dX2_readRow_30 rfl (lv_at hl 2 rfl) ?_
            refine lv_iconst (v := nI 3) S.1 S.2.1 dX2_readRow_31 (ofInt_nI 3) ?_
            refine nv_icmp_ne S (by omega) (by omega) (tgt := 37) dX2_readRow_32 (by decide) (fun h_4 => ?_) (fun h_4 => ?_)
            · skip
              refine lv_aload_n S.1 S.2.1 dX2_readRow_37 rfl (lv_at hl 0 rfl) ?_
              refine lv_dup S.1 S.2.1 dX2_readRow_38 rfl ?_
              refine nv_get S w (C := RX2) (T := TX2) (N := 6) hn_X2_readRow_2 0 rfl rfl 2 (by decide) (List.mem_of_getElem? (i := 1) rfl) (v := vI ((rce (cx t n) i2).2.1)) rfl dX2_readRow_39 ?_
              refine lv_iconst (v := nI 1) S.1 S.2.1 dX2_readRow_42 (ofInt_nI 1) ?_
              refine nv_iadd S dX2_readRow_43 ?_
              refine nv_put S w (C := RX2) (T := TX2) (N := 6) hn_X2_readRow_2 tyX2_ok nmX2 0 rfl rfl 2 (by decide) (List.mem_of_getElem? (i := 1) rfl) rfl rfl (Nat.le_of_ble_eq_true rfl) (ws' := [(q, .inr (1, [.ref qb, vI n, vI (((rce (cx t n) i2).2.1) + 1), vI pa, vI ro, .ref qc])), (qb, .inl (Z 1, 100, .inl (ar 100 t))), (qc, .inl (Z 0, 32, .inl (ar 32 (fun j => pk ((kce (cx t n) i2 ((y * 4) + d) k2) j)))))]) rfl dX2_readRow_44 (fun H locs w => ?_)
              refine lv_iinc (v := nI (d + 1)) (lv' := [(2, vI (d + 1)), (0, .ref q), (1, vI y)]) S.1 S.2.1 dX2_readRow_47 hl (k := 2) rfl (nI_incI d 1) (by decide) rfl (fun ls hl => ?_)
              refine lv_goto (tgt := 2) S.1 S.2.1 dX2_readRow_50 (by decide) ?_
              have w := w.as (ws' := ptB Z q qb qc n (((rce (cx t n) i2).2.1) + 1) pa ro t (kce (cx t n) i2 ((y * 4) + d) k2)) (rfl)
              exact ih (d + 1) (((rce (cx t n) i2).2.1) + 1) (kce (cx t n) i2 ((y * 4) + d) k2) (by omega) (by omega) (fun j hj => (by rw [show kce (cx t n) i2 (y * 4 + d) k2 = uc k2 (y * 4 + d) (rce (cx t n) i2).2.2 from if_neg h_2]; unfold uc; rw [if_neg (by omega)]; exact hk2 j (by omega))) (by rw [er, show 4 - d = (3 - d) + 1 by omega, rro, if_neg h_2, if_pos ⟨h_3, h_4⟩, show 4 - (d + 1) = 3 - d by omega, show kce (cx t n) i2 (y * 4 + d) k2 = uc k2 (y * 4 + d) (rce (cx t n) i2).2.2 from if_neg h_2]) (by omega) _ _ _ (lv_sub hl [1, 2, 0] rfl) w
            · skip
              refine lv_iconst (v := nI 1) S.1 S.2.1 dX2_readRow_35 (ofInt_nI 1) ?_
              exact nv_iret S w hr hlocks (nI_bool (by decide)) (by have e9 : rro (cx t n) y (4 - d) d i2 k2 = (1, (rce (cx t n) i2).2.1, uc k2 (y * 4 + d) (rce (cx t n) i2).2.2) := (by rw [show 4 - d = (3 - d) + 1 by omega, rro, if_neg h_2, if_neg (fun z9 => z9.2 h_4)]); rw [er, e9]) (by have e9 : rro (cx t n) y (4 - d) d i2 k2 = (1, (rce (cx t n) i2).2.1, uc k2 (y * 4 + d) (rce (cx t n) i2).2.2) := (by rw [show 4 - d = (3 - d) + 1 by omega, rro, if_neg h_2, if_neg (fun z9 => z9.2 h_4)]); rw [er, e9]; rw [show kce (cx t n) i2 (y * 4 + d) k2 = uc k2 (y * 4 + d) (rce (cx t n) i2).2.2 from if_neg h_2]) dX2_readRow_36
        · skip
          refine lv_iconst (v := nI 0) S.1 S.2.1 dX2_readRow_19 (ofInt_nI 0) ?_
          exact nv_iret S w hr hlocks (nI_bool (by decide)) (by have e9 : rro (cx t n) y (4 - d) d i2 k2 = (0, (rce (cx t n) i2).2.1, k2) := (by rw [show 4 - d = (3 - d) + 1 by omega, rro, if_pos h_2]); rw [er, e9]) (by have e9 : rro (cx t n) y (4 - d) d i2 k2 = (0, (rce (cx t n) i2).2.1, k2) := (by rw [show 4 - d = (3 - d) + 1 by omega, rro, if_pos h_2]); rw [er, e9]; rw [show kce (cx t n) i2 (y * 4 + d) k2 = k2 from if_pos h_2]) dX2_readRow_20
set_option maxRecDepth 100000 in
set_option maxHeartbeats 4000000 in
theorem c_X2_readRow (l : Launch) (D : va_G) (Z : Nat → ClassId) (q qb qc n i pa ro : Nat) (t : Nat → Nat) (k : Nat → Nat → Nat) (y : Nat) (ht : ∀ j, j < 100 → t j < 128) (hn : n ≤ 100) (hi : i ≤ 800) (hy : y < 8) (hk : ∀ j, y * 4 ≤ j → k j = eC) : Ci l yX2_readRow wsX2_readRow 4 88 D Z [.ref q, vI y] (ptB Z q qb qc n i pa ro t k) (nI ((rro (cx t n) y 4 0 i k).1)) (ptB Z q qb qc n ((rro (cx t n) y 4 0 i k).2.1) pa ro t ((rro (cx t n) y 4 0 i k).2.2)) := by
  refine ne_i (cc := cX2_readRow) (maxL := 3) (by decide +kernel) rfl (Nat.le_of_ble_eq_true rfl) (fun p e s m args below meth c A ls (S : CallFix p m c cX2_readRow 3 s args wsX2_readRow RX2) hr hlocks hl w => ?_)
  have hl : lv_has ls 3 [(0, .ref q), (1, vI y)] := hl
  refine lv_iconst (v := nI 0) S.1 S.2.1 dX2_readRow_0 (ofInt_nI 0) ?_
  refine lv_istore_n (lv' := [(2, vI 0), (0, .ref q), (1, vI y)]) S.1 S.2.1 dX2_readRow_1 rfl hl (by decide) rfl (fun ls hl => ?_)
  exact k_X2_readRow l D Z q qb qc n i pa ro t k y ht hn hi hy hk S hr hlocks _ 0 i k (by omega) (by omega) hk rfl (Nat.lt_succ_self _) _ _ _ (lv_sub hl [1, 2, 0] rfl) w

/-- the head: whether it can stand, where, the pattern -/
def rhd (c : Nat → Nat) (pa : Nat) : Nat × Nat × Nat := if ¬ (49 ≤ c 0 ∧ c 0 < 55) then (0, 0, pa) else if c 1 ≠ 59 then (0, 1, c 0 - 49) else (1, 2, c 0 - 49)

theorem hn_X2_readHead_2 : ∀ w ∈ wsX20, w ∈ wsX2_readHead := by decide +kernel
set_option maxRecDepth 100000 in
set_option maxHeartbeats 4000000 in
theorem c_X2_readHead (l : Launch) (D : va_G) (Z : Nat → ClassId) (q qb qc n pa ro : Nat) (t : Nat → Nat) (k : Nat → Nat → Nat) (ht : ∀ j, j < 100 → t j < 128) (hn : n ≤ 100) : Ci l yX2_readHead wsX2_readHead 1 20 D Z [.ref q] (ptB Z q qb qc n 0 pa ro t k) (nI ((rhd (cx t n) pa).1)) (ptB Z q qb qc n ((rhd (cx t n) pa).2.1) ((rhd (cx t n) pa).2.2) ro t k) := by
  refine ne_i (cc := cX2_readHead) (maxL := 1) (by decide +kernel) rfl (Nat.le_of_ble_eq_true rfl) (fun p e s m args below meth c A ls (S : CallFix p m c cX2_readHead 1 s args wsX2_readHead RX2) hr hlocks hl w => ?_)
  have hc0 := cx_le (i := 0) ht hn
  have hc1 := cx_le (i := 1) ht hn
  have hl : lv_has ls 1 [(0, .ref q)] := hl
  refine lv_aload_n S.1 S.2.1 dX2_readHead_0 rfl (lv_at hl 0 rfl) ?_
  refine nv_rVi (rest := []) S w hl.1 (c_X2_next l D Z q qb qc n 0 pa ro t k ht (by omega) (by omega)) [0, 1, 2] rfl rfl gX2_readHead_X2_next rfl hdV_X2_next ⟨Nat.le_of_ble_eq_true rfl, Nat.le_of_ble_eq_true rfl⟩ (q0 := 0) rfl rfl rfl rfl (Nat.le_of_ble_eq_true rfl) ⟨Nat.zero_le _, Nat.zero_le _⟩ dX2_readHead_1 (fun H locs w => ?_)
  refine lv_bipush (v := nI 48) S.1 S.2.1 dX2_readHead_4 (by decide +kernel) ?_
  refine ns_icmp_lt S (by omega) (by omega) (tgt := 18) dX2_readHead_6 (by decide) (fun h_1 => ?_) (fun h_1 => ?_)
  · skip
    refine lv_iconst (v := nI 0) S.1 S.2.1 dX2_readHead_18 (ofInt_nI 0) ?_
    exact nv_iret S w hr hlocks (nI_bool (by decide)) (by unfold rhd; rw [if_pos (by omega)]) (by unfold rhd; rw [if_pos (by omega)]) dX2_readHead_19
  · skip
    refine lv_aload_n S.1 S.2.1 dX2_readHead_9 rfl (lv_at hl 0 rfl) ?_
    refine nv_rVi (rest := []) S w hl.1 (c_X2_next l D Z q qb qc n 0 pa ro t k ht (by omega) (by omega)) [0, 1, 2] rfl rfl gX2_readHead_X2_next rfl hdV_X2_next ⟨Nat.le_of_ble_eq_true rfl, Nat.le_of_ble_eq_true rfl⟩ (q0 := 0) rfl rfl rfl rfl (Nat.le_of_ble_eq_true rfl) ⟨Nat.zero_le _, Nat.zero_le _⟩ dX2_readHead_10 (fun H locs w => ?_)
    refine lv_bipush (v := nI 54) S.1 S.2.1 dX2_readHead_13 (by decide +kernel) ?_
    refine ns_icmp_lt S (by omega) (by omega) (tgt := 20) dX2_readHead_15 (by decide) (fun h_2 => ?_) (fun h_2 => ?_)
    · skip
      refine lv_aload_n S.1 S.2.1 dX2_readHead_20 rfl (lv_at hl 0 rfl) ?_
      refine lv_aload_n S.1 S.2.1 dX2_readHead_21 rfl (lv_at hl 0 rfl) ?_
      refine nv_rVi (rest := [.ref q]) S w hl.1 (c_X2_next l D Z q qb qc n 0 pa ro t k ht (by omega) (by omega)) [0, 1, 2] rfl rfl gX2_readHead_X2_next rfl hdV_X2_next ⟨Nat.le_of_ble_eq_true rfl, Nat.le_of_ble_eq_true rfl⟩ (q0 := 0) rfl rfl rfl rfl (Nat.le_of_ble_eq_true rfl) ⟨Nat.zero_le _, Nat.zero_le _⟩ dX2_readHead_22 (fun H locs w => ?_)
      refine lv_bipush (v := nI 48) S.1 S.2.1 dX2_readHead_25 (by decide +kernel) ?_
      refine ns_isub S (by omega) dX2_readHead_27 ?_
      refine W.eq (g2 := F0 m 28 ls [vI ((cx t n 0) - 49), .ref q]) rfl ?_
      refine nv_put S w (C := RX2) (T := TX2) (N := 6) hn_X2_readHead_2 tyX2_ok nmX2 0 rfl rfl 3 (by decide) (List.mem_of_getElem? (i := 1) rfl) rfl rfl (Nat.le_of_ble_eq_true rfl) (ws' := [(q, .inr (1, [.ref qb, vI n, vI 0, vI ((cx t n 0) - 49), vI ro, .ref qc])), (qb, .inl (Z 1, 100, .inl (ar 100 t))), (qc, .inl (Z 0, 32, .inl (ar 32 (fun j => pk (k j)))))]) rfl dX2_readHead_28 (fun H locs w => ?_)
      refine lv_aload_n S.1 S.2.1 dX2_readHead_31 rfl (lv_at hl 0 rfl) ?_
      refine lv_dup S.1 S.2.1 dX2_readHead_32 rfl ?_
      refine nv_get S w (C := RX2) (T := TX2) (N := 6) hn_X2_readHead_2 0 rfl rfl 2 (by decide) (List.mem_of_getElem? (i := 2) rfl) (v := vI 0) rfl dX2_readHead_33 ?_
      refine lv_iconst (v := nI 1) S.1 S.2.1 dX2_readHead_36 (ofInt_nI 1) ?_
      refine nv_iadd S dX2_readHead_37 ?_
      refine W.eq (g2 := F0 m 38 ls [vI 1, .ref q]) rfl ?_
      refine nv_put S w (C := RX2) (T := TX2) (N := 6) hn_X2_readHead_2 tyX2_ok nmX2 0 rfl rfl 2 (by decide) (List.mem_of_getElem? (i := 2) rfl) rfl rfl (Nat.le_of_ble_eq_true rfl) (ws' := [(q, .inr (1, [.ref qb, vI n, vI 1, vI ((cx t n 0) - 49), vI ro, .ref qc])), (qb, .inl (Z 1, 100, .inl (ar 100 t))), (qc, .inl (Z 0, 32, .inl (ar 32 (fun j => pk (k j)))))]) rfl dX2_readHead_38 (fun H locs w => ?_)
      refine lv_aload_n S.1 S.2.1 dX2_readHead_41 rfl (lv_at hl 0 rfl) ?_
      have w := w.as (ws' := ptB Z q qb qc n 1 ((cx t n 0) - 49) ro t k) (rfl)
      refine nv_rVi (rest := []) S w hl.1 (c_X2_next l D Z q qb qc n 1 ((cx t n 0) - 49) ro t k ht (by omega) (by omega)) [0, 1, 2] rfl rfl gX2_readHead_X2_next rfl hdV_X2_next ⟨Nat.le_of_ble_eq_true rfl, Nat.le_of_ble_eq_true rfl⟩ (q0 := 0) rfl rfl rfl rfl (Nat.le_of_ble_eq_true rfl) ⟨Nat.zero_le _, Nat.zero_le _⟩ dX2_readHead_42 (fun H locs w => ?_)
      refine lv_bipush (v := nI 58) S.1 S.2.1 dX2_readHead_45 (by decide +kernel) ?_
      refine ns_icmp_eq S (by omega) (by omega) (tgt := 52) dX2_readHead_47 (by decide) (fun h_3 => ?_) (fun h_3 => ?_)
      · skip
        refine lv_aload_n S.1 S.2.1 dX2_readHead_52 rfl (lv_at hl 0 rfl) ?_
        refine lv_dup S.1 S.2.1 dX2_readHead_53 rfl ?_
        refine nv_get S w (C := RX2) (T := TX2) (N := 6) hn_X2_readHead_2 0 rfl rfl 2 (by decide) (List.mem_of_getElem? (i := 2) rfl) (v := vI 1) rfl dX2_readHead_54 ?_
        refine lv_iconst (v := nI 1) S.1 S.2.1 dX2_readHead_57 (ofInt_nI 1) ?_
        refine nv_iadd S dX2_readHead_58 ?_
        refine W.eq (g2 := F0 m 59 ls [vI 2, .ref q]) rfl ?_
        refine nv_put S w (C := RX2) (T := TX2) (N := 6) hn_X2_readHead_2 tyX2_ok nmX2 0 rfl rfl 2 (by decide) (List.mem_of_getElem? (i := 2) rfl) rfl rfl (Nat.le_of_ble_eq_true rfl) (ws' := [(q, .inr (1, [.ref qb, vI n, vI 2, vI ((cx t n 0) - 49), vI ro, .ref qc])), (qb, .inl (Z 1, 100, .inl (ar 100 t))), (qc, .inl (Z 0, 32, .inl (ar 32 (fun j => pk (k j)))))]) rfl dX2_readHead_59 (fun H locs w => ?_)
        refine lv_iconst (v := nI 1) S.1 S.2.1 dX2_readHead_62 (ofInt_nI 1) ?_
        exact nv_iret S w hr hlocks (nI_bool (by decide)) (by unfold rhd; rw [if_neg (by omega), if_neg (fun z9 => z9 h_3)]) (by unfold rhd; rw [if_neg (by omega), if_neg (fun z9 => z9 h_3)]; try rfl) dX2_readHead_63
      · skip
        refine lv_iconst (v := nI 0) S.1 S.2.1 dX2_readHead_50 (ofInt_nI 0) ?_
        exact nv_iret S w hr hlocks (nI_bool (by decide)) (by unfold rhd; rw [if_neg (by omega), if_pos (show cx t n 1 ≠ 59 from h_3)]) (by unfold rhd; rw [if_neg (by omega), if_pos (show cx t n 1 ≠ 59 from h_3)]; try rfl) dX2_readHead_51
    · skip
      refine lv_iconst (v := nI 0) S.1 S.2.1 dX2_readHead_18 (ofInt_nI 0) ?_
      exact nv_iret S w hr hlocks (nI_bool (by decide)) (by unfold rhd; rw [if_pos (by omega)]) (by unfold rhd; rw [if_pos (by omega)]) dX2_readHead_19

/-- the whole text: whether it can stand, where, the pattern, the rows (0: those from before), the cells -/
def rtd (c : Nat → Nat) (pa ro : Nat) : Nat × Nat × Nat × Nat × (Nat → Nat → Nat) :=
  if (rhd c pa).1 = 0 then (0, (rhd c pa).2.1, (rhd c pa).2.2, ro, fun _ => eC)
  else ((rrs c 8 0 2 (fun _ => eC)).1, (rrs c 8 0 2 (fun _ => eC)).2.1, c 0 - 49, if (rrs c 8 0 2 (fun _ => eC)).1 = 0 then ro else (rrs c 8 0 2 (fun _ => eC)).2.2.1, (rrs c 8 0 2 (fun _ => eC)).2.2.2)
theorem rhd_1 {c : Nat → Nat} {pa : Nat} : (rhd c pa).1 ≤ 1 := by
  unfold rhd
  repeat' split
  all_goals (dsimp only; omega)
theorem rhd_ok {c : Nat → Nat} {pa : Nat} (h : (rhd c pa).1 ≠ 0) : rhd c pa = (1, 2, c 0 - 49) := by
  revert h
  unfold rhd
  split
  · intro h; exact absurd rfl h
  · split
    · intro h; exact absurd rfl h
    · intro _; rfl
def fE (k : Nat → Nat → Nat) (i : Nat) : Nat → Nat → Nat := fun j => if j < i then eC else k j
theorem fE_s {k : Nat → Nat → Nat} {i : Nat} : uc (fE k i) i eC = fE k (i + 1) := by
  funext j
  unfold uc fE
  by_cases h : j = i
  · rw [if_pos h, if_pos (by omega)]
  · rw [if_neg h]
    by_cases h2 : j < i
    · rw [if_pos h2, if_pos (by omega)]
    · rw [if_neg h2, if_neg (by omega)]

theorem hdV_X2_readRow : yX2_readRow.cls = RX2 ∧ yX2_readRow.cls ≠ "java/lang/invoke/MethodHandle" ∧ yX2_readRow.cls ≠ "java/lang/invoke/VarHandle" ∧ (parseMethodDescriptor yX2_readRow.desc).map (fun d => d.parameters.length) = some 1 := by decide +kernel
theorem hn_X2_read_2 : ∀ w ∈ wsX20, w ∈ wsX2_read := by decide +kernel
theorem hdV_X2_readHead : yX2_readHead.cls = RX2 ∧ yX2_readHead.cls ≠ "java/lang/invoke/MethodHandle" ∧ yX2_readHead.cls ≠ "java/lang/invoke/VarHandle" ∧ (parseMethodDescriptor yX2_readHead.desc).map (fun d => d.parameters.length) = some 0 := by decide +kernel
set_option maxRecDepth 100000 in
set_option maxHeartbeats 4000000 in
theorem k_X2_read (l : Launch) (D : va_G) (Z : Nat → ClassId) (q qb qc n i pa ro : Nat) (t : Nat → Nat) (k : Nat → Nat → Nat) (ht : ∀ j, j < 100 → t j < 128) (hn : n ≤ 100) (hi : i ≤ 1000) {p : Program} {e : Env} {s : State} {m : MethodId} {args : Array Value} {below : List Frame} {meth : Method} {c : Code} {A : Nat → Prop} (S : CallFix p m c cX2_read 2 s args wsX2_read RX2) (hr : meth.sig.returnType = (some .boolean)) (hlocks : meth.locks = false) : ∀ (n9 : Nat), (∀ (r i2 : Nat) (k2 : Nat → Nat → Nat) (hr8 : r < 8) (hi2 : i2 ≤ 2 + 33 * r) (hk2 : ∀ j, r * 4 ≤ j → k2 j = eC) (h0 : ¬ (rhd (cx t n) pa).1 = 0) (er : rrs (cx t n) 8 0 2 (fun _ => eC) = rrs (cx t n) (8 - r) r i2 k2) (hm : 8 - r < n9), ∀ (H : Heap) (locs : List Loc) (ls : Array Slot) (hl : lv_has ls 2 [(0, .ref q), (1, vI r)]) (w : Wd D Z A s (ptB Z q qb qc n i2 (cx t n 0 - 49) ro t k2) H locs), W p l e (rmO 5 110) s m args below meth c H locs 0 0 (Qi below D Z A args s (nI ((rtd (cx t n) pa ro).1)) (ptB Z q qb qc n ((rtd (cx t n) pa ro).2.1) ((rtd (cx t n) pa ro).2.2.1) ((rtd (cx t n) pa ro).2.2.2.1) t ((rtd (cx t n) pa ro).2.2.2.2))) (F0 m 42 ls [])) ∧ (∀ (z : Nat) (hj : z ≤ 32) (hm : 1000 - z < n9), ∀ (H : Heap) (locs : List Loc) (ls : Array Slot) (hl : lv_has ls 2 [(0, .ref q), (1, vI z)]) (w : Wd D Z A s (ptB Z q qb qc n i pa ro t (fE k z)) H locs), W p l e (rmO 5 110) s m args below meth c H locs 0 0 (Qi below D Z A args s (nI ((rtd (cx t n) pa ro).1)) (ptB Z q qb qc n ((rtd (cx t n) pa ro).2.1) ((rtd (cx t n) pa ro).2.2.1) ((rtd (cx t n) pa ro).2.2.2.1) t ((rtd (cx t n) pa ro).2.2.2.2))) (F0 m 2 ls [])) := by
  intro n9
  have hh1 := rhd_1 (c := cx t n) (pa := pa)
  induction n9 with
  | zero => exact ⟨fun r i2 k2 hr8 hi2 hk2 h0 er hm => absurd hm (Nat.not_lt_zero _), fun z hj hm => absurd hm (Nat.not_lt_zero _)⟩
  | succ n9 ih =>
    refine ⟨?_, ?_⟩
    · intro r i2 k2 hr8 hi2 hk2 h0 er hm H locs ls hl w
      have hb9 := rro_b (c := cx t n) r 4 0 i2 k2
      have hb1 := rro_1 (c := cx t n) r 4 0 i2 k2
      have hc0 := cx_le (i := (rro (cx t n) r 4 0 i2 k2).2.1) ht hn
      have hbp : (rro (cx t n) r 4 0 i2 k2).2.1 ≤ i2 + 32 := rro_p (cx t n) r 4 0 i2 k2
      refine lv_iload_n S.1 S.2.1 dX2_read_42 rfl (lv_at hl 1 rfl) ?_
      refine lv_bipush (v := nI 8) S.1 S.2.1 dX2_read_43 (by decide +kernel) ?_
      refine nv_icmp_ge S (by omega) (by omega) (tgt := 108) dX2_read_45 (by decide) (fun h_1 => ?_) (fun h_1 => ?_)
      · skip
        exfalso; omega
      · skip
        refine lv_aload_n S.1 S.2.1 dX2_read_48 rfl (lv_at hl 0 rfl) ?_
        refine lv_iload_n S.1 S.2.1 dX2_read_49 rfl (lv_at hl 1 rfl) ?_
        refine nv_cVi (rest := []) (ws' := ptB Z q qb qc n ((rro (cx t n) r 4 0 i2 k2).2.1) (cx t n 0 - 49) ro t ((rro (cx t n) r 4 0 i2 k2).2.2)) S w hl.1 (c_X2_readRow l D Z q qb qc n i2 (cx t n 0 - 49) ro t k2 r ht (by omega) (by omega) (by omega) hk2) [0, 1, 2] rfl rfl rfl rfl gX2_read_X2_readRow rfl hdV_X2_readRow ⟨Nat.le_of_ble_eq_true rfl, Nat.le_of_ble_eq_true rfl⟩ (q0 := 0) rfl rfl rfl rfl (Nat.le_of_ble_eq_true rfl) ⟨Nat.zero_le _, Nat.zero_le _⟩ dX2_read_50 (fun H locs w => ?_)
        refine nv_if_ne S (by omega) (tgt := 58) dX2_read_53 (by decide) (fun h_2 => ?_) (fun h_2 => ?_)
        · skip
          refine lv_aload_n S.1 S.2.1 dX2_read_58 rfl (lv_at hl 0 rfl) ?_
          refine nv_rVi (rest := []) S w hl.1 (c_X2_next l D Z q qb qc n ((rro (cx t n) r 4 0 i2 k2).2.1) (cx t n 0 - 49) ro t ((rro (cx t n) r 4 0 i2 k2).2.2) ht (by omega) (by omega)) [0, 1, 2] rfl rfl gX2_read_X2_next rfl hdV_X2_next ⟨Nat.le_of_ble_eq_true rfl, Nat.le_of_ble_eq_true rfl⟩ (q0 := 0) rfl rfl rfl rfl (Nat.le_of_ble_eq_true rfl) ⟨Nat.zero_le _, Nat.zero_le _⟩ dX2_read_59 (fun H locs w => ?_)
          refine lv_iconst (v := -1) S.1 S.2.1 dX2_read_62 (by decide +kernel) ?_
          refine W.eq (g2 := F0 m 63 ls [sI 0, sI (cx t n ((rro (cx t n) r 4 0 i2 k2).2.1))]) (by rw [← s0]) ?_
          refine ns_icmp_neS S (by omega) (by omega) (tgt := 75) dX2_read_63 (by decide) (fun h_3 => ?_) (fun h_3 => ?_)
          · skip
            refine lv_aload_n S.1 S.2.1 dX2_read_75 rfl (lv_at hl 0 rfl) ?_
            refine nv_rVi (rest := []) S w hl.1 (c_X2_next l D Z q qb qc n ((rro (cx t n) r 4 0 i2 k2).2.1) (cx t n 0 - 49) ro t ((rro (cx t n) r 4 0 i2 k2).2.2) ht (by omega) (by omega)) [0, 1, 2] rfl rfl gX2_read_X2_next rfl hdV_X2_next ⟨Nat.le_of_ble_eq_true rfl, Nat.le_of_ble_eq_true rfl⟩ (q0 := 0) rfl rfl rfl rfl (Nat.le_of_ble_eq_true rfl) ⟨Nat.zero_le _, Nat.zero_le _⟩ dX2_read_76 (fun H locs w => ?_)
            refine lv_bipush (v := nI 47) S.1 S.2.1 dX2_read_79 (by decide +kernel) ?_
            refine ns_icmp_ne S (by omega) (by omega) (tgt := 90) dX2_read_81 (by decide) (fun h_4 => ?_) (fun h_4 => ?_)
            · skip
              refine lv_iconst (v := nI 0) S.1 S.2.1 dX2_read_90 (ofInt_nI 0) ?_
              exact nv_iret S w hr hlocks (nI_bool (by decide)) (by have e9 : rrs (cx t n) (8 - r) r i2 k2 = (0, (rro (cx t n) r 4 0 i2 k2).2.1, 0, (rro (cx t n) r 4 0 i2 k2).2.2) := (by rw [show 8 - r = (7 - r) + 1 by omega, rrs, if_neg h_2, if_neg h_3, if_neg (fun z9 => h_4 z9.1)]); unfold rtd; rw [if_neg h0, er, e9]) (by have e9 : rrs (cx t n) (8 - r) r i2 k2 = (0, (rro (cx t n) r 4 0 i2 k2).2.1, 0, (rro (cx t n) r 4 0 i2 k2).2.2) := (by rw [show 8 - r = (7 - r) + 1 by omega, rrs, if_neg h_2, if_neg h_3, if_neg (fun z9 => h_4 z9.1)]); unfold rtd; rw [if_neg h0, er, e9]; try rfl) dX2_read_91
            · skip
              refine lv_iload_n S.1 S.2.1 dX2_read_84 rfl (lv_at hl 1 rfl) ?_
              refine lv_bipush (v := nI 7) S.1 S.2.1 dX2_read_85 (by decide +kernel) ?_
              refine nv_icmp_ne S (by omega) (by omega) (tgt := 92) dX2_read_87 (by decide) (fun h_5 => ?_) (fun h_5 => ?_)
              · skip
                refine lv_aload_n S.1 S.2.1 dX2_read_92 rfl (lv_at hl 0 rfl) ?_
                refine lv_dup S.1 S.2.1 dX2_read_93 rfl ?_
                refine nv_get S w (C := RX2) (T := TX2) (N := 6) hn_X2_read_2 0 rfl rfl 2 (by decide) (List.mem_of_getElem? (i := 2) rfl) (v := vI ((rro (cx t n) r 4 0 i2 k2).2.1)) rfl dX2_read_94 ?_
                refine lv_iconst (v := nI 1) S.1 S.2.1 dX2_read_97 (ofInt_nI 1) ?_
                refine nv_iadd S dX2_read_98 ?_
                refine nv_put S w (C := RX2) (T := TX2) (N := 6) hn_X2_read_2 tyX2_ok nmX2 0 rfl rfl 2 (by decide) (List.mem_of_getElem? (i := 2) rfl) rfl rfl (Nat.le_of_ble_eq_true rfl) (ws' := [(q, .inr (1, [.ref qb, vI n, vI (((rro (cx t n) r 4 0 i2 k2).2.1) + 1), vI (cx t n 0 - 49), vI ro, .ref qc])), (qb, .inl (Z 1, 100, .inl (ar 100 t))), (qc, .inl (Z 0, 32, .inl (ar 32 (fun j => pk (((rro (cx t n) r 4 0 i2 k2).2.2) j)))))]) rfl dX2_read_99 (fun H locs w => ?_)
                refine lv_iinc (v := nI (r + 1)) (lv' := [(1, vI (r + 1)), (0, .ref q)]) S.1 S.2.1 dX2_read_102 hl (k := 1) rfl (nI_incI r 1) (by decide) rfl (fun ls hl => ?_)
                refine lv_goto (tgt := 42) S.1 S.2.1 dX2_read_105 (by decide) ?_
                have w := w.as (ws' := ptB Z q qb qc n (((rro (cx t n) r 4 0 i2 k2).2.1) + 1) (cx t n 0 - 49) ro t ((rro (cx t n) r 4 0 i2 k2).2.2)) (rfl)
                exact (ih).1 (r + 1) (((rro (cx t n) r 4 0 i2 k2).2.1) + 1) ((rro (cx t n) r 4 0 i2 k2).2.2) (by omega) (by omega) (fun j hj => (rro_k (c := cx t n) r 4 0 i2 k2 (by decide) j (by omega)).trans (hk2 j (by omega))) h0 (by rw [er, show 8 - r = (7 - r) + 1 by omega, rrs, if_neg h_2, if_neg h_3, if_pos ⟨h_4, h_5⟩, show 8 - (r + 1) = 7 - r by omega]) (by omega) _ _ _ (lv_sub hl [1, 0] rfl) w
              · skip
                refine lv_iconst (v := nI 0) S.1 S.2.1 dX2_read_90 (ofInt_nI 0) ?_
                exact nv_iret S w hr hlocks (nI_bool (by decide)) (by have e9 : rrs (cx t n) (8 - r) r i2 k2 = (0, (rro (cx t n) r 4 0 i2 k2).2.1, 0, (rro (cx t n) r 4 0 i2 k2).2.2) := (by rw [show 8 - r = (7 - r) + 1 by omega, rrs, if_neg h_2, if_neg h_3, if_neg (fun z9 => z9.2 h_5)]); unfold rtd; rw [if_neg h0, er, e9]) (by have e9 : rrs (cx t n) (8 - r) r i2 k2 = (0, (rro (cx t n) r 4 0 i2 k2).2.1, 0, (rro (cx t n) r 4 0 i2 k2).2.2) := (by rw [show 8 - r = (7 - r) + 1 by omega, rrs, if_neg h_2, if_neg h_3, if_neg (fun z9 => z9.2 h_5)]); unfold rtd; rw [if_neg h0, er, e9]; try rfl) dX2_read_91
          · skip
            refine lv_aload_n S.1 S.2.1 dX2_read_66 rfl (lv_at hl 0 rfl) ?_
            refine lv_iload_n S.1 S.2.1 dX2_read_67 rfl (lv_at hl 1 rfl) ?_
            refine lv_iconst (v := nI 1) S.1 S.2.1 dX2_read_68 (ofInt_nI 1) ?_
            refine nv_iadd S dX2_read_69 ?_
            refine nv_put S w (C := RX2) (T := TX2) (N := 6) hn_X2_read_2 tyX2_ok nmX2 0 rfl rfl 4 (by decide) (List.mem_of_getElem? (i := 3) rfl) rfl rfl (Nat.le_of_ble_eq_true rfl) (ws' := [(q, .inr (1, [.ref qb, vI n, vI ((rro (cx t n) r 4 0 i2 k2).2.1), vI (cx t n 0 - 49), vI (r + 1), .ref qc])), (qb, .inl (Z 1, 100, .inl (ar 100 t))), (qc, .inl (Z 0, 32, .inl (ar 32 (fun j => pk (((rro (cx t n) r 4 0 i2 k2).2.2) j)))))]) rfl dX2_read_70 (fun H locs w => ?_)
            refine lv_iconst (v := nI 1) S.1 S.2.1 dX2_read_73 (ofInt_nI 1) ?_
            exact nv_iret S w hr hlocks (nI_bool (by decide)) (by have e9 : rrs (cx t n) (8 - r) r i2 k2 = (1, (rro (cx t n) r 4 0 i2 k2).2.1, r + 1, (rro (cx t n) r 4 0 i2 k2).2.2) := (by rw [show 8 - r = (7 - r) + 1 by omega, rrs, if_neg h_2, if_pos h_3]); unfold rtd; rw [if_neg h0, er, e9]) (by have e9 : rrs (cx t n) (8 - r) r i2 k2 = (1, (rro (cx t n) r 4 0 i2 k2).2.1, r + 1, (rro (cx t n) r 4 0 i2 k2).2.2) := (by rw [show 8 - r = (7 - r) + 1 by omega, rrs, if_neg h_2, if_pos h_3]); unfold rtd; rw [if_neg h0, er, e9]; try rfl) dX2_read_74
        · skip
          refine lv_iconst (v := nI 0) S.1 S.2.1 dX2_read_56 (ofInt_nI 0) ?_
          exact nv_iret S w hr hlocks (nI_bool (by decide)) (by have e9 : rrs (cx t n) (8 - r) r i2 k2 = (0, (rro (cx t n) r 4 0 i2 k2).2.1, 0, (rro (cx t n) r 4 0 i2 k2).2.2) := (by rw [show 8 - r = (7 - r) + 1 by omega, rrs, if_pos h_2]); unfold rtd; rw [if_neg h0, er, e9]) (by have e9 : rrs (cx t n) (8 - r) r i2 k2 = (0, (rro (cx t n) r 4 0 i2 k2).2.1, 0, (rro (cx t n) r 4 0 i2 k2).2.2) := (by rw [show 8 - r = (7 - r) + 1 by omega, rrs, if_pos h_2]); unfold rtd; rw [if_neg h0, er, e9]; try rfl) dX2_read_57
    · intro z hj hm H locs ls hl w
      refine lv_iload_n S.1 S.2.1 dX2_read_2 rfl (lv_at hl 1 rfl) ?_
      refine lv_aload_n S.1 S.2.1 dX2_read_3 rfl (lv_at hl 0 rfl) ?_
      refine nv_get S w (C := RX2) (T := TX2) (N := 6) hn_X2_read_2 0 rfl rfl 5 (by decide) (List.mem_of_getElem? (i := 1) rfl) (v := .ref qc) rfl dX2_read_4 ?_
      refine nv_alen S w 2 0 rfl rfl (n := 32) rfl dX2_read_7 ?_
      refine nv_icmp_ge S (by omega) (by omega) (tgt := 26) dX2_read_8 (by decide) (fun h_6 => ?_) (fun h_6 => ?_)
      · skip
        refine lv_aload_n S.1 S.2.1 dX2_read_26 rfl (lv_at hl 0 rfl) ?_
        refine lv_iconst (v := nI 0) S.1 S.2.1 dX2_read_27 (ofInt_nI 0) ?_
        refine nv_put S w (C := RX2) (T := TX2) (N := 6) hn_X2_read_2 tyX2_ok nmX2 0 rfl rfl 2 (by decide) (List.mem_of_getElem? (i := 2) rfl) rfl rfl (Nat.le_of_ble_eq_true rfl) (ws' := [(q, .inr (1, [.ref qb, vI n, vI 0, vI pa, vI ro, .ref qc])), (qb, .inl (Z 1, 100, .inl (ar 100 t))), (qc, .inl (Z 0, 32, .inl (ar 32 (fun j => pk ((fE k z) j)))))]) rfl dX2_read_28 (fun H locs w => ?_)
        refine lv_aload_n S.1 S.2.1 dX2_read_31 rfl (lv_at hl 0 rfl) ?_
        have w := w.as (ws' := ptB Z q qb qc n 0 pa ro t (fE k z)) (rfl)
        refine nv_cVi (rest := []) (ws' := ptB Z q qb qc n ((rhd (cx t n) pa).2.1) ((rhd (cx t n) pa).2.2) ro t (fE k z)) S w hl.1 (c_X2_readHead l D Z q qb qc n pa ro t (fE k z) ht (by omega)) [0, 1, 2] rfl rfl rfl rfl gX2_read_X2_readHead rfl hdV_X2_readHead ⟨Nat.le_of_ble_eq_true rfl, Nat.le_of_ble_eq_true rfl⟩ (q0 := 0) rfl rfl rfl rfl (Nat.le_of_ble_eq_true rfl) ⟨Nat.zero_le _, Nat.zero_le _⟩ dX2_read_32 (fun H locs w => ?_)
        refine nv_if_ne S (by omega) (tgt := 40) dX2_read_35 (by decide) (fun h_7 => ?_) (fun h_7 => ?_)
        · skip
          have w := w.as (ws' := ptB Z q qb qc n 2 (cx t n 0 - 49) ro t (fun _ => eC)) (by rw [rhd_ok h_7]; exact ptB_k (fun j9 hj9 => by unfold fE; rw [if_pos (by omega)]))
          refine lv_iconst (v := nI 0) S.1 S.2.1 dX2_read_40 (ofInt_nI 0) ?_
          refine lv_istore_n (lv' := [(1, vI 0), (0, .ref q)]) S.1 S.2.1 dX2_read_41 rfl hl (by decide) rfl (fun ls hl => ?_)
          exact (ih).1 0 2 (fun _ => eC) (by omega) (by omega) (fun j _ => rfl) h_7 rfl (by omega) _ _ _ (lv_sub hl [1, 0] rfl) w
        · skip
          refine lv_iconst (v := nI 0) S.1 S.2.1 dX2_read_38 (ofInt_nI 0) ?_
          exact nv_iret S w hr hlocks (nI_bool (by decide)) (by unfold rtd; rw [if_pos h_7]; try rfl) (by unfold rtd; rw [if_pos h_7]; exact ptB_k (fun j9 hj9 => by unfold fE; rw [if_pos (by omega)])) dX2_read_39
      · skip
        refine lv_aload_n S.1 S.2.1 dX2_read_11 rfl (lv_at hl 0 rfl) ?_
        refine nv_get S w (C := RX2) (T := TX2) (N := 6) hn_X2_read_2 0 rfl rfl 5 (by decide) (List.mem_of_getElem? (i := 1) rfl) (v := .ref qc) rfl dX2_read_12 ?_
        refine lv_iload_n S.1 S.2.1 dX2_read_15 rfl (lv_at hl 1 rfl) ?_
        refine lv_sipush (v := nI 960) S.1 S.2.1 dX2_read_16 (by decide +kernel) ?_
        refine nv_iast S w (i := z) (x := 960) (g := (fun j => pk ((fE k z) j))) 2 rfl (by omega) (by decide) (ws' := [(q, .inr (1, [.ref qb, vI n, vI i, vI pa, vI ro, .ref qc])), (qb, .inl (Z 1, 100, .inl (ar 100 t))), (qc, .inl (Z 0, 32, .inl (ar 32 (un (fun j => pk ((fE k z) j)) z 960))))]) rfl dX2_read_19 (fun H locs w => ?_)
        refine lv_iinc (v := nI (z + 1)) (lv' := [(1, vI (z + 1)), (0, .ref q)]) S.1 S.2.1 dX2_read_20 hl (k := 1) rfl (nI_incI z 1) (by decide) rfl (fun ls hl => ?_)
        refine lv_goto (tgt := 2) S.1 S.2.1 dX2_read_23 (by decide) ?_
        exact (ih).2 (z + 1) (by omega) (by omega) _ _ _ (lv_sub hl [1, 0] rfl) (w.as (ptB_k (fun j9 hj9 => by rw [← fE_s]; simp only [un_at, uc]; split <;> rfl)))
set_option maxRecDepth 100000 in
set_option maxHeartbeats 4000000 in
theorem c_X2_read (l : Launch) (D : va_G) (Z : Nat → ClassId) (q qb qc n i pa ro : Nat) (t : Nat → Nat) (k : Nat → Nat → Nat) (ht : ∀ j, j < 100 → t j < 128) (hn : n ≤ 100) (hi : i ≤ 1000) : Ci l yX2_read wsX2_read 5 110 D Z [.ref q] (ptB Z q qb qc n i pa ro t k) (nI ((rtd (cx t n) pa ro).1)) (ptB Z q qb qc n ((rtd (cx t n) pa ro).2.1) ((rtd (cx t n) pa ro).2.2.1) ((rtd (cx t n) pa ro).2.2.2.1) t ((rtd (cx t n) pa ro).2.2.2.2)) := by
  refine ne_i (cc := cX2_read) (maxL := 2) (by decide +kernel) rfl (Nat.le_of_ble_eq_true rfl) (fun p e s m args below meth c A ls (S : CallFix p m c cX2_read 2 s args wsX2_read RX2) hr hlocks hl w => ?_)
  have hh1 := rhd_1 (c := cx t n) (pa := pa)
  have hl : lv_has ls 2 [(0, .ref q)] := hl
  refine lv_iconst (v := nI 0) S.1 S.2.1 dX2_read_0 (ofInt_nI 0) ?_
  refine lv_istore_n (lv' := [(1, vI 0), (0, .ref q)]) S.1 S.2.1 dX2_read_1 rfl hl (by decide) rfl (fun ls hl => ?_)
  exact (k_X2_read l D Z q qb qc n i pa ro t k ht hn hi S hr hlocks _).2 0 (by omega) (Nat.lt_succ_self _) _ _ _ (lv_sub hl [1, 0] rfl) (w.as rfl)
