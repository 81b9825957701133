set_option maxRecDepth 100000 in
set_option maxHeartbeats 4000000 in
theorem c_X0_packed (l : Launch) (D : va_G) (Z : Nat → ClassId) (n v f x : Nat) (h : n ≤ 61 ∧ v ≤ 15 ∧ f ≤ 7 ∧ x ≤ 9) : Ci l yX0_packed wsX0_packed 0 0 D Z [vI n, vI v, vI f, vI x] ([]) (nI (n + v * 2 ^ 6 + f * 2 ^ 10 + x * 2 ^ 13)) ([]) := by
  refine ne_i (cc := cX0_packed) (maxL := 4) (by decide +kernel) rfl (Nat.le_of_ble_eq_true rfl) (fun p e s m args below meth c A ls (S : CallFix p m c cX0_packed 4 s args wsX0_packed RX0) hr hlocks hl w => ?_)
  have hl : lv_has ls 4 [(0, vI n), (1, vI v), (2, vI f), (3, vI x)] := hl
  refine lv_iload_n S.1 S.2.1 dX0_packed_0 rfl (lv_at hl 0 rfl) ?_
  refine lv_iload_n S.1 S.2.1 dX0_packed_1 rfl (lv_at hl 1 rfl) ?_
  refine lv_bipush (v := nI 6) S.1 S.2.1 dX0_packed_2 (by decide +kernel) ?_
  refine lv_ishl S.1 S.2.1 dX0_packed_4 ?_
  rw [pk_shlN (n := v) (nI 6 &&& 31) 6 (by decide) (by omega)]
  refine nv_ior S dX0_packed_5 (z := nI (n + v * 2 ^ 6)) (or_sum (k := 6) (by omega)) ?_
  refine lv_iload_n S.1 S.2.1 dX0_packed_6 rfl (lv_at hl 2 rfl) ?_
  refine lv_bipush (v := nI 10) S.1 S.2.1 dX0_packed_7 (by decide +kernel) ?_
  refine lv_ishl S.1 S.2.1 dX0_packed_9 ?_
  rw [pk_shlN (n := f) (nI 10 &&& 31) 10 (by decide) (by omega)]
  refine nv_ior S dX0_packed_10 (z := nI ((n + v * 2 ^ 6) + f * 2 ^ 10)) (or_sum (k := 10) (by omega)) ?_
  refine lv_iload_n S.1 S.2.1 dX0_packed_11 rfl (lv_at hl 3 rfl) ?_
  refine lv_bipush (v := nI 13) S.1 S.2.1 dX0_packed_12 (by decide +kernel) ?_
  refine lv_ishl S.1 S.2.1 dX0_packed_14 ?_
  rw [pk_shlN (n := x) (nI 13 &&& 31) 13 (by decide) (by omega)]
  refine nv_ior S dX0_packed_15 (z := nI (((n + v * 2 ^ 6) + f * 2 ^ 10) + x * 2 ^ 13)) (or_sum (k := 13) (by omega)) ?_
  exact nv_iret S w hr hlocks rfl rfl rfl dX0_packed_16

set_option maxRecDepth 100000 in
set_option maxHeartbeats 4000000 in
theorem c_X0_noteOf (l : Launch) (D : va_G) (Z : Nat → ClassId) (r : Nat → Nat) (h : RB r) : Ci l yX0_noteOf wsX0_noteOf 0 0 D Z [vI (pk r)] ([]) (nI (r 0)) ([]) := by
  refine ne_i (cc := cX0_noteOf) (maxL := 1) (by decide +kernel) rfl (Nat.le_of_ble_eq_true rfl) (fun p e s m args below meth c A ls (S : CallFix p m c cX0_noteOf 1 s args wsX0_noteOf RX0) hr hlocks hl w => ?_)
  have hl : lv_has ls 1 [(0, vI (pk r))] := hl
  refine lv_iload_n S.1 S.2.1 dX0_noteOf_0 rfl (lv_at hl 0 rfl) ?_
  refine lv_bipush (v := nI 63) S.1 S.2.1 dX0_noteOf_1 (by decide +kernel) ?_
  refine nv_iand S dX0_noteOf_3 (z := nI (r 0)) (pk_note h) ?_
  exact nv_iret S w hr hlocks rfl rfl rfl dX0_noteOf_4

set_option maxRecDepth 100000 in
set_option maxHeartbeats 4000000 in
theorem c_X0_volumeOf (l : Launch) (D : va_G) (Z : Nat → ClassId) (r : Nat → Nat) (h : RB r) : Ci l yX0_volumeOf wsX0_volumeOf 0 0 D Z [vI (pk r)] ([]) (nI (r 1)) ([]) := by
  refine ne_i (cc := cX0_volumeOf) (maxL := 1) (by decide +kernel) rfl (Nat.le_of_ble_eq_true rfl) (fun p e s m args below meth c A ls (S : CallFix p m c cX0_volumeOf 1 s args wsX0_volumeOf RX0) hr hlocks hl w => ?_)
  have hl : lv_has ls 1 [(0, vI (pk r))] := hl
  refine lv_iload_n S.1 S.2.1 dX0_volumeOf_0 rfl (lv_at hl 0 rfl) ?_
  refine lv_bipush (v := nI 6) S.1 S.2.1 dX0_volumeOf_1 (by decide +kernel) ?_
  refine lv_ishr S.1 S.2.1 dX0_volumeOf_3 ?_
  refine lv_bipush (v := nI 15) S.1 S.2.1 dX0_volumeOf_4 (by decide +kernel) ?_
  refine lv_iand S.1 S.2.1 dX0_volumeOf_6 ?_
  rw [pk_vol h]
  exact nv_iret S w hr hlocks rfl rfl rfl dX0_volumeOf_7

set_option maxRecDepth 100000 in
set_option maxHeartbeats 4000000 in
theorem c_X0_effectOf (l : Launch) (D : va_G) (Z : Nat → ClassId) (r : Nat → Nat) (h : RB r) : Ci l yX0_effectOf wsX0_effectOf 0 0 D Z [vI (pk r)] ([]) (nI (r 2)) ([]) := by
  refine ne_i (cc := cX0_effectOf) (maxL := 1) (by decide +kernel) rfl (Nat.le_of_ble_eq_true rfl) (fun p e s m args below meth c A ls (S : CallFix p m c cX0_effectOf 1 s args wsX0_effectOf RX0) hr hlocks hl w => ?_)
  have hl : lv_has ls 1 [(0, vI (pk r))] := hl
  refine lv_iload_n S.1 S.2.1 dX0_effectOf_0 rfl (lv_at hl 0 rfl) ?_
  refine lv_bipush (v := nI 10) S.1 S.2.1 dX0_effectOf_1 (by decide +kernel) ?_
  refine lv_ishr S.1 S.2.1 dX0_effectOf_3 ?_
  refine lv_bipush (v := nI 7) S.1 S.2.1 dX0_effectOf_4 (by decide +kernel) ?_
  refine lv_iand S.1 S.2.1 dX0_effectOf_6 ?_
  rw [pk_eff h]
  exact nv_iret S w hr hlocks rfl rfl rfl dX0_effectOf_7

set_option maxRecDepth 100000 in
set_option maxHeartbeats 4000000 in
theorem c_X0_numberOf (l : Launch) (D : va_G) (Z : Nat → ClassId) (r : Nat → Nat) (h : RB r) : Ci l yX0_numberOf wsX0_numberOf 0 0 D Z [vI (pk r)] ([]) (nI (r 3)) ([]) := by
  refine ne_i (cc := cX0_numberOf) (maxL := 1) (by decide +kernel) rfl (Nat.le_of_ble_eq_true rfl) (fun p e s m args below meth c A ls (S : CallFix p m c cX0_numberOf 1 s args wsX0_numberOf RX0) hr hlocks hl w => ?_)
  have hl : lv_has ls 1 [(0, vI (pk r))] := hl
  refine lv_iload_n S.1 S.2.1 dX0_numberOf_0 rfl (lv_at hl 0 rfl) ?_
  refine lv_bipush (v := nI 13) S.1 S.2.1 dX0_numberOf_1 (by decide +kernel) ?_
  refine lv_ishr S.1 S.2.1 dX0_numberOf_3 ?_
  refine lv_bipush (v := nI 15) S.1 S.2.1 dX0_numberOf_4 (by decide +kernel) ?_
  refine lv_iand S.1 S.2.1 dX0_numberOf_6 ?_
  rw [pk_num h]
  exact nv_iret S w hr hlocks rfl rfl rfl dX0_numberOf_7

theorem hdS_X0_noteOf : yX0_noteOf.cls ≠ "java/lang/invoke/MethodHandle" ∧ yX0_noteOf.cls ≠ "java/lang/invoke/VarHandle" ∧ (parseMethodDescriptor yX0_noteOf.desc).map (fun d => d.parameters.length) = some 1 := by decide +kernel
set_option maxRecDepth 100000 in
set_option maxHeartbeats 4000000 in
theorem c_X0_isTone (l : Launch) (D : va_G) (Z : Nat → ClassId) (r : Nat → Nat) (h : RB r) : Ci l yX0_isTone wsX0_isTone 1 20 D Z [vI (pk r)] ([]) (nI (bP (1 ≤ r 0 ∧ r 0 ≤ 60))) ([]) := by
  refine ne_i (cc := cX0_isTone) (maxL := 1) (by decide +kernel) rfl (Nat.le_of_ble_eq_true rfl) (fun p e s m args below meth c A ls (S : CallFix p m c cX0_isTone 1 s args wsX0_isTone RX0) hr hlocks hl w => ?_)
  have h2 := h
  unfold RB at h2
  have hl : lv_has ls 1 [(0, vI (pk r))] := hl
  refine lv_iload_n S.1 S.2.1 dX0_isTone_0 rfl (lv_at hl 0 rfl) ?_
  refine nv_pSi (rest := []) S w hl.1 (c_X0_noteOf l D Z r h) gX0_isTone_X0_noteOf rfl hdS_X0_noteOf ⟨Nat.le_of_ble_eq_true rfl, Nat.le_of_ble_eq_true rfl⟩ rfl rfl (Nat.le_of_ble_eq_true rfl) ⟨Nat.zero_le _, Nat.zero_le _⟩ dX0_isTone_1 (fun H locs w => ?_)
  refine lv_iconst (v := nI 1) S.1 S.2.1 dX0_isTone_4 (ofInt_nI 1) ?_
  refine nv_icmp_lt S (by omega) (by omega) (tgt := 21) dX0_isTone_5 (by decide) (fun h_1 => ?_) (fun h_1 => ?_)
  · skip
    refine lv_iconst (v := nI 0) S.1 S.2.1 dX0_isTone_21 (ofInt_nI 0) ?_
    exact nv_iret S w hr hlocks (nI_bool (by decide)) (by rw [bP_f (by omega)]) rfl dX0_isTone_22
  · skip
    refine lv_iload_n S.1 S.2.1 dX0_isTone_8 rfl (lv_at hl 0 rfl) ?_
    refine nv_pSi (rest := []) S w hl.1 (c_X0_noteOf l D Z r h) gX0_isTone_X0_noteOf rfl hdS_X0_noteOf ⟨Nat.le_of_ble_eq_true rfl, Nat.le_of_ble_eq_true rfl⟩ rfl rfl (Nat.le_of_ble_eq_true rfl) ⟨Nat.zero_le _, Nat.zero_le _⟩ dX0_isTone_9 (fun H locs w => ?_)
    refine lv_bipush (v := nI 60) S.1 S.2.1 dX0_isTone_12 (by decide +kernel) ?_
    refine nv_icmp_gt S (by omega) (by omega) (tgt := 21) dX0_isTone_14 (by decide) (fun h_2 => ?_) (fun h_2 => ?_)
    · skip
      refine lv_iconst (v := nI 0) S.1 S.2.1 dX0_isTone_21 (ofInt_nI 0) ?_
      exact nv_iret S w hr hlocks (nI_bool (by decide)) (by rw [bP_f (by omega)]) rfl dX0_isTone_22
    · skip
      refine lv_iconst (v := nI 1) S.1 S.2.1 dX0_isTone_17 (ofInt_nI 1) ?_
      refine lv_goto (tgt := 22) S.1 S.2.1 dX0_isTone_18 (by decide) ?_
      exact nv_iret S w hr hlocks (nI_bool (by decide)) (by rw [bP_t (by omega)]) rfl dX0_isTone_22

theorem hdS_X0_effectOf : yX0_effectOf.cls ≠ "java/lang/invoke/MethodHandle" ∧ yX0_effectOf.cls ≠ "java/lang/invoke/VarHandle" ∧ (parseMethodDescriptor yX0_effectOf.desc).map (fun d => d.parameters.length) = some 1 := by decide +kernel
theorem hdS_X0_numberOf : yX0_numberOf.cls ≠ "java/lang/invoke/MethodHandle" ∧ yX0_numberOf.cls ≠ "java/lang/invoke/VarHandle" ∧ (parseMethodDescriptor yX0_numberOf.desc).map (fun d => d.parameters.length) = some 1 := by decide +kernel
set_option maxRecDepth 100000 in
set_option maxHeartbeats 4000000 in
theorem c_X0_isCall (l : Launch) (D : va_G) (Z : Nat → ClassId) (r : Nat → Nat) (h : RB r) : Ci l yX0_isCall wsX0_isCall 1 20 D Z [vI (pk r)] ([]) (nI (bP (r 2 = 5 ∧ r 3 < 6))) ([]) := by
  refine ne_i (cc := cX0_isCall) (maxL := 1) (by decide +kernel) rfl (Nat.le_of_ble_eq_true rfl) (fun p e s m args below meth c A ls (S : CallFix p m c cX0_isCall 1 s args wsX0_isCall RX0) hr hlocks hl w => ?_)
  have h2 := h
  unfold RB at h2
  have hl : lv_has ls 1 [(0, vI (pk r))] := hl
  refine lv_iload_n S.1 S.2.1 dX0_isCall_0 rfl (lv_at hl 0 rfl) ?_
  refine nv_pSi (rest := []) S w hl.1 (c_X0_effectOf l D Z r h) gX0_isCall_X0_effectOf rfl hdS_X0_effectOf ⟨Nat.le_of_ble_eq_true rfl, Nat.le_of_ble_eq_true rfl⟩ rfl rfl (Nat.le_of_ble_eq_true rfl) ⟨Nat.zero_le _, Nat.zero_le _⟩ dX0_isCall_1 (fun H locs w => ?_)
  refine lv_iconst (v := nI 5) S.1 S.2.1 dX0_isCall_4 (ofInt_nI 5) ?_
  refine nv_icmp_ne S (by omega) (by omega) (tgt := 21) dX0_isCall_5 (by decide) (fun h_1 => ?_) (fun h_1 => ?_)
  · skip
    refine lv_iconst (v := nI 0) S.1 S.2.1 dX0_isCall_21 (ofInt_nI 0) ?_
    exact nv_iret S w hr hlocks (nI_bool (by decide)) (by rw [bP_f (by omega)]) rfl dX0_isCall_22
  · skip
    refine lv_iload_n S.1 S.2.1 dX0_isCall_8 rfl (lv_at hl 0 rfl) ?_
    refine nv_pSi (rest := []) S w hl.1 (c_X0_numberOf l D Z r h) gX0_isCall_X0_numberOf rfl hdS_X0_numberOf ⟨Nat.le_of_ble_eq_true rfl, Nat.le_of_ble_eq_true rfl⟩ rfl rfl (Nat.le_of_ble_eq_true rfl) ⟨Nat.zero_le _, Nat.zero_le _⟩ dX0_isCall_9 (fun H locs w => ?_)
    refine lv_bipush (v := nI 6) S.1 S.2.1 dX0_isCall_12 (by decide +kernel) ?_
    refine nv_icmp_ge S (by omega) (by omega) (tgt := 21) dX0_isCall_14 (by decide) (fun h_2 => ?_) (fun h_2 => ?_)
    · skip
      refine lv_iconst (v := nI 0) S.1 S.2.1 dX0_isCall_21 (ofInt_nI 0) ?_
      exact nv_iret S w hr hlocks (nI_bool (by decide)) (by rw [bP_f (by omega)]) rfl dX0_isCall_22
    · skip
      refine lv_iconst (v := nI 1) S.1 S.2.1 dX0_isCall_17 (ofInt_nI 1) ?_
      refine lv_goto (tgt := 22) S.1 S.2.1 dX0_isCall_18 (by decide) ?_
      exact nv_iret S w hr hlocks (nI_bool (by decide)) (by rw [bP_t (by omega)]) rfl dX0_isCall_22

set_option maxRecDepth 100000 in
set_option maxHeartbeats 4000000 in
theorem c_X0_isDelay (l : Launch) (D : va_G) (Z : Nat → ClassId) (r : Nat → Nat) (h : RB r) : Ci l yX0_isDelay wsX0_isDelay 1 20 D Z [vI (pk r)] ([]) (nI (bP (r 2 = 6 ∧ 0 < r 3))) ([]) := by
  refine ne_i (cc := cX0_isDelay) (maxL := 1) (by decide +kernel) rfl (Nat.le_of_ble_eq_true rfl) (fun p e s m args below meth c A ls (S : CallFix p m c cX0_isDelay 1 s args wsX0_isDelay RX0) hr hlocks hl w => ?_)
  have h2 := h
  unfold RB at h2
  have hl : lv_has ls 1 [(0, vI (pk r))] := hl
  refine lv_iload_n S.1 S.2.1 dX0_isDelay_0 rfl (lv_at hl 0 rfl) ?_
  refine nv_pSi (rest := []) S w hl.1 (c_X0_effectOf l D Z r h) gX0_isDelay_X0_effectOf rfl hdS_X0_effectOf ⟨Nat.le_of_ble_eq_true rfl, Nat.le_of_ble_eq_true rfl⟩ rfl rfl (Nat.le_of_ble_eq_true rfl) ⟨Nat.zero_le _, Nat.zero_le _⟩ dX0_isDelay_1 (fun H locs w => ?_)
  refine lv_bipush (v := nI 6) S.1 S.2.1 dX0_isDelay_4 (by decide +kernel) ?_
  refine nv_icmp_ne S (by omega) (by omega) (tgt := 20) dX0_isDelay_6 (by decide) (fun h_1 => ?_) (fun h_1 => ?_)
  · skip
    refine lv_iconst (v := nI 0) S.1 S.2.1 dX0_isDelay_20 (ofInt_nI 0) ?_
    exact nv_iret S w hr hlocks (nI_bool (by decide)) (by rw [bP_f (by omega)]) rfl dX0_isDelay_21
  · skip
    refine lv_iload_n S.1 S.2.1 dX0_isDelay_9 rfl (lv_at hl 0 rfl) ?_
    refine nv_pSi (rest := []) S w hl.1 (c_X0_numberOf l D Z r h) gX0_isDelay_X0_numberOf rfl hdS_X0_numberOf ⟨Nat.le_of_ble_eq_true rfl, Nat.le_of_ble_eq_true rfl⟩ rfl rfl (Nat.le_of_ble_eq_true rfl) ⟨Nat.zero_le _, Nat.zero_le _⟩ dX0_isDelay_10 (fun H locs w => ?_)
    refine nv_if_le S (by omega) (tgt := 20) dX0_isDelay_13 (by decide) (fun h_2 => ?_) (fun h_2 => ?_)
    · skip
      refine lv_iconst (v := nI 0) S.1 S.2.1 dX0_isDelay_20 (ofInt_nI 0) ?_
      exact nv_iret S w hr hlocks (nI_bool (by decide)) (by rw [bP_f (by omega)]) rfl dX0_isDelay_21
    · skip
      refine lv_iconst (v := nI 1) S.1 S.2.1 dX0_isDelay_16 (ofInt_nI 1) ?_
      refine lv_goto (tgt := 21) S.1 S.2.1 dX0_isDelay_17 (by decide) ?_
      exact nv_iret S w hr hlocks (nI_bool (by decide)) (by rw [bP_t (by omega)]) rfl dX0_isDelay_21

set_option maxRecDepth 100000 in
set_option maxHeartbeats 4000000 in
theorem c_X0_isSpeed (l : Launch) (D : va_G) (Z : Nat → ClassId) (r : Nat → Nat) (h : RB r) : Ci l yX0_isSpeed wsX0_isSpeed 1 20 D Z [vI (pk r)] ([]) (nI (bP (r 2 = 7 ∧ 1 ≤ r 3 ∧ r 3 ≤ 8))) ([]) := by
  refine ne_i (cc := cX0_isSpeed) (maxL := 1) (by decide +kernel) rfl (Nat.le_of_ble_eq_true rfl) (fun p e s m args below meth c A ls (S : CallFix p m c cX0_isSpeed 1 s args wsX0_isSpeed RX0) hr hlocks hl w => ?_)
  have h2 := h
  unfold RB at h2
  have hl : lv_has ls 1 [(0, vI (pk r))] := hl
  refine lv_iload_n S.1 S.2.1 dX0_isSpeed_0 rfl (lv_at hl 0 rfl) ?_
  refine nv_pSi (rest := []) S w hl.1 (c_X0_effectOf l D Z r h) gX0_isSpeed_X0_effectOf rfl hdS_X0_effectOf ⟨Nat.le_of_ble_eq_true rfl, Nat.le_of_ble_eq_true rfl⟩ rfl rfl (Nat.le_of_ble_eq_true rfl) ⟨Nat.zero_le _, Nat.zero_le _⟩ dX0_isSpeed_1 (fun H locs w => ?_)
  refine lv_bipush (v := nI 7) S.1 S.2.1 dX0_isSpeed_4 (by decide +kernel) ?_
  refine nv_icmp_ne S (by omega) (by omega) (tgt := 30) dX0_isSpeed_6 (by decide) (fun h_1 => ?_) (fun h_1 => ?_)
  · skip
    refine lv_iconst (v := nI 0) S.1 S.2.1 dX0_isSpeed_30 (ofInt_nI 0) ?_
    exact nv_iret S w hr hlocks (nI_bool (by decide)) (by rw [bP_f (by omega)]) rfl dX0_isSpeed_31
  · skip
    refine lv_iload_n S.1 S.2.1 dX0_isSpeed_9 rfl (lv_at hl 0 rfl) ?_
    refine nv_pSi (rest := []) S w hl.1 (c_X0_numberOf l D Z r h) gX0_isSpeed_X0_numberOf rfl hdS_X0_numberOf ⟨Nat.le_of_ble_eq_true rfl, Nat.le_of_ble_eq_true rfl⟩ rfl rfl (Nat.le_of_ble_eq_true rfl) ⟨Nat.zero_le _, Nat.zero_le _⟩ dX0_isSpeed_10 (fun H locs w => ?_)
    refine lv_iconst (v := nI 1) S.1 S.2.1 dX0_isSpeed_13 (ofInt_nI 1) ?_
    refine nv_icmp_lt S (by omega) (by omega) (tgt := 30) dX0_isSpeed_14 (by decide) (fun h_2 => ?_) (fun h_2 => ?_)
    · skip
      refine lv_iconst (v := nI 0) S.1 S.2.1 dX0_isSpeed_30 (ofInt_nI 0) ?_
      exact nv_iret S w hr hlocks (nI_bool (by decide)) (by rw [bP_f (by omega)]) rfl dX0_isSpeed_31
    · skip
      refine lv_iload_n S.1 S.2.1 dX0_isSpeed_17 rfl (lv_at hl 0 rfl) ?_
      refine nv_pSi (rest := []) S w hl.1 (c_X0_numberOf l D Z r h) gX0_isSpeed_X0_numberOf rfl hdS_X0_numberOf ⟨Nat.le_of_ble_eq_true rfl, Nat.le_of_ble_eq_true rfl⟩ rfl rfl (Nat.le_of_ble_eq_true rfl) ⟨Nat.zero_le _, Nat.zero_le _⟩ dX0_isSpeed_18 (fun H locs w => ?_)
      refine lv_bipush (v := nI 8) S.1 S.2.1 dX0_isSpeed_21 (by decide +kernel) ?_
      refine nv_icmp_gt S (by omega) (by omega) (tgt := 30) dX0_isSpeed_23 (by decide) (fun h_3 => ?_) (fun h_3 => ?_)
      · skip
        refine lv_iconst (v := nI 0) S.1 S.2.1 dX0_isSpeed_30 (ofInt_nI 0) ?_
        exact nv_iret S w hr hlocks (nI_bool (by decide)) (by rw [bP_f (by omega)]) rfl dX0_isSpeed_31
      · skip
        refine lv_iconst (v := nI 1) S.1 S.2.1 dX0_isSpeed_26 (ofInt_nI 1) ?_
        refine lv_goto (tgt := 31) S.1 S.2.1 dX0_isSpeed_27 (by decide) ?_
        exact nv_iret S w hr hlocks (nI_bool (by decide)) (by rw [bP_t (by omega)]) rfl dX0_isSpeed_31
