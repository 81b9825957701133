set_option maxRecDepth 100000 in
set_option maxHeartbeats 4000000 in
theorem c_X7_isIndex (l : Launch) (D : va_G) (Z : Nat → ClassId) (x y : Int32)  : Ci l yX7_isIndex wsX7_isIndex 0 0 D Z [.int x, .int y] ([]) (nI (bP (¬ x < 0 ∧ ¬ y ≤ x))) ([]) := by
  refine ne_i (cc := cX7_isIndex) (maxL := 2) (by decide +kernel) rfl (Nat.le_of_ble_eq_true rfl) (fun p e s m args below meth c A ls (S : CallFix p m c cX7_isIndex 2 s args wsX7_isIndex RX7) hr hlocks hl w => ?_)
  have hl : lv_has ls 2 [(0, .int x), (1, .int y)] := hl
  refine lv_iload_n S.1 S.2.1 dX7_isIndex_0 rfl (lv_at hl 0 rfl) ?_
  refine lv_if_lt S.1 S.2.1 (tgt := 13) dX7_isIndex_1 (by decide) (fun h_1 => ?_) (fun h_1 => ?_)
  · skip
    refine lv_iconst (v := nI 0) S.1 S.2.1 dX7_isIndex_13 (ofInt_nI 0) ?_
    exact nv_iret S w hr hlocks (nI_bool (by decide)) (by rw [bP_f (fun z => z.1 h_1)]) rfl dX7_isIndex_14
  · skip
    refine lv_iload_n S.1 S.2.1 dX7_isIndex_4 rfl (lv_at hl 0 rfl) ?_
    refine lv_iload_n S.1 S.2.1 dX7_isIndex_5 rfl (lv_at hl 1 rfl) ?_
    refine lv_icmp_ge S.1 S.2.1 (tgt := 13) dX7_isIndex_6 (by decide) (fun h_2 => ?_) (fun h_2 => ?_)
    · skip
      refine lv_iconst (v := nI 0) S.1 S.2.1 dX7_isIndex_13 (ofInt_nI 0) ?_
      exact nv_iret S w hr hlocks (nI_bool (by decide)) (by rw [bP_f (fun z => z.2 h_2)]) rfl dX7_isIndex_14
    · skip
      refine lv_iconst (v := nI 1) S.1 S.2.1 dX7_isIndex_9 (ofInt_nI 1) ?_
      refine lv_goto (tgt := 14) S.1 S.2.1 dX7_isIndex_10 (by decide) ?_
      exact nv_iret S w hr hlocks (nI_bool (by decide)) (by rw [bP_t ⟨h_1, h_2⟩]) rfl dX7_isIndex_14

theorem c_X7_isIndexN (l : Launch) (D : va_G) (Z : Nat → ClassId) (a b : Nat) (ha : a < 2 ^ 31) (hb : b < 2 ^ 31) : Ci l yX7_isIndex wsX7_isIndex 0 0 D Z [vI a, vI b] [] (nI (bP (a < b))) [] := by
  have h := c_X7_isIndex l D Z (nI a) (nI b)
  rwa [bP_congr (P := ¬ nI a < 0 ∧ ¬ nI b ≤ nI a) (Q := a < b) ⟨fun z => Nat.lt_of_not_le fun q => z.2 ((nI_leI hb ha).mpr q), fun z => ⟨nI_pos ha, fun q => absurd ((nI_leI hb ha).mp q) (Nat.not_le.mpr z)⟩⟩] at h

set_option maxRecDepth 100000 in
set_option maxHeartbeats 4000000 in
theorem c_X7_sound (l : Launch) (D : va_G) (Z : Nat → ClassId) (a b : Nat)  : Ci l yX7_sound wsX7_sound 0 0 D Z [vI a, vI b] ([]) (nI (16 * a + b)) ([]) := by
  refine ne_i (cc := cX7_sound) (maxL := 2) (by decide +kernel) rfl (Nat.le_of_ble_eq_true rfl) (fun p e s m args below meth c A ls (S : CallFix p m c cX7_sound 2 s args wsX7_sound RX7) hr hlocks hl w => ?_)
  have hl : lv_has ls 2 [(0, vI a), (1, vI b)] := hl
  refine lv_bipush (v := nI 16) S.1 S.2.1 dX7_sound_0 (by decide +kernel) ?_
  refine lv_iload_n S.1 S.2.1 dX7_sound_2 rfl (lv_at hl 0 rfl) ?_
  refine nv_imul S dX7_sound_3 ?_
  refine lv_iload_n S.1 S.2.1 dX7_sound_4 rfl (lv_at hl 1 rfl) ?_
  refine nv_iadd S dX7_sound_5 ?_
  exact nv_iret S w hr hlocks rfl rfl rfl dX7_sound_6

set_option maxRecDepth 100000 in
set_option maxHeartbeats 4000000 in
theorem c_X6_pitchOf (l : Launch) (D : va_G) (Z : Nat → ClassId) (a : Nat)  : Ci l yX6_pitchOf wsX6_pitchOf 0 0 D Z [vI a] ([]) (nI (16 * a)) ([]) := by
  refine ne_i (cc := cX6_pitchOf) (maxL := 1) (by decide +kernel) rfl (Nat.le_of_ble_eq_true rfl) (fun p e s m args below meth c A ls (S : CallFix p m c cX6_pitchOf 1 s args wsX6_pitchOf RX6) hr hlocks hl w => ?_)
  have hl : lv_has ls 1 [(0, vI a)] := hl
  refine lv_bipush (v := nI 16) S.1 S.2.1 dX6_pitchOf_0 (by decide +kernel) ?_
  refine lv_iload_n S.1 S.2.1 dX6_pitchOf_2 rfl (lv_at hl 0 rfl) ?_
  refine nv_imul S dX6_pitchOf_3 ?_
  exact nv_iret S w hr hlocks rfl rfl rfl dX6_pitchOf_4

theorem hdS_X6_pitchOf : yX6_pitchOf.cls ≠ "java/lang/invoke/MethodHandle" ∧ yX6_pitchOf.cls ≠ "java/lang/invoke/VarHandle" ∧ (parseMethodDescriptor yX6_pitchOf.desc).map (fun d => d.parameters.length) = some 1 := by decide +kernel
theorem hdS_X7_sound : yX7_sound.cls ≠ "java/lang/invoke/MethodHandle" ∧ yX7_sound.cls ≠ "java/lang/invoke/VarHandle" ∧ (parseMethodDescriptor yX7_sound.desc).map (fun d => d.parameters.length) = some 2 := by decide +kernel
set_option maxRecDepth 100000 in
set_option maxHeartbeats 4000000 in
theorem c_X7_stolenSound (l : Launch) (D : va_G) (Z : Nat → ClassId) (a : Nat)  : Ci l yX7_stolenSound wsX7_stolenSound 1 21 D Z [vI a] ([]) (nI (16 * (16 * a) + 15)) ([]) := by
  refine ne_i (cc := cX7_stolenSound) (maxL := 1) (by decide +kernel) rfl (Nat.le_of_ble_eq_true rfl) (fun p e s m args below meth c A ls (S : CallFix p m c cX7_stolenSound 1 s args wsX7_stolenSound RX7) hr hlocks hl w => ?_)
  have hl : lv_has ls 1 [(0, vI a)] := hl
  refine lv_iload_n S.1 S.2.1 dX7_stolenSound_0 rfl (lv_at hl 0 rfl) ?_
  refine nv_pSi (rest := []) S w hl.1 (c_X6_pitchOf l D Z a ) gX7_stolenSound_X6_pitchOf rfl hdS_X6_pitchOf ⟨Nat.le_of_ble_eq_true rfl, Nat.le_of_ble_eq_true rfl⟩ rfl rfl (Nat.le_of_ble_eq_true rfl) ⟨Nat.zero_le _, Nat.zero_le _⟩ dX7_stolenSound_1 (fun H locs w => ?_)
  refine lv_bipush (v := nI 15) S.1 S.2.1 dX7_stolenSound_4 (by decide +kernel) ?_
  refine nv_pSi (rest := []) S w hl.1 (c_X7_sound l D Z (16 * a) 15 ) gX7_stolenSound_X7_sound rfl hdS_X7_sound ⟨Nat.le_of_ble_eq_true rfl, Nat.le_of_ble_eq_true rfl⟩ rfl rfl (Nat.le_of_ble_eq_true rfl) ⟨Nat.zero_le _, Nat.zero_le _⟩ dX7_stolenSound_6 (fun H locs w => ?_)
  exact nv_iret S w hr hlocks rfl rfl rfl dX7_stolenSound_9

theorem hn_X6_beginNote_6 : ∀ w ∈ wsX60, w ∈ wsX6_beginNote := by decide +kernel
theorem hdS_X0_volumeOf : yX0_volumeOf.cls ≠ "java/lang/invoke/MethodHandle" ∧ yX0_volumeOf.cls ≠ "java/lang/invoke/VarHandle" ∧ (parseMethodDescriptor yX0_volumeOf.desc).map (fun d => d.parameters.length) = some 1 := by decide +kernel
set_option maxRecDepth 100000 in
set_option maxHeartbeats 4000000 in
theorem c_X6_beginNote (l : Launch) (D : va_G) (Z : Nat → ClassId) (q qp qr : Nat) (V : Nat → Nat) (h : VB V) : Cv l yX6_beginNote wsX6_beginNote 1 20 D Z [.ref q] (voiceB Z q qp qr V)  (voiceB Z q qp qr (begV V)) := by
  refine ne_v (cc := cX6_beginNote) (maxL := 2) (by decide +kernel) rfl (Nat.le_of_ble_eq_true rfl) (fun p e s m args below meth c A ls (S : CallFix p m c cX6_beginNote 2 s args wsX6_beginNote RX6) hr hlocks hl w => ?_)
  have h2 := h
  unfold VB at h2
  have hl : lv_has ls 2 [(0, .ref q)] := hl
  refine lv_aload_n S.1 S.2.1 dX6_beginNote_0 rfl (lv_at hl 0 rfl) ?_
  refine nv_get S w (C := RX6) (T := TX6) (N := 9) hn_X6_beginNote_6 0 rfl rfl 8 (by decide) (List.mem_of_getElem? (i := 1) rfl) (v := vI (pk (rv V))) rfl dX6_beginNote_1 ?_
  refine nv_pSi (rest := []) S w hl.1 (c_X0_noteOf l D Z (rv V) h.rb) gX6_beginNote_X0_noteOf rfl hdS_X0_noteOf ⟨Nat.le_of_ble_eq_true rfl, Nat.le_of_ble_eq_true rfl⟩ rfl rfl (Nat.le_of_ble_eq_true rfl) ⟨Nat.zero_le _, Nat.zero_le _⟩ dX6_beginNote_4 (fun H locs w => ?_)
  refine W.eq (g2 := F0 m 7 ls [vI (V 12)]) rfl ?_
  refine lv_istore_n (lv' := [(1, vI (V 12)), (0, .ref q)]) S.1 S.2.1 dX6_beginNote_7 rfl hl (by decide) rfl (fun ls hl => ?_)
  refine lv_iload_n S.1 S.2.1 dX6_beginNote_8 rfl (lv_at hl 0 rfl) ?_
  refine lv_bipush (v := nI 61) S.1 S.2.1 dX6_beginNote_9 (by decide +kernel) ?_
  refine nv_icmp_ne S (by omega) (by omega) (tgt := 22) dX6_beginNote_11 (by decide) (fun h_1 => ?_) (fun h_1 => ?_)
  · skip
    refine lv_iload_n S.1 S.2.1 dX6_beginNote_22 rfl (lv_at hl 0 rfl) ?_
    refine nv_if_le S (by omega) (tgt := 45) dX6_beginNote_23 (by decide) (fun h_2 => ?_) (fun h_2 => ?_)
    · skip
      exact nv_vret S w hr hlocks (by apply voiceB_mk <;> first | rfl | (simp [begV, un_at, rv, pk, h_1, h_2]; done) | (intro j hj; rcases (show j = 0 ∨ j = 1 ∨ j = 2 by omega) with rfl | rfl | rfl <;> simp [begV, un_at, h_1, h_2]; done) | (simp [begV, un_at, rv, pk, h_1, h_2]; omega)) dX6_beginNote_45
    · skip
      refine lv_aload_n S.1 S.2.1 dX6_beginNote_26 rfl (lv_at hl 1 rfl) ?_
      refine lv_iload_n S.1 S.2.1 dX6_beginNote_27 rfl (lv_at hl 0 rfl) ?_
      refine nv_pSi (rest := [.ref q]) S w hl.1 (c_X6_pitchOf l D Z (V 12) ) gX6_beginNote_X6_pitchOf rfl hdS_X6_pitchOf ⟨Nat.le_of_ble_eq_true rfl, Nat.le_of_ble_eq_true rfl⟩ rfl rfl (Nat.le_of_ble_eq_true rfl) ⟨Nat.zero_le _, Nat.zero_le _⟩ dX6_beginNote_28 (fun H locs w => ?_)
      refine nv_put S w (C := RX6) (T := TX6) (N := 9) hn_X6_beginNote_6 tyX6_ok nmX6 0 rfl rfl 0 (by decide) (List.mem_of_getElem? (i := 3) rfl) rfl rfl (Nat.le_of_ble_eq_true rfl) (ws' := [(q, .inr (5, [vI (16 * (V 12)), vI (V 1), vI (V 2), vI (V 3), vI (V 11), vI (V 4), .ref qp, .ref qr, vI (pk (rv V))])), (qp, .inl (Z 0, 3, .inl (ar 3 (fun j => V (5 + 2 * j))))), (qr, .inl (Z 0, 3, .inl (ar 3 (fun j => V (6 + 2 * j)))))]) rfl dX6_beginNote_31 (fun H locs w => ?_)
      refine lv_aload_n S.1 S.2.1 dX6_beginNote_34 rfl (lv_at hl 1 rfl) ?_
      refine lv_aload_n S.1 S.2.1 dX6_beginNote_35 rfl (lv_at hl 1 rfl) ?_
      refine nv_get S w (C := RX6) (T := TX6) (N := 9) hn_X6_beginNote_6 0 rfl rfl 8 (by decide) (List.mem_of_getElem? (i := 1) rfl) (v := vI (pk (rv V))) rfl dX6_beginNote_36 ?_
      refine nv_pSi (rest := [.ref q]) S w hl.1 (c_X0_volumeOf l D Z (rv V) h.rb) gX6_beginNote_X0_volumeOf rfl hdS_X0_volumeOf ⟨Nat.le_of_ble_eq_true rfl, Nat.le_of_ble_eq_true rfl⟩ rfl rfl (Nat.le_of_ble_eq_true rfl) ⟨Nat.zero_le _, Nat.zero_le _⟩ dX6_beginNote_39 (fun H locs w => ?_)
      refine W.eq (g2 := F0 m 42 ls [vI (V 13), .ref q]) rfl ?_
      refine nv_put S w (C := RX6) (T := TX6) (N := 9) hn_X6_beginNote_6 tyX6_ok nmX6 0 rfl rfl 1 (by decide) (List.mem_of_getElem? (i := 2) rfl) rfl rfl (Nat.le_of_ble_eq_true rfl) (ws' := [(q, .inr (5, [vI (16 * (V 12)), vI (V 13), vI (V 2), vI (V 3), vI (V 11), vI (V 4), .ref qp, .ref qr, vI (pk (rv V))])), (qp, .inl (Z 0, 3, .inl (ar 3 (fun j => V (5 + 2 * j))))), (qr, .inl (Z 0, 3, .inl (ar 3 (fun j => V (6 + 2 * j)))))]) rfl dX6_beginNote_42 (fun H locs w => ?_)
      exact nv_vret S w hr hlocks (by apply voiceB_mk <;> first | rfl | (simp [begV, un_at, rv, pk, h_1, h_2]; done) | (intro j hj; rcases (show j = 0 ∨ j = 1 ∨ j = 2 by omega) with rfl | rfl | rfl <;> simp [begV, un_at, h_1, h_2]; done) | (simp [begV, un_at, rv, pk, h_1, h_2]; omega)) dX6_beginNote_45
  · skip
    refine lv_aload_n S.1 S.2.1 dX6_beginNote_14 rfl (lv_at hl 1 rfl) ?_
    refine lv_iconst (v := nI 0) S.1 S.2.1 dX6_beginNote_15 (ofInt_nI 0) ?_
    refine nv_put S w (C := RX6) (T := TX6) (N := 9) hn_X6_beginNote_6 tyX6_ok nmX6 0 rfl rfl 1 (by decide) (List.mem_of_getElem? (i := 2) rfl) rfl rfl (Nat.le_of_ble_eq_true rfl) (ws' := [(q, .inr (5, [vI (V 0), vI 0, vI (V 2), vI (V 3), vI (V 11), vI (V 4), .ref qp, .ref qr, vI (pk (rv V))])), (qp, .inl (Z 0, 3, .inl (ar 3 (fun j => V (5 + 2 * j))))), (qr, .inl (Z 0, 3, .inl (ar 3 (fun j => V (6 + 2 * j)))))]) rfl dX6_beginNote_16 (fun H locs w => ?_)
    refine lv_goto (tgt := 45) S.1 S.2.1 dX6_beginNote_19 (by decide) ?_
    exact nv_vret S w hr hlocks (by apply voiceB_mk <;> first | rfl | (simp [begV, un_at, rv, pk, h_1]; done) | (intro j hj; rcases (show j = 0 ∨ j = 1 ∨ j = 2 by omega) with rfl | rfl | rfl <;> simp [begV, un_at, h_1]; done) | (simp [begV, un_at, rv, pk, h_1]; omega)) dX6_beginNote_45

theorem hn_X6_beginRow_6 : ∀ w ∈ wsX60, w ∈ wsX6_beginRow := by decide +kernel
theorem hdS_X0_isDelay : yX0_isDelay.cls ≠ "java/lang/invoke/MethodHandle" ∧ yX0_isDelay.cls ≠ "java/lang/invoke/VarHandle" ∧ (parseMethodDescriptor yX0_isDelay.desc).map (fun d => d.parameters.length) = some 1 := by decide +kernel
theorem hdV_X6_beginNote : yX6_beginNote.cls = RX6 ∧ yX6_beginNote.cls ≠ "java/lang/invoke/MethodHandle" ∧ yX6_beginNote.cls ≠ "java/lang/invoke/VarHandle" ∧ (parseMethodDescriptor yX6_beginNote.desc).map (fun d => d.parameters.length) = some 0 := by decide +kernel
set_option maxRecDepth 100000 in
set_option maxHeartbeats 4000000 in
theorem c_X6_beginRow (l : Launch) (D : va_G) (Z : Nat → ClassId) (q qp qr : Nat) (V : Nat → Nat) (r : Nat → Nat) (h : VB V) (hr9 : RB r) : Cv l yX6_beginRow wsX6_beginRow 2 41 D Z [.ref q, vI (pk r)] (voiceB Z q qp qr V)  (voiceB Z q qp qr (brV V r)) := by
  refine ne_v (cc := cX6_beginRow) (maxL := 2) (by decide +kernel) rfl (Nat.le_of_ble_eq_true rfl) (fun p e s m args below meth c A ls (S : CallFix p m c cX6_beginRow 2 s args wsX6_beginRow RX6) hr hlocks hl w => ?_)
  have h2 := h
  unfold VB at h2
  have hl : lv_has ls 2 [(0, .ref q), (1, vI (pk r))] := hl
  refine lv_aload_n S.1 S.2.1 dX6_beginRow_0 rfl (lv_at hl 0 rfl) ?_
  refine lv_iload_n S.1 S.2.1 dX6_beginRow_1 rfl (lv_at hl 1 rfl) ?_
  refine nv_put S w (C := RX6) (T := TX6) (N := 9) hn_X6_beginRow_6 tyX6_ok nmX6 0 rfl rfl 8 (by decide) (List.mem_of_getElem? (i := 1) rfl) rfl rfl (Nat.le_of_ble_eq_true rfl) (ws' := [(q, .inr (5, [vI (V 0), vI (V 1), vI (V 2), vI (V 3), vI (V 11), vI (V 4), .ref qp, .ref qr, vI (pk r)])), (qp, .inl (Z 0, 3, .inl (ar 3 (fun j => V (5 + 2 * j))))), (qr, .inl (Z 0, 3, .inl (ar 3 (fun j => V (6 + 2 * j)))))]) rfl dX6_beginRow_2 (fun H locs w => ?_)
  refine lv_aload_n S.1 S.2.1 dX6_beginRow_5 rfl (lv_at hl 0 rfl) ?_
  refine nv_get S w (C := RX6) (T := TX6) (N := 9) hn_X6_beginRow_6 0 rfl rfl 8 (by decide) (List.mem_of_getElem? (i := 1) rfl) (v := vI (pk r)) rfl dX6_beginRow_6 ?_
  refine nv_pSi (rest := []) S w hl.1 (c_X0_isDelay l D Z r hr9) gX6_beginRow_X0_isDelay rfl hdS_X0_isDelay ⟨Nat.le_of_ble_eq_true rfl, Nat.le_of_ble_eq_true rfl⟩ rfl rfl (Nat.le_of_ble_eq_true rfl) ⟨Nat.zero_le _, Nat.zero_le _⟩ dX6_beginRow_9 (fun H locs w => ?_)
  refine nv_if_neB S (tgt := 19) dX6_beginRow_12 (by decide) (fun h_1 => ?_) (fun h_1 => ?_)
  · skip
    exact nv_vret S w hr hlocks (by apply voiceB_mk <;> first | rfl | (simp [brV, setR, un_at, rv, pk, h_1]; done) | (intro j hj; rcases (show j = 0 ∨ j = 1 ∨ j = 2 by omega) with rfl | rfl | rfl <;> simp [brV, setR, un_at, h_1]; done) | (simp [brV, setR, un_at, rv, pk, h_1]; omega)) dX6_beginRow_19
  · skip
    refine lv_aload_n S.1 S.2.1 dX6_beginRow_15 rfl (lv_at hl 0 rfl) ?_
    have w := w.as (ws' := voiceB Z q qp qr (setR V r)) (by apply voiceB_mk <;> first | rfl | (simp [setR, un_at, rv, pk, h_1]; done) | (intro j hj; rcases (show j = 0 ∨ j = 1 ∨ j = 2 by omega) with rfl | rfl | rfl <;> simp [setR, un_at, h_1]; done) | (simp [setR, un_at, rv, pk, h_1]; omega))
    refine nv_cVv (rest := []) (ws' := voiceB Z q qp qr (begV (setR V r))) S w hl.1 (c_X6_beginNote l D Z q qp qr (setR V r) (VB_setR h hr9)) [0, 1, 2] rfl rfl rfl rfl gX6_beginRow_X6_beginNote rfl hdV_X6_beginNote ⟨Nat.le_of_ble_eq_true rfl, Nat.le_of_ble_eq_true rfl⟩ (q0 := 0) rfl rfl rfl rfl (Nat.le_of_ble_eq_true rfl) ⟨Nat.zero_le _, Nat.zero_le _⟩ dX6_beginRow_16 (fun H locs w => ?_)
    exact nv_vret S w hr hlocks (by unfold brV; rw [if_neg h_1]) dX6_beginRow_19

theorem hn_X6_goOn_6 : ∀ w ∈ wsX60, w ∈ wsX6_goOn := by decide +kernel
set_option maxRecDepth 100000 in
set_option maxHeartbeats 4000000 in
theorem c_X6_goOn (l : Launch) (D : va_G) (Z : Nat → ClassId) (q qp qr : Nat) (V : Nat → Nat) (t : Nat) (h : VB V) (ht : t < 2 ^ 31) : Cv l yX6_goOn wsX6_goOn 2 41 D Z [.ref q, vI t] (voiceB Z q qp qr V)  (voiceB Z q qp qr (goV V t)) := by
  refine ne_v (cc := cX6_goOn) (maxL := 3) (by decide +kernel) rfl (Nat.le_of_ble_eq_true rfl) (fun p e s m args below meth c A ls (S : CallFix p m c cX6_goOn 3 s args wsX6_goOn RX6) hr hlocks hl w => ?_)
  have h2 := h
  unfold VB at h2
  have hl : lv_has ls 3 [(0, .ref q), (1, vI t)] := hl
  refine lv_aload_n S.1 S.2.1 dX6_goOn_0 rfl (lv_at hl 0 rfl) ?_
  refine nv_get S w (C := RX6) (T := TX6) (N := 9) hn_X6_goOn_6 0 rfl rfl 8 (by decide) (List.mem_of_getElem? (i := 1) rfl) (v := vI (pk (rv V))) rfl dX6_goOn_1 ?_
  refine nv_pSi (rest := []) S w hl.1 (c_X0_numberOf l D Z (rv V) h.rb) gX6_goOn_X0_numberOf rfl hdS_X0_numberOf ⟨Nat.le_of_ble_eq_true rfl, Nat.le_of_ble_eq_true rfl⟩ rfl rfl (Nat.le_of_ble_eq_true rfl) ⟨Nat.zero_le _, Nat.zero_le _⟩ dX6_goOn_4 (fun H locs w => ?_)
  refine W.eq (g2 := F0 m 7 ls [vI (V 15)]) rfl ?_
  refine lv_istore_n (lv' := [(2, vI (V 15)), (0, .ref q), (1, vI t)]) S.1 S.2.1 dX6_goOn_7 rfl hl (by decide) rfl (fun ls hl => ?_)
  refine lv_aload_n S.1 S.2.1 dX6_goOn_8 rfl (lv_at hl 1 rfl) ?_
  refine nv_get S w (C := RX6) (T := TX6) (N := 9) hn_X6_goOn_6 0 rfl rfl 8 (by decide) (List.mem_of_getElem? (i := 1) rfl) (v := vI (pk (rv V))) rfl dX6_goOn_9 ?_
  refine nv_pSi (rest := []) S w hl.1 (c_X0_effectOf l D Z (rv V) h.rb) gX6_goOn_X0_effectOf rfl hdS_X0_effectOf ⟨Nat.le_of_ble_eq_true rfl, Nat.le_of_ble_eq_true rfl⟩ rfl rfl (Nat.le_of_ble_eq_true rfl) ⟨Nat.zero_le _, Nat.zero_le _⟩ dX6_goOn_12 (fun H locs w => ?_)
  refine W.eq (g2 := F0 m 15 ls [vI (V 14)]) rfl ?_
  by_cases h_1 : V 14 = 1
  · skip
    refine nv_tableIn S (by omega) dX6_goOn_15 (by rw [h_1]; decide) (by rw [h_1]; decide) (off := 37) (by rw [h_1]; rfl) (tgt := 52) (by decide) ?_
    refine lv_aload_n S.1 S.2.1 dX6_goOn_52 rfl (lv_at hl 1 rfl) ?_
    refine lv_aload_n S.1 S.2.1 dX6_goOn_53 rfl (lv_at hl 1 rfl) ?_
    refine nv_get S w (C := RX6) (T := TX6) (N := 9) hn_X6_goOn_6 0 rfl rfl 0 (by decide) (List.mem_of_getElem? (i := 2) rfl) (v := vI (V 0)) rfl dX6_goOn_54 ?_
    refine lv_iload_n S.1 S.2.1 dX6_goOn_57 rfl (lv_at hl 0 rfl) ?_
    refine nv_iadd S dX6_goOn_58 ?_
    refine lv_sipush (v := nI 999) S.1 S.2.1 dX6_goOn_59 (by decide +kernel) ?_
    refine nv_imin (rest := [.ref q]) S hl.1 (by decide +kernel) (by decide +kernel) (by decide +kernel) (by decide +kernel) (Nat.le_of_ble_eq_true rfl) (Nat.le_of_ble_eq_true rfl) ⟨Nat.zero_le _, Nat.zero_le _⟩ (by omega) (by omega) dX6_goOn_62 ?_
    refine nv_put S w (C := RX6) (T := TX6) (N := 9) hn_X6_goOn_6 tyX6_ok nmX6 0 rfl rfl 0 (by decide) (List.mem_of_getElem? (i := 2) rfl) rfl rfl (Nat.le_of_ble_eq_true rfl) (ws' := [(q, .inr (5, [vI (min ((V 0) + (V 15)) 999), vI (V 1), vI (V 2), vI (V 3), vI (V 11), vI (V 4), .ref qp, .ref qr, vI (pk (rv V))])), (qp, .inl (Z 0, 3, .inl (ar 3 (fun j => V (5 + 2 * j))))), (qr, .inl (Z 0, 3, .inl (ar 3 (fun j => V (6 + 2 * j)))))]) rfl dX6_goOn_65 (fun H locs w => ?_)
    refine lv_goto (tgt := 135) S.1 S.2.1 dX6_goOn_68 (by decide) ?_
    exact nv_vret S w hr hlocks (by apply voiceB_mk <;> first | rfl | (simp [goV, un_at, rv, pk, h_1]; done) | (intro j hj; rcases (show j = 0 ∨ j = 1 ∨ j = 2 by omega) with rfl | rfl | rfl <;> simp [goV, un_at, h_1]; done) | (simp [goV, un_at, rv, pk, h_1]; omega)) dX6_goOn_135
  · skip
    by_cases h_2 : V 14 = 2
    · skip
      refine nv_tableIn S (by omega) dX6_goOn_15 (by rw [h_2]; decide) (by rw [h_2]; decide) (off := 56) (by rw [h_2]; rfl) (tgt := 71) (by decide) ?_
      refine lv_aload_n S.1 S.2.1 dX6_goOn_71 rfl (lv_at hl 1 rfl) ?_
      refine lv_aload_n S.1 S.2.1 dX6_goOn_72 rfl (lv_at hl 1 rfl) ?_
      refine nv_get S w (C := RX6) (T := TX6) (N := 9) hn_X6_goOn_6 0 rfl rfl 0 (by decide) (List.mem_of_getElem? (i := 2) rfl) (v := vI (V 0)) rfl dX6_goOn_73 ?_
      refine lv_iload_n S.1 S.2.1 dX6_goOn_76 rfl (lv_at hl 0 rfl) ?_
      by_cases hs9 : V 15 ≤ V 0
      · skip
        refine nv_isub S (by omega) dX6_goOn_77 ?_
        refine lv_iconst (v := nI 0) S.1 S.2.1 dX6_goOn_78 (ofInt_nI 0) ?_
        refine nv_imax (rest := [.ref q]) S hl.1 (by decide +kernel) (by decide +kernel) (by decide +kernel) (by decide +kernel) (Nat.le_of_ble_eq_true rfl) (Nat.le_of_ble_eq_true rfl) ⟨Nat.zero_le _, Nat.zero_le _⟩ (by omega) (by omega) dX6_goOn_79 ?_
        refine nv_put S w (C := RX6) (T := TX6) (N := 9) hn_X6_goOn_6 tyX6_ok nmX6 0 rfl rfl 0 (by decide) (List.mem_of_getElem? (i := 2) rfl) rfl rfl (Nat.le_of_ble_eq_true rfl) (ws' := [(q, .inr (5, [vI (max ((V 0) - (V 15)) 0), vI (V 1), vI (V 2), vI (V 3), vI (V 11), vI (V 4), .ref qp, .ref qr, vI (pk (rv V))])), (qp, .inl (Z 0, 3, .inl (ar 3 (fun j => V (5 + 2 * j))))), (qr, .inl (Z 0, 3, .inl (ar 3 (fun j => V (6 + 2 * j)))))]) rfl dX6_goOn_82 (fun H locs w => ?_)
        refine lv_goto (tgt := 135) S.1 S.2.1 dX6_goOn_85 (by decide) ?_
        exact nv_vret S w hr hlocks (by apply voiceB_mk <;> first | rfl | (simp [goV, un_at, rv, pk, h_1, h_2, hs9]; done) | (intro j hj; rcases (show j = 0 ∨ j = 1 ∨ j = 2 by omega) with rfl | rfl | rfl <;> simp [goV, un_at, h_1, h_2, hs9]; done) | (simp [goV, un_at, rv, pk, h_1, h_2, hs9]; omega)) dX6_goOn_135
      · skip
        refine lv_isub S.1 S.2.1 dX6_goOn_77 ?_
        refine lv_iconst (v := nI 0) S.1 S.2.1 dX6_goOn_78 (ofInt_nI 0) ?_
        refine nv_imax0 (rest := [.ref q]) S hl.1 (by decide +kernel) (by decide +kernel) (by decide +kernel) (by decide +kernel) (Nat.le_of_ble_eq_true rfl) (Nat.le_of_ble_eq_true rfl) ⟨Nat.zero_le _, Nat.zero_le _⟩ (pk_sneg (by omega) (by omega)) dX6_goOn_79 ?_
        refine nv_put S w (C := RX6) (T := TX6) (N := 9) hn_X6_goOn_6 tyX6_ok nmX6 0 rfl rfl 0 (by decide) (List.mem_of_getElem? (i := 2) rfl) rfl rfl (Nat.le_of_ble_eq_true rfl) (ws' := [(q, .inr (5, [vI 0, vI (V 1), vI (V 2), vI (V 3), vI (V 11), vI (V 4), .ref qp, .ref qr, vI (pk (rv V))])), (qp, .inl (Z 0, 3, .inl (ar 3 (fun j => V (5 + 2 * j))))), (qr, .inl (Z 0, 3, .inl (ar 3 (fun j => V (6 + 2 * j)))))]) rfl dX6_goOn_82 (fun H locs w => ?_)
        refine lv_goto (tgt := 135) S.1 S.2.1 dX6_goOn_85 (by decide) ?_
        exact nv_vret S w hr hlocks (by apply voiceB_mk <;> first | rfl | (simp [goV, un_at, rv, pk, h_1, h_2, hs9]; done) | (intro j hj; rcases (show j = 0 ∨ j = 1 ∨ j = 2 by omega) with rfl | rfl | rfl <;> simp [goV, un_at, h_1, h_2, hs9]; done) | (simp [goV, un_at, rv, pk, h_1, h_2, hs9]; omega)) dX6_goOn_135
    · skip
      by_cases h_3 : V 14 = 3
      · skip
        refine nv_tableIn S (by omega) dX6_goOn_15 (by rw [h_3]; decide) (by rw [h_3]; decide) (off := 73) (by rw [h_3]; rfl) (tgt := 88) (by decide) ?_
        refine lv_aload_n S.1 S.2.1 dX6_goOn_88 rfl (lv_at hl 1 rfl) ?_
        refine lv_aload_n S.1 S.2.1 dX6_goOn_89 rfl (lv_at hl 1 rfl) ?_
        refine nv_get S w (C := RX6) (T := TX6) (N := 9) hn_X6_goOn_6 0 rfl rfl 1 (by decide) (List.mem_of_getElem? (i := 10) rfl) (v := vI (V 1)) rfl dX6_goOn_90 ?_
        refine lv_iload_n S.1 S.2.1 dX6_goOn_93 rfl (lv_at hl 0 rfl) ?_
        refine nv_iadd S dX6_goOn_94 ?_
        refine lv_bipush (v := nI 15) S.1 S.2.1 dX6_goOn_95 (by decide +kernel) ?_
        refine nv_imin (rest := [.ref q]) S hl.1 (by decide +kernel) (by decide +kernel) (by decide +kernel) (by decide +kernel) (Nat.le_of_ble_eq_true rfl) (Nat.le_of_ble_eq_true rfl) ⟨Nat.zero_le _, Nat.zero_le _⟩ (by omega) (by omega) dX6_goOn_97 ?_
        refine nv_put S w (C := RX6) (T := TX6) (N := 9) hn_X6_goOn_6 tyX6_ok nmX6 0 rfl rfl 1 (by decide) (List.mem_of_getElem? (i := 10) rfl) rfl rfl (Nat.le_of_ble_eq_true rfl) (ws' := [(q, .inr (5, [vI (V 0), vI (min ((V 1) + (V 15)) 15), vI (V 2), vI (V 3), vI (V 11), vI (V 4), .ref qp, .ref qr, vI (pk (rv V))])), (qp, .inl (Z 0, 3, .inl (ar 3 (fun j => V (5 + 2 * j))))), (qr, .inl (Z 0, 3, .inl (ar 3 (fun j => V (6 + 2 * j)))))]) rfl dX6_goOn_100 (fun H locs w => ?_)
        refine lv_goto (tgt := 135) S.1 S.2.1 dX6_goOn_103 (by decide) ?_
        exact nv_vret S w hr hlocks (by apply voiceB_mk <;> first | rfl | (simp [goV, un_at, rv, pk, h_1, h_2, h_3]; done) | (intro j hj; rcases (show j = 0 ∨ j = 1 ∨ j = 2 by omega) with rfl | rfl | rfl <;> simp [goV, un_at, h_1, h_2, h_3]; done) | (simp [goV, un_at, rv, pk, h_1, h_2, h_3]; omega)) dX6_goOn_135
      · skip
        by_cases h_4 : V 14 = 4
        · skip
          refine nv_tableIn S (by omega) dX6_goOn_15 (by rw [h_4]; decide) (by rw [h_4]; decide) (off := 91) (by rw [h_4]; rfl) (tgt := 106) (by decide) ?_
          refine lv_aload_n S.1 S.2.1 dX6_goOn_106 rfl (lv_at hl 1 rfl) ?_
          refine lv_aload_n S.1 S.2.1 dX6_goOn_107 rfl (lv_at hl 1 rfl) ?_
          refine nv_get S w (C := RX6) (T := TX6) (N := 9) hn_X6_goOn_6 0 rfl rfl 1 (by decide) (List.mem_of_getElem? (i := 10) rfl) (v := vI (V 1)) rfl dX6_goOn_108 ?_
          refine lv_iload_n S.1 S.2.1 dX6_goOn_111 rfl (lv_at hl 0 rfl) ?_
          by_cases hs9 : V 15 ≤ V 1
          · skip
            refine nv_isub S (by omega) dX6_goOn_112 ?_
            refine lv_iconst (v := nI 0) S.1 S.2.1 dX6_goOn_113 (ofInt_nI 0) ?_
            refine nv_imax (rest := [.ref q]) S hl.1 (by decide +kernel) (by decide +kernel) (by decide +kernel) (by decide +kernel) (Nat.le_of_ble_eq_true rfl) (Nat.le_of_ble_eq_true rfl) ⟨Nat.zero_le _, Nat.zero_le _⟩ (by omega) (by omega) dX6_goOn_114 ?_
            refine nv_put S w (C := RX6) (T := TX6) (N := 9) hn_X6_goOn_6 tyX6_ok nmX6 0 rfl rfl 1 (by decide) (List.mem_of_getElem? (i := 10) rfl) rfl rfl (Nat.le_of_ble_eq_true rfl) (ws' := [(q, .inr (5, [vI (V 0), vI (max ((V 1) - (V 15)) 0), vI (V 2), vI (V 3), vI (V 11), vI (V 4), .ref qp, .ref qr, vI (pk (rv V))])), (qp, .inl (Z 0, 3, .inl (ar 3 (fun j => V (5 + 2 * j))))), (qr, .inl (Z 0, 3, .inl (ar 3 (fun j => V (6 + 2 * j)))))]) rfl dX6_goOn_117 (fun H locs w => ?_)
            refine lv_goto (tgt := 135) S.1 S.2.1 dX6_goOn_120 (by decide) ?_
            exact nv_vret S w hr hlocks (by apply voiceB_mk <;> first | rfl | (simp [goV, un_at, rv, pk, h_1, h_2, h_3, h_4, hs9]; done) | (intro j hj; rcases (show j = 0 ∨ j = 1 ∨ j = 2 by omega) with rfl | rfl | rfl <;> simp [goV, un_at, h_1, h_2, h_3, h_4, hs9]; done) | (simp [goV, un_at, rv, pk, h_1, h_2, h_3, h_4, hs9]; omega)) dX6_goOn_135
          · skip
            refine lv_isub S.1 S.2.1 dX6_goOn_112 ?_
            refine lv_iconst (v := nI 0) S.1 S.2.1 dX6_goOn_113 (ofInt_nI 0) ?_
            refine nv_imax0 (rest := [.ref q]) S hl.1 (by decide +kernel) (by decide +kernel) (by decide +kernel) (by decide +kernel) (Nat.le_of_ble_eq_true rfl) (Nat.le_of_ble_eq_true rfl) ⟨Nat.zero_le _, Nat.zero_le _⟩ (pk_sneg (by omega) (by omega)) dX6_goOn_114 ?_
            refine nv_put S w (C := RX6) (T := TX6) (N := 9) hn_X6_goOn_6 tyX6_ok nmX6 0 rfl rfl 1 (by decide) (List.mem_of_getElem? (i := 10) rfl) rfl rfl (Nat.le_of_ble_eq_true rfl) (ws' := [(q, .inr (5, [vI (V 0), vI 0, vI (V 2), vI (V 3), vI (V 11), vI (V 4), .ref qp, .ref qr, vI (pk (rv V))])), (qp, .inl (Z 0, 3, .inl (ar 3 (fun j => V (5 + 2 * j))))), (qr, .inl (Z 0, 3, .inl (ar 3 (fun j => V (6 + 2 * j)))))]) rfl dX6_goOn_117 (fun H locs w => ?_)
            refine lv_goto (tgt := 135) S.1 S.2.1 dX6_goOn_120 (by decide) ?_
            exact nv_vret S w hr hlocks (by apply voiceB_mk <;> first | rfl | (simp [goV, un_at, rv, pk, h_1, h_2, h_3, h_4, hs9]; done) | (intro j hj; rcases (show j = 0 ∨ j = 1 ∨ j = 2 by omega) with rfl | rfl | rfl <;> simp [goV, un_at, h_1, h_2, h_3, h_4, hs9]; done) | (simp [goV, un_at, rv, pk, h_1, h_2, h_3, h_4, hs9]; omega)) dX6_goOn_135
        · skip
          by_cases h_5 : V 14 = 6
          · skip
            refine nv_tableIn S (by omega) dX6_goOn_15 (by rw [h_5]; decide) (by rw [h_5]; decide) (off := 108) (by rw [h_5]; rfl) (tgt := 123) (by decide) ?_
            refine lv_iload_n S.1 S.2.1 dX6_goOn_123 rfl (lv_at hl 0 rfl) ?_
            refine lv_iload_n S.1 S.2.1 dX6_goOn_124 rfl (lv_at hl 2 rfl) ?_
            refine nv_icmp_ne S (by omega) (by omega) (tgt := 135) dX6_goOn_125 (by decide) (fun h_6 => ?_) (fun h_6 => ?_)
            · skip
              exact nv_vret S w hr hlocks (by simp [goV, h_1, h_2, h_3, h_4, h_5, h_6]) dX6_goOn_135
            · skip
              refine lv_aload_n S.1 S.2.1 dX6_goOn_128 rfl (lv_at hl 1 rfl) ?_
              refine nv_cVv (rest := []) (ws' := voiceB Z q qp qr (begV V)) S w hl.1 (c_X6_beginNote l D Z q qp qr V h) [0, 1, 2] rfl rfl rfl rfl gX6_goOn_X6_beginNote rfl hdV_X6_beginNote ⟨Nat.le_of_ble_eq_true rfl, Nat.le_of_ble_eq_true rfl⟩ (q0 := 0) rfl rfl rfl rfl (Nat.le_of_ble_eq_true rfl) ⟨Nat.zero_le _, Nat.zero_le _⟩ dX6_goOn_129 (fun H locs w => ?_)
              refine lv_goto (tgt := 135) S.1 S.2.1 dX6_goOn_132 (by decide) ?_
              exact nv_vret S w hr hlocks (by simp [goV, h_1, h_2, h_3, h_4, h_5, h_6]) dX6_goOn_135
          · skip
            by_cases h_7 : V 14 = 5
            · skip
              refine nv_tableIn S (by omega) dX6_goOn_15 (by rw [h_7]; decide) (by rw [h_7]; decide) (off := 120) (by rw [h_7]; rfl) (tgt := 135) (by decide) ?_
              exact nv_vret S w hr hlocks (by simp [goV, h_1, h_2, h_3, h_4, h_5, h_7]) dX6_goOn_135
            · skip
              refine nv_tableOut S (by omega) dX6_goOn_15 (by omega) (tgt := 135) (by decide) ?_
              exact nv_vret S w hr hlocks (by simp [goV, h_1, h_2, h_3, h_4, h_5, h_7]) dX6_goOn_135

theorem hn_X6_hear_6 : ∀ w ∈ wsX60, w ∈ wsX6_hear := by decide +kernel
theorem hdS_X7_stolenSound : yX7_stolenSound.cls ≠ "java/lang/invoke/MethodHandle" ∧ yX7_stolenSound.cls ≠ "java/lang/invoke/VarHandle" ∧ (parseMethodDescriptor yX7_stolenSound.desc).map (fun d => d.parameters.length) = some 1 := by decide +kernel
set_option maxRecDepth 100000 in
set_option maxHeartbeats 4000000 in
theorem c_X6_hear (l : Launch) (D : va_G) (Z : Nat → ClassId) (q qp qr : Nat) (V : Nat → Nat) (h : VB V) : Cv l yX6_hear wsX6_hear 2 41 D Z [.ref q] (voiceB Z q qp qr V)  (voiceB Z q qp qr (hearV V)) := by
  refine ne_v (cc := cX6_hear) (maxL := 1) (by decide +kernel) rfl (Nat.le_of_ble_eq_true rfl) (fun p e s m args below meth c A ls (S : CallFix p m c cX6_hear 1 s args wsX6_hear RX6) hr hlocks hl w => ?_)
  have h2 := h
  unfold VB at h2
  have hl : lv_has ls 1 [(0, .ref q)] := hl
  refine lv_aload_n S.1 S.2.1 dX6_hear_0 rfl (lv_at hl 0 rfl) ?_
  refine nv_get S w (C := RX6) (T := TX6) (N := 9) hn_X6_hear_6 0 rfl rfl 2 (by decide) (List.mem_of_getElem? (i := 1) rfl) (v := vI (V 2)) rfl dX6_hear_1 ?_
  refine nv_if_le S (by omega) (tgt := 31) dX6_hear_4 (by decide) (fun h_1 => ?_) (fun h_1 => ?_)
  · skip
    refine lv_aload_n S.1 S.2.1 dX6_hear_31 rfl (lv_at hl 0 rfl) ?_
    refine lv_aload_n S.1 S.2.1 dX6_hear_32 rfl (lv_at hl 0 rfl) ?_
    refine nv_get S w (C := RX6) (T := TX6) (N := 9) hn_X6_hear_6 0 rfl rfl 1 (by decide) (List.mem_of_getElem? (i := 4) rfl) (v := vI (V 1)) rfl dX6_hear_33 ?_
    refine nv_if_ne S (by omega) (tgt := 43) dX6_hear_36 (by decide) (fun h_2 => ?_) (fun h_2 => ?_)
    · skip
      refine lv_aload_n S.1 S.2.1 dX6_hear_43 rfl (lv_at hl 0 rfl) ?_
      refine nv_get S w (C := RX6) (T := TX6) (N := 9) hn_X6_hear_6 0 rfl rfl 0 (by decide) (List.mem_of_getElem? (i := 5) rfl) (v := vI (V 0)) rfl dX6_hear_44 ?_
      refine lv_aload_n S.1 S.2.1 dX6_hear_47 rfl (lv_at hl 0 rfl) ?_
      refine nv_get S w (C := RX6) (T := TX6) (N := 9) hn_X6_hear_6 0 rfl rfl 1 (by decide) (List.mem_of_getElem? (i := 4) rfl) (v := vI (V 1)) rfl dX6_hear_48 ?_
      refine nv_pNi (rest := [.ref q]) S w hl.1 (c_X7_sound l D Z (V 0) (V 1) ) gX6_hear_X7_sound_n90 rfl (kN := 8) rfl (List.mem_of_getElem? (i := 7) rfl) (List.mem_of_getElem? (i := 14) rfl) hdS_X7_sound ⟨Nat.le_of_ble_eq_true rfl, Nat.le_of_ble_eq_true rfl⟩ rfl rfl (Nat.le_of_ble_eq_true rfl) ⟨Nat.zero_le _, Nat.zero_le _⟩ dX6_hear_51 (fun H locs w => ?_)
      refine nv_put S w (C := RX6) (T := TX6) (N := 9) hn_X6_hear_6 tyX6_ok nmX6 0 rfl rfl 4 (by decide) (List.mem_of_getElem? (i := 3) rfl) rfl rfl (Nat.le_of_ble_eq_true rfl) (ws' := [(q, .inr (5, [vI (V 0), vI (V 1), vI (V 2), vI (V 3), vI (16 * (V 0) + (V 1)), vI (V 4), .ref qp, .ref qr, vI (pk (rv V))])), (qp, .inl (Z 0, 3, .inl (ar 3 (fun j => V (5 + 2 * j))))), (qr, .inl (Z 0, 3, .inl (ar 3 (fun j => V (6 + 2 * j)))))]) rfl dX6_hear_54 (fun H locs w => ?_)
      exact nv_vret S w hr hlocks (by apply voiceB_mk <;> first | rfl | (simp [hearV, un_at, rv, pk, h_1, h_2]; done) | (intro j hj; rcases (show j = 0 ∨ j = 1 ∨ j = 2 by omega) with rfl | rfl | rfl <;> simp [hearV, un_at, h_1, h_2]; done) | (simp [hearV, un_at, rv, pk, h_1, h_2]; omega)) dX6_hear_57
    · skip
      refine lv_iconst (v := nI 0) S.1 S.2.1 dX6_hear_39 (ofInt_nI 0) ?_
      refine lv_goto (tgt := 54) S.1 S.2.1 dX6_hear_40 (by decide) ?_
      refine nv_put S w (C := RX6) (T := TX6) (N := 9) hn_X6_hear_6 tyX6_ok nmX6 0 rfl rfl 4 (by decide) (List.mem_of_getElem? (i := 3) rfl) rfl rfl (Nat.le_of_ble_eq_true rfl) (ws' := [(q, .inr (5, [vI (V 0), vI (V 1), vI (V 2), vI (V 3), vI 0, vI (V 4), .ref qp, .ref qr, vI (pk (rv V))])), (qp, .inl (Z 0, 3, .inl (ar 3 (fun j => V (5 + 2 * j))))), (qr, .inl (Z 0, 3, .inl (ar 3 (fun j => V (6 + 2 * j)))))]) rfl dX6_hear_54 (fun H locs w => ?_)
      exact nv_vret S w hr hlocks (by apply voiceB_mk <;> first | rfl | (simp [hearV, un_at, rv, pk, h_1, h_2]; done) | (intro j hj; rcases (show j = 0 ∨ j = 1 ∨ j = 2 by omega) with rfl | rfl | rfl <;> simp [hearV, un_at, h_1, h_2]; done) | (simp [hearV, un_at, rv, pk, h_1, h_2]; omega)) dX6_hear_57
  · skip
    refine lv_aload_n S.1 S.2.1 dX6_hear_7 rfl (lv_at hl 0 rfl) ?_
    refine lv_aload_n S.1 S.2.1 dX6_hear_8 rfl (lv_at hl 0 rfl) ?_
    refine nv_get S w (C := RX6) (T := TX6) (N := 9) hn_X6_hear_6 0 rfl rfl 3 (by decide) (List.mem_of_getElem? (i := 2) rfl) (v := vI (V 3)) rfl dX6_hear_9 ?_
    refine nv_pNi (rest := [.ref q]) S w hl.1 (c_X7_stolenSound l D Z (V 3) ) gX6_hear_X7_stolenSound_n87 rfl (kN := 7) rfl (List.mem_of_getElem? (i := 7) rfl) (List.mem_of_getElem? (i := 6) rfl) hdS_X7_stolenSound ⟨Nat.le_of_ble_eq_true rfl, Nat.le_of_ble_eq_true rfl⟩ rfl rfl (Nat.le_of_ble_eq_true rfl) ⟨Nat.zero_le _, Nat.zero_le _⟩ dX6_hear_12 (fun H locs w => ?_)
    refine nv_put S w (C := RX6) (T := TX6) (N := 9) hn_X6_hear_6 tyX6_ok nmX6 0 rfl rfl 4 (by decide) (List.mem_of_getElem? (i := 3) rfl) rfl rfl (Nat.le_of_ble_eq_true rfl) (ws' := [(q, .inr (5, [vI (V 0), vI (V 1), vI (V 2), vI (V 3), vI (16 * (16 * (V 3)) + 15), vI (V 4), .ref qp, .ref qr, vI (pk (rv V))])), (qp, .inl (Z 0, 3, .inl (ar 3 (fun j => V (5 + 2 * j))))), (qr, .inl (Z 0, 3, .inl (ar 3 (fun j => V (6 + 2 * j)))))]) rfl dX6_hear_15 (fun H locs w => ?_)
    refine lv_aload_n S.1 S.2.1 dX6_hear_18 rfl (lv_at hl 0 rfl) ?_
    refine lv_dup S.1 S.2.1 dX6_hear_19 rfl ?_
    refine nv_get S w (C := RX6) (T := TX6) (N := 9) hn_X6_hear_6 0 rfl rfl 2 (by decide) (List.mem_of_getElem? (i := 1) rfl) (v := vI (V 2)) rfl dX6_hear_20 ?_
    refine lv_iconst (v := nI 1) S.1 S.2.1 dX6_hear_23 (ofInt_nI 1) ?_
    refine nv_isub S (by omega) dX6_hear_24 ?_
    refine nv_put S w (C := RX6) (T := TX6) (N := 9) hn_X6_hear_6 tyX6_ok nmX6 0 rfl rfl 2 (by decide) (List.mem_of_getElem? (i := 1) rfl) rfl rfl (Nat.le_of_ble_eq_true rfl) (ws' := [(q, .inr (5, [vI (V 0), vI (V 1), vI ((V 2) - 1), vI (V 3), vI (16 * (16 * (V 3)) + 15), vI (V 4), .ref qp, .ref qr, vI (pk (rv V))])), (qp, .inl (Z 0, 3, .inl (ar 3 (fun j => V (5 + 2 * j))))), (qr, .inl (Z 0, 3, .inl (ar 3 (fun j => V (6 + 2 * j)))))]) rfl dX6_hear_25 (fun H locs w => ?_)
    refine lv_goto (tgt := 57) S.1 S.2.1 dX6_hear_28 (by decide) ?_
    exact nv_vret S w hr hlocks (by apply voiceB_mk <;> first | rfl | (simp [hearV, un_at, rv, pk, h_1]; done) | (intro j hj; rcases (show j = 0 ∨ j = 1 ∨ j = 2 by omega) with rfl | rfl | rfl <;> simp [hearV, un_at, h_1]; done) | (simp [hearV, un_at, rv, pk, h_1]; omega)) dX6_hear_57

theorem hn_X6_latestPattern_6 : ∀ w ∈ wsX60, w ∈ wsX6_latestPattern := by decide +kernel
theorem hdS_X7_isIndex : yX7_isIndex.cls ≠ "java/lang/invoke/MethodHandle" ∧ yX7_isIndex.cls ≠ "java/lang/invoke/VarHandle" ∧ (parseMethodDescriptor yX7_isIndex.desc).map (fun d => d.parameters.length) = some 2 := by decide +kernel
set_option maxRecDepth 100000 in
set_option maxHeartbeats 4000000 in
theorem c_X6_latestPattern0 (l : Launch) (D : va_G) (Z : Nat → ClassId) (q qp qr : Nat) (V : Nat → Nat) (h : VB V) (h0 : V 4 = 0) : Ci l yX6_latestPattern wsX6_latestPattern 1 21 D Z [.ref q] (voiceB Z q qp qr V) (-1) (voiceB Z q qp qr V) := by
  refine ne_i (cc := cX6_latestPattern) (maxL := 2) (by decide +kernel) rfl (Nat.le_of_ble_eq_true rfl) (fun p e s m args below meth c A ls (S : CallFix p m c cX6_latestPattern 2 s args wsX6_latestPattern RX6) hr hlocks hl w => ?_)
  have h2 := h
  unfold VB at h2
  have hl : lv_has ls 2 [(0, .ref q)] := hl
  refine lv_aload_n S.1 S.2.1 dX6_latestPattern_0 rfl (lv_at hl 0 rfl) ?_
  refine nv_get S w (C := RX6) (T := TX6) (N := 9) hn_X6_latestPattern_6 0 rfl rfl 5 (by decide) (List.mem_of_getElem? (i := 1) rfl) (v := vI (V 4)) rfl dX6_latestPattern_1 ?_
  refine lv_iconst (v := nI 1) S.1 S.2.1 dX6_latestPattern_4 (ofInt_nI 1) ?_
  refine lv_isub S.1 S.2.1 dX6_latestPattern_5 ?_
  refine W.eq (g2 := F0 m 6 ls [.int (-1)]) (by rw [h0]; rfl) ?_
  refine lv_istore_n (lv' := [(1, .int (-1)), (0, .ref q)]) S.1 S.2.1 dX6_latestPattern_6 rfl hl (by decide) rfl (fun ls hl => ?_)
  refine lv_iload_n S.1 S.2.1 dX6_latestPattern_7 rfl (lv_at hl 0 rfl) ?_
  refine lv_iconst (v := nI 3) S.1 S.2.1 dX6_latestPattern_8 (ofInt_nI 3) ?_
  refine nv_pNi (rest := []) S w hl.1 (c_X7_isIndex l D Z (-1) (nI 3) ) gX6_latestPattern_X7_isIndex_n52 rfl (kN := 6) rfl (List.mem_of_getElem? (i := 4) rfl) (List.mem_of_getElem? (i := 3) rfl) hdS_X7_isIndex ⟨Nat.le_of_ble_eq_true rfl, Nat.le_of_ble_eq_true rfl⟩ rfl rfl (Nat.le_of_ble_eq_true rfl) ⟨Nat.zero_le _, Nat.zero_le _⟩ dX6_latestPattern_9 (fun H locs w => ?_)
  refine nv_if_eqB S (tgt := 24) dX6_latestPattern_12 (by decide) (fun h_1 => ?_) (fun h_1 => ?_)
  · skip
    refine lv_iconst (v := -1) S.1 S.2.1 dX6_latestPattern_24 (by decide +kernel) ?_
    exact nv_iret S w hr hlocks rfl rfl rfl dX6_latestPattern_25
  · skip
    exact absurd h_1 (by decide)

set_option maxRecDepth 100000 in
set_option maxHeartbeats 4000000 in
theorem c_X6_latestPattern (l : Launch) (D : va_G) (Z : Nat → ClassId) (q qp qr : Nat) (V : Nat → Nat) (h : VB V) (h0 : 0 < V 4) : Ci l yX6_latestPattern wsX6_latestPattern 1 21 D Z [.ref q] (voiceB Z q qp qr V) (nI (V (5 + 2 * (V 4 - 1)))) (voiceB Z q qp qr V) := by
  refine ne_i (cc := cX6_latestPattern) (maxL := 2) (by decide +kernel) rfl (Nat.le_of_ble_eq_true rfl) (fun p e s m args below meth c A ls (S : CallFix p m c cX6_latestPattern 2 s args wsX6_latestPattern RX6) hr hlocks hl w => ?_)
  have h2 := h
  unfold VB at h2
  have hl : lv_has ls 2 [(0, .ref q)] := hl
  refine lv_aload_n S.1 S.2.1 dX6_latestPattern_0 rfl (lv_at hl 0 rfl) ?_
  refine nv_get S w (C := RX6) (T := TX6) (N := 9) hn_X6_latestPattern_6 0 rfl rfl 5 (by decide) (List.mem_of_getElem? (i := 1) rfl) (v := vI (V 4)) rfl dX6_latestPattern_1 ?_
  refine lv_iconst (v := nI 1) S.1 S.2.1 dX6_latestPattern_4 (ofInt_nI 1) ?_
  refine nv_isub S (by omega) dX6_latestPattern_5 ?_
  refine lv_istore_n (lv' := [(1, vI ((V 4) - 1)), (0, .ref q)]) S.1 S.2.1 dX6_latestPattern_6 rfl hl (by decide) rfl (fun ls hl => ?_)
  refine lv_iload_n S.1 S.2.1 dX6_latestPattern_7 rfl (lv_at hl 0 rfl) ?_
  refine lv_iconst (v := nI 3) S.1 S.2.1 dX6_latestPattern_8 (ofInt_nI 3) ?_
  refine nv_pNi (rest := []) S w hl.1 (c_X7_isIndexN l D Z ((V 4) - 1) 3 (by omega) (by omega)) gX6_latestPattern_X7_isIndex_n52 rfl (kN := 6) rfl (List.mem_of_getElem? (i := 4) rfl) (List.mem_of_getElem? (i := 3) rfl) hdS_X7_isIndex ⟨Nat.le_of_ble_eq_true rfl, Nat.le_of_ble_eq_true rfl⟩ rfl rfl (Nat.le_of_ble_eq_true rfl) ⟨Nat.zero_le _, Nat.zero_le _⟩ dX6_latestPattern_9 (fun H locs w => ?_)
  refine nv_if_eqB S (tgt := 24) dX6_latestPattern_12 (by decide) (fun h_1 => ?_) (fun h_1 => ?_)
  · skip
    exfalso; omega
  · skip
    refine lv_aload_n S.1 S.2.1 dX6_latestPattern_15 rfl (lv_at hl 1 rfl) ?_
    refine nv_get S w (C := RX6) (T := TX6) (N := 9) hn_X6_latestPattern_6 0 rfl rfl 6 (by decide) (List.mem_of_getElem? (i := 2) rfl) (v := .ref qp) rfl dX6_latestPattern_16 ?_
    refine lv_iload_n S.1 S.2.1 dX6_latestPattern_19 rfl (lv_at hl 0 rfl) ?_
    refine nv_iald S w (i := ((V 4) - 1)) (g := (fun j => V (5 + 2 * j))) 1 rfl (by omega) (by decide) dX6_latestPattern_20 ?_
    refine W.eq (g2 := F0 m 21 ls [vI (V (5 + 2 * ((V 4) - 1)))]) rfl ?_
    refine lv_goto (tgt := 25) S.1 S.2.1 dX6_latestPattern_21 (by decide) ?_
    exact nv_iret S w hr hlocks rfl rfl rfl dX6_latestPattern_25

theorem hn_X6_latestRow_6 : ∀ w ∈ wsX60, w ∈ wsX6_latestRow := by decide +kernel
set_option maxRecDepth 100000 in
set_option maxHeartbeats 4000000 in
theorem c_X6_latestRow0 (l : Launch) (D : va_G) (Z : Nat → ClassId) (q qp qr : Nat) (V : Nat → Nat) (h : VB V) (h0 : V 4 = 0) : Ci l yX6_latestRow wsX6_latestRow 1 21 D Z [.ref q] (voiceB Z q qp qr V) (-1) (voiceB Z q qp qr V) := by
  refine ne_i (cc := cX6_latestRow) (maxL := 2) (by decide +kernel) rfl (Nat.le_of_ble_eq_true rfl) (fun p e s m args below meth c A ls (S : CallFix p m c cX6_latestRow 2 s args wsX6_latestRow RX6) hr hlocks hl w => ?_)
  have h2 := h
  unfold VB at h2
  have hl : lv_has ls 2 [(0, .ref q)] := hl
  refine lv_aload_n S.1 S.2.1 dX6_latestRow_0 rfl (lv_at hl 0 rfl) ?_
  refine nv_get S w (C := RX6) (T := TX6) (N := 9) hn_X6_latestRow_6 0 rfl rfl 5 (by decide) (List.mem_of_getElem? (i := 1) rfl) (v := vI (V 4)) rfl dX6_latestRow_1 ?_
  refine lv_iconst (v := nI 1) S.1 S.2.1 dX6_latestRow_4 (ofInt_nI 1) ?_
  refine lv_isub S.1 S.2.1 dX6_latestRow_5 ?_
  refine W.eq (g2 := F0 m 6 ls [.int (-1)]) (by rw [h0]; rfl) ?_
  refine lv_istore_n (lv' := [(1, .int (-1)), (0, .ref q)]) S.1 S.2.1 dX6_latestRow_6 rfl hl (by decide) rfl (fun ls hl => ?_)
  refine lv_iload_n S.1 S.2.1 dX6_latestRow_7 rfl (lv_at hl 0 rfl) ?_
  refine lv_iconst (v := nI 3) S.1 S.2.1 dX6_latestRow_8 (ofInt_nI 3) ?_
  refine nv_pNi (rest := []) S w hl.1 (c_X7_isIndex l D Z (-1) (nI 3) ) gX6_latestRow_X7_isIndex_n52 rfl (kN := 6) rfl (List.mem_of_getElem? (i := 4) rfl) (List.mem_of_getElem? (i := 3) rfl) hdS_X7_isIndex ⟨Nat.le_of_ble_eq_true rfl, Nat.le_of_ble_eq_true rfl⟩ rfl rfl (Nat.le_of_ble_eq_true rfl) ⟨Nat.zero_le _, Nat.zero_le _⟩ dX6_latestRow_9 (fun H locs w => ?_)
  refine nv_if_eqB S (tgt := 24) dX6_latestRow_12 (by decide) (fun h_1 => ?_) (fun h_1 => ?_)
  · skip
    refine lv_iconst (v := -1) S.1 S.2.1 dX6_latestRow_24 (by decide +kernel) ?_
    exact nv_iret S w hr hlocks rfl rfl rfl dX6_latestRow_25
  · skip
    exact absurd h_1 (by decide)

set_option maxRecDepth 100000 in
set_option maxHeartbeats 4000000 in
theorem c_X6_latestRow (l : Launch) (D : va_G) (Z : Nat → ClassId) (q qp qr : Nat) (V : Nat → Nat) (h : VB V) (h0 : 0 < V 4) : Ci l yX6_latestRow wsX6_latestRow 1 21 D Z [.ref q] (voiceB Z q qp qr V) (nI (V (6 + 2 * (V 4 - 1)))) (voiceB Z q qp qr V) := by
  refine ne_i (cc := cX6_latestRow) (maxL := 2) (by decide +kernel) rfl (Nat.le_of_ble_eq_true rfl) (fun p e s m args below meth c A ls (S : CallFix p m c cX6_latestRow 2 s args wsX6_latestRow RX6) hr hlocks hl w => ?_)
  have h2 := h
  unfold VB at h2
  have hl : lv_has ls 2 [(0, .ref q)] := hl
  refine lv_aload_n S.1 S.2.1 dX6_latestRow_0 rfl (lv_at hl 0 rfl) ?_
  refine nv_get S w (C := RX6) (T := TX6) (N := 9) hn_X6_latestRow_6 0 rfl rfl 5 (by decide) (List.mem_of_getElem? (i := 1) rfl) (v := vI (V 4)) rfl dX6_latestRow_1 ?_
  refine lv_iconst (v := nI 1) S.1 S.2.1 dX6_latestRow_4 (ofInt_nI 1) ?_
  refine nv_isub S (by omega) dX6_latestRow_5 ?_
  refine lv_istore_n (lv' := [(1, vI ((V 4) - 1)), (0, .ref q)]) S.1 S.2.1 dX6_latestRow_6 rfl hl (by decide) rfl (fun ls hl => ?_)
  refine lv_iload_n S.1 S.2.1 dX6_latestRow_7 rfl (lv_at hl 0 rfl) ?_
  refine lv_iconst (v := nI 3) S.1 S.2.1 dX6_latestRow_8 (ofInt_nI 3) ?_
  refine nv_pNi (rest := []) S w hl.1 (c_X7_isIndexN l D Z ((V 4) - 1) 3 (by omega) (by omega)) gX6_latestRow_X7_isIndex_n52 rfl (kN := 6) rfl (List.mem_of_getElem? (i := 4) rfl) (List.mem_of_getElem? (i := 3) rfl) hdS_X7_isIndex ⟨Nat.le_of_ble_eq_true rfl, Nat.le_of_ble_eq_true rfl⟩ rfl rfl (Nat.le_of_ble_eq_true rfl) ⟨Nat.zero_le _, Nat.zero_le _⟩ dX6_latestRow_9 (fun H locs w => ?_)
  refine nv_if_eqB S (tgt := 24) dX6_latestRow_12 (by decide) (fun h_1 => ?_) (fun h_1 => ?_)
  · skip
    exfalso; omega
  · skip
    refine lv_aload_n S.1 S.2.1 dX6_latestRow_15 rfl (lv_at hl 1 rfl) ?_
    refine nv_get S w (C := RX6) (T := TX6) (N := 9) hn_X6_latestRow_6 0 rfl rfl 7 (by decide) (List.mem_of_getElem? (i := 2) rfl) (v := .ref qr) rfl dX6_latestRow_16 ?_
    refine lv_iload_n S.1 S.2.1 dX6_latestRow_19 rfl (lv_at hl 0 rfl) ?_
    refine nv_iald S w (i := ((V 4) - 1)) (g := (fun j => V (6 + 2 * j))) 2 rfl (by omega) (by decide) dX6_latestRow_20 ?_
    refine W.eq (g2 := F0 m 21 ls [vI (V (6 + 2 * ((V 4) - 1)))]) rfl ?_
    refine lv_goto (tgt := 25) S.1 S.2.1 dX6_latestRow_21 (by decide) ?_
    exact nv_iret S w hr hlocks rfl rfl rfl dX6_latestRow_25

theorem hn_X6_enter_6 : ∀ w ∈ wsX60, w ∈ wsX6_enter := by decide +kernel
set_option maxRecDepth 100000 in
set_option maxHeartbeats 4000000 in
theorem c_X6_enter (l : Launch) (D : va_G) (Z : Nat → ClassId) (q qp qr : Nat) (V : Nat → Nat) (x : Nat) (h : VB V) (hx9 : x ≤ 5) : Cv l yX6_enter wsX6_enter 1 21 D Z [.ref q, vI x] (voiceB Z q qp qr V)  (voiceB Z q qp qr (entV V x)) := by
  refine ne_v (cc := cX6_enter) (maxL := 2) (by decide +kernel) rfl (Nat.le_of_ble_eq_true rfl) (fun p e s m args below meth c A ls (S : CallFix p m c cX6_enter 2 s args wsX6_enter RX6) hr hlocks hl w => ?_)
  have h2 := h
  unfold VB at h2
  have hl : lv_has ls 2 [(0, .ref q), (1, vI x)] := hl
  obtain ⟨fr, hfr⟩ : ∃ z, z = V 4 := ⟨_, rfl⟩
  refine lv_aload_n S.1 S.2.1 dX6_enter_0 rfl (lv_at hl 0 rfl) ?_
  refine nv_get S w (C := RX6) (T := TX6) (N := 9) hn_X6_enter_6 0 rfl rfl 5 (by decide) (List.mem_of_getElem? (i := 1) rfl) (v := vI (V 4)) rfl dX6_enter_1 ?_
  refine lv_iconst (v := nI 3) S.1 S.2.1 dX6_enter_4 (ofInt_nI 3) ?_
  refine nv_pNi (rest := []) S w hl.1 (c_X7_isIndexN l D Z (V 4) 3 (by omega) (by omega)) gX6_enter_X7_isIndex_n52 rfl (kN := 6) rfl (List.mem_of_getElem? (i := 5) rfl) (List.mem_of_getElem? (i := 4) rfl) hdS_X7_isIndex ⟨Nat.le_of_ble_eq_true rfl, Nat.le_of_ble_eq_true rfl⟩ rfl rfl (Nat.le_of_ble_eq_true rfl) ⟨Nat.zero_le _, Nat.zero_le _⟩ dX6_enter_5 (fun H locs w => ?_)
  refine nv_if_eqB S (tgt := 41) dX6_enter_8 (by decide) (fun h_1 => ?_) (fun h_1 => ?_)
  · skip
    exact nv_vret S w hr hlocks (by apply voiceB_mk <;> rcases (show V 4 = 0 ∨ V 4 = 1 ∨ V 4 = 2 ∨ V 4 = 3 by omega) with e | e | e | e <;> first | rfl | (exfalso; omega) | (simp [entV, un_at, rv, pk, e]; done) | (intro j hj; rcases (show j = 0 ∨ j = 1 ∨ j = 2 by omega) with rfl | rfl | rfl <;> simp [entV, un_at, e]; done)) dX6_enter_41
  · skip
    refine lv_aload_n S.1 S.2.1 dX6_enter_11 rfl (lv_at hl 0 rfl) ?_
    refine nv_get S w (C := RX6) (T := TX6) (N := 9) hn_X6_enter_6 0 rfl rfl 6 (by decide) (List.mem_of_getElem? (i := 2) rfl) (v := .ref qp) rfl dX6_enter_12 ?_
    refine lv_aload_n S.1 S.2.1 dX6_enter_15 rfl (lv_at hl 0 rfl) ?_
    refine nv_get S w (C := RX6) (T := TX6) (N := 9) hn_X6_enter_6 0 rfl rfl 5 (by decide) (List.mem_of_getElem? (i := 1) rfl) (v := vI (V 4)) rfl dX6_enter_16 ?_
    refine lv_iload_n S.1 S.2.1 dX6_enter_19 rfl (lv_at hl 1 rfl) ?_
    refine nv_iast S w (i := (V 4)) (x := x) (g := (fun j => V (5 + 2 * j))) 1 rfl (by omega) (by decide) (ws' := [(q, .inr (5, [vI (V 0), vI (V 1), vI (V 2), vI (V 3), vI (V 11), vI (V 4), .ref qp, .ref qr, vI (pk (rv V))])), (qp, .inl (Z 0, 3, .inl (ar 3 (un (fun j => V (5 + 2 * j)) (V 4) x)))), (qr, .inl (Z 0, 3, .inl (ar 3 (fun j => V (6 + 2 * j)))))]) rfl dX6_enter_20 (fun H locs w => ?_)
    refine lv_aload_n S.1 S.2.1 dX6_enter_21 rfl (lv_at hl 0 rfl) ?_
    refine nv_get S w (C := RX6) (T := TX6) (N := 9) hn_X6_enter_6 0 rfl rfl 7 (by decide) (List.mem_of_getElem? (i := 3) rfl) (v := .ref qr) rfl dX6_enter_22 ?_
    refine lv_aload_n S.1 S.2.1 dX6_enter_25 rfl (lv_at hl 0 rfl) ?_
    refine nv_get S w (C := RX6) (T := TX6) (N := 9) hn_X6_enter_6 0 rfl rfl 5 (by decide) (List.mem_of_getElem? (i := 1) rfl) (v := vI (V 4)) rfl dX6_enter_26 ?_
    refine lv_iconst (v := nI 0) S.1 S.2.1 dX6_enter_29 (ofInt_nI 0) ?_
    refine nv_iast S w (i := (V 4)) (x := 0) (g := (fun j => V (6 + 2 * j))) 2 rfl (by omega) (by decide) (ws' := [(q, .inr (5, [vI (V 0), vI (V 1), vI (V 2), vI (V 3), vI (V 11), vI (V 4), .ref qp, .ref qr, vI (pk (rv V))])), (qp, .inl (Z 0, 3, .inl (ar 3 (un (fun j => V (5 + 2 * j)) (V 4) x)))), (qr, .inl (Z 0, 3, .inl (ar 3 (un (fun j => V (6 + 2 * j)) (V 4) 0))))]) rfl dX6_enter_30 (fun H locs w => ?_)
    refine lv_aload_n S.1 S.2.1 dX6_enter_31 rfl (lv_at hl 0 rfl) ?_
    refine lv_dup S.1 S.2.1 dX6_enter_32 rfl ?_
    refine nv_get S w (C := RX6) (T := TX6) (N := 9) hn_X6_enter_6 0 rfl rfl 5 (by decide) (List.mem_of_getElem? (i := 1) rfl) (v := vI (V 4)) rfl dX6_enter_33 ?_
    refine lv_iconst (v := nI 1) S.1 S.2.1 dX6_enter_36 (ofInt_nI 1) ?_
    refine nv_iadd S dX6_enter_37 ?_
    refine nv_put S w (C := RX6) (T := TX6) (N := 9) hn_X6_enter_6 tyX6_ok nmX6 0 rfl rfl 5 (by decide) (List.mem_of_getElem? (i := 1) rfl) rfl rfl (Nat.le_of_ble_eq_true rfl) (ws' := [(q, .inr (5, [vI (V 0), vI (V 1), vI (V 2), vI (V 3), vI (V 11), vI ((V 4) + 1), .ref qp, .ref qr, vI (pk (rv V))])), (qp, .inl (Z 0, 3, .inl (ar 3 (un (fun j => V (5 + 2 * j)) (V 4) x)))), (qr, .inl (Z 0, 3, .inl (ar 3 (un (fun j => V (6 + 2 * j)) (V 4) 0))))]) rfl dX6_enter_38 (fun H locs w => ?_)
    exact nv_vret S w hr hlocks (by apply voiceB_mk <;> rcases (show V 4 = 0 ∨ V 4 = 1 ∨ V 4 = 2 ∨ V 4 = 3 by omega) with e | e | e | e <;> first | rfl | (exfalso; omega) | (simp [entV, un_at, rv, pk, e]; done) | (intro j hj; rcases (show j = 0 ∨ j = 1 ∨ j = 2 by omega) with rfl | rfl | rfl <;> simp [entV, un_at, e]; done)) dX6_enter_41

theorem hn_X6_stealBy_6 : ∀ w ∈ wsX60, w ∈ wsX6_stealBy := by decide +kernel
set_option maxRecDepth 100000 in
set_option maxHeartbeats 4000000 in
theorem c_X6_stealBy (l : Launch) (D : va_G) (Z : Nat → ClassId) (q qp qr : Nat) (V : Nat → Nat) (n t : Nat) (h : VB V) : Ci l yX6_stealBy wsX6_stealBy 0 0 D Z [.ref q, vI n, vI t] (voiceB Z q qp qr V) (nI (V 2)) (voiceB Z q qp qr (un (un V 3 n) 2 t)) := by
  refine ne_i (cc := cX6_stealBy) (maxL := 4) (by decide +kernel) rfl (Nat.le_of_ble_eq_true rfl) (fun p e s m args below meth c A ls (S : CallFix p m c cX6_stealBy 4 s args wsX6_stealBy RX6) hr hlocks hl w => ?_)
  have h2 := h
  unfold VB at h2
  have hl : lv_has ls 4 [(0, .ref q), (1, vI n), (2, vI t)] := hl
  refine lv_aload_n S.1 S.2.1 dX6_stealBy_0 rfl (lv_at hl 0 rfl) ?_
  refine nv_get S w (C := RX6) (T := TX6) (N := 9) hn_X6_stealBy_6 0 rfl rfl 2 (by decide) (List.mem_of_getElem? (i := 1) rfl) (v := vI (V 2)) rfl dX6_stealBy_1 ?_
  refine lv_istore_n (lv' := [(3, vI (V 2)), (0, .ref q), (1, vI n), (2, vI t)]) S.1 S.2.1 dX6_stealBy_4 rfl hl (by decide) rfl (fun ls hl => ?_)
  refine lv_aload_n S.1 S.2.1 dX6_stealBy_5 rfl (lv_at hl 1 rfl) ?_
  refine lv_iload_n S.1 S.2.1 dX6_stealBy_6 rfl (lv_at hl 2 rfl) ?_
  refine nv_put S w (C := RX6) (T := TX6) (N := 9) hn_X6_stealBy_6 tyX6_ok nmX6 0 rfl rfl 3 (by decide) (List.mem_of_getElem? (i := 2) rfl) rfl rfl (Nat.le_of_ble_eq_true rfl) (ws' := [(q, .inr (5, [vI (V 0), vI (V 1), vI (V 2), vI n, vI (V 11), vI (V 4), .ref qp, .ref qr, vI (pk (rv V))])), (qp, .inl (Z 0, 3, .inl (ar 3 (fun j => V (5 + 2 * j))))), (qr, .inl (Z 0, 3, .inl (ar 3 (fun j => V (6 + 2 * j)))))]) rfl dX6_stealBy_7 (fun H locs w => ?_)
  refine lv_aload_n S.1 S.2.1 dX6_stealBy_10 rfl (lv_at hl 1 rfl) ?_
  refine lv_iload_n S.1 S.2.1 dX6_stealBy_11 rfl (lv_at hl 3 rfl) ?_
  refine nv_put S w (C := RX6) (T := TX6) (N := 9) hn_X6_stealBy_6 tyX6_ok nmX6 0 rfl rfl 2 (by decide) (List.mem_of_getElem? (i := 1) rfl) rfl rfl (Nat.le_of_ble_eq_true rfl) (ws' := [(q, .inr (5, [vI (V 0), vI (V 1), vI t, vI n, vI (V 11), vI (V 4), .ref qp, .ref qr, vI (pk (rv V))])), (qp, .inl (Z 0, 3, .inl (ar 3 (fun j => V (5 + 2 * j))))), (qr, .inl (Z 0, 3, .inl (ar 3 (fun j => V (6 + 2 * j)))))]) rfl dX6_stealBy_12 (fun H locs w => ?_)
  refine lv_iload_n S.1 S.2.1 dX6_stealBy_15 rfl (lv_at hl 0 rfl) ?_
  exact nv_iret S w hr hlocks rfl rfl (by apply voiceB_mk <;> first | rfl | (simp [un_at, un_at, rv, pk, un_at]; done) | (intro j hj; rcases (show j = 0 ∨ j = 1 ∨ j = 2 by omega) with rfl | rfl | rfl <;> simp [un_at, un_at, un_at]; done) | (simp [un_at, un_at, rv, pk, un_at]; omega)) dX6_stealBy_16
