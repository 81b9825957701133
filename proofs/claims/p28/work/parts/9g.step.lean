theorem hdS_L_up : yL_up.cls ≠ "java/lang/invoke/MethodHandle" ∧ yL_up.cls ≠ "java/lang/invoke/VarHandle" ∧ (parseMethodDescriptor yL_up.desc).map (fun d => d.parameters.length) = some 2 := by decide +kernel
theorem hdV_X7_hashOf : yX7_hashOf.cls = RX7 ∧ yX7_hashOf.cls ≠ "java/lang/invoke/MethodHandle" ∧ yX7_hashOf.cls ≠ "java/lang/invoke/VarHandle" ∧ (parseMethodDescriptor yX7_hashOf.desc).map (fun d => d.parameters.length) = some 1 := by decide +kernel
theorem hdV_X7_play : yX7_play.cls = RX7 ∧ yX7_play.cls ≠ "java/lang/invoke/MethodHandle" ∧ yX7_play.cls ≠ "java/lang/invoke/VarHandle" ∧ (parseMethodDescriptor yX7_play.desc).map (fun d => d.parameters.length) = some 1 := by decide +kernel
theorem hdV_X7_value : yX7_value.cls = RX7 ∧ yX7_value.cls ≠ "java/lang/invoke/MethodHandle" ∧ yX7_value.cls ≠ "java/lang/invoke/VarHandle" ∧ (parseMethodDescriptor yX7_value.desc).map (fun d => d.parameters.length) = some 1 := by decide +kernel
theorem hdV_X7_shorten : yX7_shorten.cls = RX7 ∧ yX7_shorten.cls ≠ "java/lang/invoke/MethodHandle" ∧ yX7_shorten.cls ≠ "java/lang/invoke/VarHandle" ∧ (parseMethodDescriptor yX7_shorten.desc).map (fun d => d.parameters.length) = some 0 := by decide +kernel
theorem hdV_X7_giveBack : yX7_giveBack.cls = RX7 ∧ yX7_giveBack.cls ≠ "java/lang/invoke/MethodHandle" ∧ yX7_giveBack.cls ≠ "java/lang/invoke/VarHandle" ∧ (parseMethodDescriptor yX7_giveBack.desc).map (fun d => d.parameters.length) = some 1 := by decide +kernel
theorem hdV_X7_steal : yX7_steal.cls = RX7 ∧ yX7_steal.cls ≠ "java/lang/invoke/MethodHandle" ∧ yX7_steal.cls ≠ "java/lang/invoke/VarHandle" ∧ (parseMethodDescriptor yX7_steal.desc).map (fun d => d.parameters.length) = some 3 := by decide +kernel
theorem hdV_X7_setOrder : yX7_setOrder.cls = RX7 ∧ yX7_setOrder.cls ≠ "java/lang/invoke/MethodHandle" ∧ yX7_setOrder.cls ≠ "java/lang/invoke/VarHandle" ∧ (parseMethodDescriptor yX7_setOrder.desc).map (fun d => d.parameters.length) = some 2 := by decide +kernel
theorem hdV_X7_setRows : yX7_setRows.cls = RX7 ∧ yX7_setRows.cls ≠ "java/lang/invoke/MethodHandle" ∧ yX7_setRows.cls ≠ "java/lang/invoke/VarHandle" ∧ (parseMethodDescriptor yX7_setRows.desc).map (fun d => d.parameters.length) = some 2 := by decide +kernel
theorem hdV_X7_setEffect : yX7_setEffect.cls = RX7 ∧ yX7_setEffect.cls ≠ "java/lang/invoke/MethodHandle" ∧ yX7_setEffect.cls ≠ "java/lang/invoke/VarHandle" ∧ (parseMethodDescriptor yX7_setEffect.desc).map (fun d => d.parameters.length) = some 5 := by decide +kernel
theorem hdV_X7_setNote : yX7_setNote.cls = RX7 ∧ yX7_setNote.cls ≠ "java/lang/invoke/MethodHandle" ∧ yX7_setNote.cls ≠ "java/lang/invoke/VarHandle" ∧ (parseMethodDescriptor yX7_setNote.desc).map (fun d => d.parameters.length) = some 5 := by decide +kernel
set_option maxRecDepth 100000 in
set_option maxHeartbeats 4000000 in
theorem k_L_isStep_476 (l : Launch) (hst : l.stackTraces = false) (D : va_G) (Z : Nat → ClassId) (z y : Nat → Nat → Nat) (X : ST) (o n : Nat) (Y : Nat → ST) (P : PG) (M : ST) (a b : Nat) (B : Nat → ST) (Q : PG) (x : Int32) (hL : LPq X o n M a b) (hT : X.2.1 4 + 20 ≤ 100000) {p : Program} {e : Env} {s : State} {m : MethodId} {args : Array Value} {below : List Frame} {meth : Method} {c : Code} {A : Nat → Prop} (S : CallFix p m c cL_isStep 10 s args wsL_isStep RL) (hr : meth.sig.returnType = (some .boolean)) (hlocks : meth.locks = false) (X9 : XT A s s.heap) (yv : Int32) (ua ub ch : Nat) (hua : ua < 6) (hub : ub < 8) (hch : ch < 4) : ∀ (H : Heap) (locs : List Loc) (ls : Array Slot) (hl : lv_has ls 10 [(0, .ref (z 0 0)), (1, .ref (y 0 0)), (2, .int x), (3, .int yv), (4, vI ua), (5, vI ub), (6, vI ch)]) (w : Wd D Z A s (qW Z z X o n Y P ++ qW Z y M a b B Q) H locs), W p l e (rmX 8 166 6 36) s m args below meth c H locs (0) (0) (Qr (β := ZB) below D Z A args s (fun u => zbL (X.2.1 4) u) (nI 1) (fun u => zbW Z z y u) 6 36) (F0 m 476 ls []) := by
  intro H locs ls hl w
  have hX := hL.1
  obtain ⟨b0, b1, b2, b3, b4, b5⟩ := hX.2.1
  have hp1 := hX.1.2.2.1
  have hp8 := hX.1.2.2.2.1
  refine lv_iconst (v := nI 1) S.1 S.2.1 dL_isStep_476 (ofInt_nI 1) ?_
  refine lv_iload_n S.1 S.2.1 dL_isStep_477 rfl (lv_at hl 3 rfl) ?_
  refine lv_bipush (v := nI 20) S.1 S.2.1 dL_isStep_478 (by decide +kernel) ?_
  obtain ⟨u11, hu11, eu11⟩ : ∃ k9, k9 < 20 ∧ upN yv 20 = k9 := ⟨_, upN_lt (by omega), rfl⟩
  refine nv_pSi (rest := [vI 1]) S w hl.1 (c_L_up l D Z yv 20 (by omega) (by omega)) gL_isStep_L_up rfl hdS_L_up ⟨(Nat.le_of_ble_eq_true rfl), (Nat.le_of_ble_eq_true rfl)⟩ rfl rfl (Nat.le_of_ble_eq_true rfl) ⟨(by show _ ≤ 6; omega), (by show _ ≤ 36; omega)⟩ dL_isStep_480 (fun H locs w => ?_)
  refine W.eq (g2 := F0 m 483 ls [vI u11, vI 1]) (by rw [eu11]) ?_
  refine nv_iadd S dL_isStep_483 ?_
  refine lv_istore (lv' := [(7, vI (1 + u11)), (0, .ref (z 0 0)), (1, .ref (y 0 0)), (2, .int x), (3, .int yv), (4, vI ua), (5, vI ub), (6, vI ch)]) S.1 S.2.1 dL_isStep_484 hl (by decide) rfl (fun ls hl => ?_)
  refine lv_aload_n S.1 S.2.1 dL_isStep_486 rfl (lv_at hl 1 rfl) ?_
  refine lv_iload S.1 S.2.1 dL_isStep_487 (lv_at hl 0 rfl) ?_
  obtain ⟨v12, X12, e12, hh12, hp12⟩ := q_hash l hst D Z z hL.1 (k := (1 + u11)) (by omega)
  obtain ⟨P12, hq12⟩ := hh12 o n Y P
  obtain ⟨hB12, ht12, hp12⟩ := hp12 (by omega) (by omega)
  refine nx_nVi ([]) (qW Z y M a b B Q) (ws' := qW Z z X o n Y P12 ++ qW Z y M a b B Q) (rest := []) S w X9 hl.1 (hq12) (by simp only [List.nil_append, List.append_nil, List.append_assoc]) adr_q (by simp only [List.nil_append, List.append_nil, List.append_assoc]) gL_isStep_X7_hashOf rfl hdV_X7_hashOf ⟨(Nat.le_of_ble_eq_true rfl), (Nat.le_of_ble_eq_true rfl)⟩ (q0 := 0) rfl rfl rfl rfl (Nat.le_of_ble_eq_true rfl) ⟨(by show _ ≤ 6; omega), (by show _ ≤ 36; omega)⟩ dL_isStep_489 (fun H locs w => ?_)
  refine lv_istore (lv' := [(8, .int v12), (7, vI (1 + u11)), (0, .ref (z 0 0)), (1, .ref (y 0 0)), (2, .int x), (3, .int yv), (4, vI ua), (5, vI ub), (6, vI ch)]) S.1 S.2.1 dL_isStep_492 hl (by decide) rfl (fun ls hl => ?_)
  refine lv_aload_n S.1 S.2.1 dL_isStep_494 rfl (lv_at hl 3 rfl) ?_
  refine lv_iload S.1 S.2.1 dL_isStep_495 (lv_at hl 1 rfl) ?_
  obtain ⟨v13, X13, e13, hh13, hp13⟩ := q_hash l hst D Z y hL.2.1 (k := (1 + u11)) (by omega)
  obtain ⟨P13, hq13⟩ := hh13 a b B Q
  obtain ⟨hB13, ht13, hp13⟩ := hp13 (by omega) (by rw [hL.2.2.1.2.1.1]; omega)
  refine nx_nVi (qW Z z X o n Y P12) ([]) (ws' := qW Z z X o n Y P12 ++ qW Z y M a b B P13) (rest := []) S w X9 hl.1 (hq13) (by simp only [List.nil_append, List.append_nil, List.append_assoc]) adr_q (by simp only [List.nil_append, List.append_nil, List.append_assoc]) gL_isStep_X7_hashOf rfl hdV_X7_hashOf ⟨(Nat.le_of_ble_eq_true rfl), (Nat.le_of_ble_eq_true rfl)⟩ (q0 := 0) rfl rfl rfl rfl (Nat.le_of_ble_eq_true rfl) ⟨(by show _ ≤ 6; omega), (by show _ ≤ 36; omega)⟩ dL_isStep_497 (fun H locs w => ?_)
  refine lv_istore (lv' := [(9, .int v13), (8, .int v12), (7, vI (1 + u11)), (0, .ref (z 0 0)), (1, .ref (y 0 0)), (2, .int x), (3, .int yv), (4, vI ua), (5, vI ub), (6, vI ch)]) S.1 S.2.1 dL_isStep_500 hl (by decide) rfl (fun ls hl => ?_)
  refine lv_aload_n S.1 S.2.1 dL_isStep_502 rfl (lv_at hl 3 rfl) ?_
  refine lv_iload S.1 S.2.1 dL_isStep_503 (lv_at hl 2 rfl) ?_
  refine nx_nVi ([]) (qW Z y M a b B P13) (ws' := qW Z z X12 (svO o n) (svN n + 1) (svX o n Y X) P12 ++ qW Z y M a b B P13) (rest := []) S w X9 hl.1 (hp12 o n Y P12 hL.2.2.2.1 hL.2.2.2.2.1) (by simp only [List.nil_append, List.append_nil, List.append_assoc]) adr_q (by simp only [List.nil_append, List.append_nil, List.append_assoc]) gL_isStep_X7_play rfl hdV_X7_play ⟨(Nat.le_of_ble_eq_true rfl), (Nat.le_of_ble_eq_true rfl)⟩ (q0 := 0) rfl rfl rfl rfl (Nat.le_of_ble_eq_true rfl) ⟨(by show _ ≤ 6; omega), (by show _ ≤ 36; omega)⟩ dL_isStep_505 (fun H locs w => ?_)
  refine lv_iload S.1 S.2.1 dL_isStep_508 (lv_at hl 1 rfl) ?_
  refine lv_icmp_ne (tgt := 528) S.1 S.2.1 dL_isStep_510 (by decide) (fun h9 => absurd rfl h9) (fun _ => ?_)
  refine lv_aload_n S.1 S.2.1 dL_isStep_513 rfl (lv_at hl 4 rfl) ?_
  refine lv_iload S.1 S.2.1 dL_isStep_514 (lv_at hl 2 rfl) ?_
  refine nx_nVi (qW Z z X12 (svO o n) (svN n + 1) (svX o n Y X) P12) ([]) (ws' := qW Z z X12 (svO o n) (svN n + 1) (svX o n Y X) P12 ++ qW Z y X13 (svO a b) (svN b + 1) (svX a b B M) P13) (rest := []) S w X9 hl.1 (hp13 a b B P13 hL.2.2.2.2.2.1 hL.2.2.2.2.2.2) (by simp only [List.nil_append, List.append_nil, List.append_assoc]) adr_q (by simp only [List.nil_append, List.append_nil, List.append_assoc]) gL_isStep_X7_play rfl hdV_X7_play ⟨(Nat.le_of_ble_eq_true rfl), (Nat.le_of_ble_eq_true rfl)⟩ (q0 := 0) rfl rfl rfl rfl (Nat.le_of_ble_eq_true rfl) ⟨(by show _ ≤ 6; omega), (by show _ ≤ 36; omega)⟩ dL_isStep_516 (fun H locs w => ?_)
  refine lv_iload S.1 S.2.1 dL_isStep_519 (lv_at hl 0 rfl) ?_
  refine lv_icmp_ne (tgt := 528) S.1 S.2.1 dL_isStep_521 (by decide) (fun h9 => absurd rfl h9) (fun _ => ?_)
  refine lv_iconst (v := nI 1) S.1 S.2.1 dL_isStep_524 (ofInt_nI 1) ?_
  refine lv_goto (tgt := 529) S.1 S.2.1 dL_isStep_525 (by decide) ?_
  exact nr_iret S w hr hlocks (nI_bool (by decide)) (X12, (svO o n), (svN n + 1), (svX o n Y X), P12, X13, (svO a b), (svN b + 1), (svX a b B M), P13) ⟨⟨hB12, hB13, (by rw [e12, e13]; exact TE_play hL.1 hL.2.2.1), svO_lt hL.2.2.2.1, svN_le hL.2.2.2.2.1, svO_lt hL.2.2.2.2.2.1, svN_le hL.2.2.2.2.2.2⟩, (by rw [ht12]; omega)⟩ rfl rfl (by omega) (by omega) dL_isStep_529
set_option maxRecDepth 100000 in
set_option maxHeartbeats 4000000 in
theorem k_L_isStep_433 (l : Launch) (hst : l.stackTraces = false) (D : va_G) (Z : Nat → ClassId) (z y : Nat → Nat → Nat) (X : ST) (o n : Nat) (Y : Nat → ST) (P : PG) (M : ST) (a b : Nat) (B : Nat → ST) (Q : PG) (x : Int32) (hL : LPq X o n M a b) (hT : X.2.1 4 + 20 ≤ 100000) {p : Program} {e : Env} {s : State} {m : MethodId} {args : Array Value} {below : List Frame} {meth : Method} {c : Code} {A : Nat → Prop} (S : CallFix p m c cL_isStep 10 s args wsL_isStep RL) (hr : meth.sig.returnType = (some .boolean)) (hlocks : meth.locks = false) (X9 : XT A s s.heap) (yv : Int32) (ua ub ch : Nat) (hua : ua < 6) (hub : ub < 8) (hch : ch < 4) : ∀ (H : Heap) (locs : List Loc) (ls : Array Slot) (hl : lv_has ls 10 [(0, .ref (z 0 0)), (1, .ref (y 0 0)), (2, .int x), (3, .int yv), (4, vI ua), (5, vI ub), (6, vI ch)]) (w : Wd D Z A s (qW Z z X o n Y P ++ qW Z y M a b B Q) H locs), W p l e (rmX 8 166 6 36) s m args below meth c H locs (0) (0) (Qr (β := ZB) below D Z A args s (fun u => zbL (X.2.1 4) u) (nI 1) (fun u => zbW Z z y u) 6 36) (F0 m 433 ls []) := by
  intro H locs ls hl w
  have hX := hL.1
  obtain ⟨b0, b1, b2, b3, b4, b5⟩ := hX.2.1
  have hp1 := hX.1.2.2.1
  have hp8 := hX.1.2.2.2.1
  refine lv_aload_n S.1 S.2.1 dL_isStep_433 rfl (lv_at hl 0 rfl) ?_
  refine lv_bipush (v := nI 6) S.1 S.2.1 dL_isStep_434 (by decide +kernel) ?_
  refine nx_nVi ([]) (qW Z y M a b B Q) (ws' := qW Z z X o n Y P ++ qW Z y M a b B Q) (rest := []) S w X9 hl.1 (n_value l hst D Z z X o n Y P 6 hL.1 (by decide)) (by simp only [List.nil_append, List.append_nil, List.append_assoc]) adr_q (by simp only [List.nil_append, List.append_nil, List.append_assoc]) gL_isStep_X7_value rfl hdV_X7_value ⟨(Nat.le_of_ble_eq_true rfl), (Nat.le_of_ble_eq_true rfl)⟩ (q0 := 0) rfl rfl rfl rfl (Nat.le_of_ble_eq_true rfl) ⟨(by show _ ≤ 6; omega), (by show _ ≤ 36; omega)⟩ dL_isStep_436 (fun H locs w => ?_)
  refine W.eq (g2 := F0 m 439 ls [vI X.1.2.2.2]) rfl ?_
  refine lv_iconst (v := nI 1) S.1 S.2.1 dL_isStep_439 (ofInt_nI 1) ?_
  refine nv_icmp_eq S (by omega) (by omega) (tgt := 470) dL_isStep_440 (by decide) (fun h_1 => ?_) (fun h_1 => ?_)
  · skip
    refine lv_iconst (v := nI 1) S.1 S.2.1 dL_isStep_470 (ofInt_nI 1) ?_
    refine lv_goto (tgt := 475) S.1 S.2.1 dL_isStep_471 (by decide) ?_
    exact nr_iret S w hr hlocks (nI_bool (by decide)) (X, o, n, Y, P, M, a, b, B, Q) ⟨hL, (Nat.le_add_right _ _)⟩ rfl rfl (by omega) (by omega) dL_isStep_475
  · skip
    refine lv_aload_n S.1 S.2.1 dL_isStep_443 rfl (lv_at hl 0 rfl) ?_
    refine lv_iconst (v := nI 0) S.1 S.2.1 dL_isStep_444 (ofInt_nI 0) ?_
    refine nx_nVi ([]) (qW Z y M a b B Q) (ws' := qW Z z X o n Y P ++ qW Z y M a b B Q) (rest := []) S w X9 hl.1 (n_value l hst D Z z X o n Y P 0 hL.1 (by decide)) (by simp only [List.nil_append, List.append_nil, List.append_assoc]) adr_q (by simp only [List.nil_append, List.append_nil, List.append_assoc]) gL_isStep_X7_value rfl hdV_X7_value ⟨(Nat.le_of_ble_eq_true rfl), (Nat.le_of_ble_eq_true rfl)⟩ (q0 := 0) rfl rfl rfl rfl (Nat.le_of_ble_eq_true rfl) ⟨(by show _ ≤ 6; omega), (by show _ ≤ 36; omega)⟩ dL_isStep_445 (fun H locs w => ?_)
    refine W.eq (g2 := F0 m 448 ls [vI (X.2.1 0)]) rfl ?_
    refine lv_aload_n S.1 S.2.1 dL_isStep_448 rfl (lv_at hl 0 rfl) ?_
    refine lv_bipush (v := nI 6) S.1 S.2.1 dL_isStep_449 (by decide +kernel) ?_
    refine nx_nVi ([]) (qW Z y M a b B Q) (ws' := qW Z z X o n Y P ++ qW Z y M a b B Q) (rest := [vI (X.2.1 0)]) S w X9 hl.1 (n_value l hst D Z z X o n Y P 6 hL.1 (by decide)) (by simp only [List.nil_append, List.append_nil, List.append_assoc]) adr_q (by simp only [List.nil_append, List.append_nil, List.append_assoc]) gL_isStep_X7_value rfl hdV_X7_value ⟨(Nat.le_of_ble_eq_true rfl), (Nat.le_of_ble_eq_true rfl)⟩ (q0 := 0) rfl rfl rfl rfl (Nat.le_of_ble_eq_true rfl) ⟨(by show _ ≤ 6; omega), (by show _ ≤ 36; omega)⟩ dL_isStep_451 (fun H locs w => ?_)
    refine W.eq (g2 := F0 m 454 ls [vI X.1.2.2.2, vI (X.2.1 0)]) rfl ?_
    refine lv_iconst (v := nI 1) S.1 S.2.1 dL_isStep_454 (ofInt_nI 1) ?_
    refine nv_isub S (by omega) dL_isStep_455 ?_
    refine nv_icmp_eq S (by omega) (by omega) (tgt := 470) dL_isStep_456 (by decide) (fun h_2 => ?_) (fun h_2 => ?_)
    · skip
      refine lv_iconst (v := nI 1) S.1 S.2.1 dL_isStep_470 (ofInt_nI 1) ?_
      refine lv_goto (tgt := 475) S.1 S.2.1 dL_isStep_471 (by decide) ?_
      exact nr_iret S w hr hlocks (nI_bool (by decide)) (X, o, n, Y, P, M, a, b, B, Q) ⟨hL, (Nat.le_add_right _ _)⟩ rfl rfl (by omega) (by omega) dL_isStep_475
    · skip
      refine lv_aload_n S.1 S.2.1 dL_isStep_459 rfl (lv_at hl 0 rfl) ?_
      obtain ⟨v14, X14, o14, n14, Y14, M14, a14, b14, B14, hL14, ht14, h1v14, h2v14⟩ := pq_shorten l hst D Z z y Y P B Q hL  (by omega) (by omega)
      refine nx_nVi ([]) (qW Z y M a b B Q) (ws' := qW Z z X14 o14 n14 Y14 P ++ qW Z y M a b B Q) (rest := []) S w X9 hl.1 (h1v14) (by simp only [List.nil_append, List.append_nil, List.append_assoc]) adr_q (by simp only [List.nil_append, List.append_nil, List.append_assoc]) gL_isStep_X7_shorten rfl hdV_X7_shorten ⟨(Nat.le_of_ble_eq_true rfl), (Nat.le_of_ble_eq_true rfl)⟩ (q0 := 0) rfl rfl rfl rfl (Nat.le_of_ble_eq_true rfl) ⟨(by show _ ≤ 6; omega), (by show _ ≤ 36; omega)⟩ dL_isStep_460 (fun H locs w => ?_)
      refine lv_aload_n S.1 S.2.1 dL_isStep_463 rfl (lv_at hl 1 rfl) ?_
      refine nx_nVi (qW Z z X14 o14 n14 Y14 P) ([]) (ws' := qW Z z X14 o14 n14 Y14 P ++ qW Z y M14 a14 b14 B14 Q) (rest := [.int v14]) S w X9 hl.1 (h2v14) (by simp only [List.nil_append, List.append_nil, List.append_assoc]) adr_q (by simp only [List.nil_append, List.append_nil, List.append_assoc]) gL_isStep_X7_shorten rfl hdV_X7_shorten ⟨(Nat.le_of_ble_eq_true rfl), (Nat.le_of_ble_eq_true rfl)⟩ (q0 := 0) rfl rfl rfl rfl (Nat.le_of_ble_eq_true rfl) ⟨(by show _ ≤ 6; omega), (by show _ ≤ 36; omega)⟩ dL_isStep_464 (fun H locs w => ?_)
      refine lv_icmp_ne (tgt := 474) S.1 S.2.1 dL_isStep_467 (by decide) (fun h9 => absurd rfl h9) (fun _ => ?_)
      refine lv_iconst (v := nI 1) S.1 S.2.1 dL_isStep_470 (ofInt_nI 1) ?_
      refine lv_goto (tgt := 475) S.1 S.2.1 dL_isStep_471 (by decide) ?_
      exact nr_iret S w hr hlocks (nI_bool (by decide)) (X14, o14, n14, Y14, P, M14, a14, b14, B14, Q) ⟨hL14, ht14⟩ rfl rfl (by omega) (by omega) dL_isStep_475
set_option maxRecDepth 100000 in
set_option maxHeartbeats 4000000 in
theorem k_L_isStep_402 (l : Launch) (hst : l.stackTraces = false) (D : va_G) (Z : Nat → ClassId) (z y : Nat → Nat → Nat) (X : ST) (o n : Nat) (Y : Nat → ST) (P : PG) (M : ST) (a b : Nat) (B : Nat → ST) (Q : PG) (x : Int32) (hL : LPq X o n M a b) (hT : X.2.1 4 + 20 ≤ 100000) {p : Program} {e : Env} {s : State} {m : MethodId} {args : Array Value} {below : List Frame} {meth : Method} {c : Code} {A : Nat → Prop} (S : CallFix p m c cL_isStep 10 s args wsL_isStep RL) (hr : meth.sig.returnType = (some .boolean)) (hlocks : meth.locks = false) (X9 : XT A s s.heap) (yv : Int32) (ua ub ch : Nat) (hua : ua < 6) (hub : ub < 8) (hch : ch < 4) : ∀ (H : Heap) (locs : List Loc) (ls : Array Slot) (hl : lv_has ls 10 [(0, .ref (z 0 0)), (1, .ref (y 0 0)), (2, .int x), (3, .int yv), (4, vI ua), (5, vI ub), (6, vI ch)]) (w : Wd D Z A s (qW Z z X o n Y P ++ qW Z y M a b B Q) H locs), W p l e (rmX 8 166 6 36) s m args below meth c H locs (0) (0) (Qr (β := ZB) below D Z A args s (fun u => zbL (X.2.1 4) u) (nI 1) (fun u => zbW Z z y u) 6 36) (F0 m 402 ls []) := by
  intro H locs ls hl w
  have hX := hL.1
  obtain ⟨b0, b1, b2, b3, b4, b5⟩ := hX.2.1
  have hp1 := hX.1.2.2.1
  have hp8 := hX.1.2.2.2.1
  refine lv_iload_n S.1 S.2.1 dL_isStep_402 rfl (lv_at hl 3 rfl) ?_
  refine lv_iconst (v := nI 4) S.1 S.2.1 dL_isStep_403 (ofInt_nI 4) ?_
  obtain ⟨u15, hu15, eu15⟩ : ∃ k9, k9 < 4 ∧ upN yv 4 = k9 := ⟨_, upN_lt (by omega), rfl⟩
  refine nv_pSi (rest := []) S w hl.1 (c_L_up l D Z yv 4 (by omega) (by omega)) gL_isStep_L_up rfl hdS_L_up ⟨(Nat.le_of_ble_eq_true rfl), (Nat.le_of_ble_eq_true rfl)⟩ rfl rfl (Nat.le_of_ble_eq_true rfl) ⟨(by show _ ≤ 6; omega), (by show _ ≤ 36; omega)⟩ dL_isStep_404 (fun H locs w => ?_)
  refine W.eq (g2 := F0 m 407 ls [vI u15]) (by rw [eu15]) ?_
  refine nv_if_gt S (by omega) (tgt := 427) dL_isStep_407 (by decide) (fun h_3 => ?_) (fun h_3 => ?_)
  · skip
    refine lv_iconst (v := nI 1) S.1 S.2.1 dL_isStep_427 (ofInt_nI 1) ?_
    refine lv_goto (tgt := 432) S.1 S.2.1 dL_isStep_428 (by decide) ?_
    exact nr_iret S w hr hlocks (nI_bool (by decide)) (X, o, n, Y, P, M, a, b, B, Q) ⟨hL, (Nat.le_add_right _ _)⟩ rfl rfl (by omega) (by omega) dL_isStep_432
  · skip
    refine lv_aload_n S.1 S.2.1 dL_isStep_410 rfl (lv_at hl 0 rfl) ?_
    refine lv_iload S.1 S.2.1 dL_isStep_411 (lv_at hl 6 rfl) ?_
    obtain ⟨v16, X16, o16, n16, Y16, M16, a16, b16, B16, hL16, ht16, h1v16, h2v16⟩ := pq_giveBack l hst D Z z y Y P B Q hL (c := ch) (by omega)
    refine nx_nVi ([]) (qW Z y M a b B Q) (ws' := qW Z z X16 o16 n16 Y16 P ++ qW Z y M a b B Q) (rest := []) S w X9 hl.1 (h1v16) (by simp only [List.nil_append, List.append_nil, List.append_assoc]) adr_q (by simp only [List.nil_append, List.append_nil, List.append_assoc]) gL_isStep_X7_giveBack rfl hdV_X7_giveBack ⟨(Nat.le_of_ble_eq_true rfl), (Nat.le_of_ble_eq_true rfl)⟩ (q0 := 0) rfl rfl rfl rfl (Nat.le_of_ble_eq_true rfl) ⟨(by show _ ≤ 6; omega), (by show _ ≤ 36; omega)⟩ dL_isStep_413 (fun H locs w => ?_)
    refine lv_aload_n S.1 S.2.1 dL_isStep_416 rfl (lv_at hl 1 rfl) ?_
    refine lv_iconst (v := nI 3) S.1 S.2.1 dL_isStep_417 (ofInt_nI 3) ?_
    refine lv_iload S.1 S.2.1 dL_isStep_418 (lv_at hl 6 rfl) ?_
    refine nv_isub S (by omega) dL_isStep_420 ?_
    refine nx_nVi (qW Z z X16 o16 n16 Y16 P) ([]) (ws' := qW Z z X16 o16 n16 Y16 P ++ qW Z y M16 a16 b16 B16 Q) (rest := [.int v16]) S w X9 hl.1 (h2v16) (by simp only [List.nil_append, List.append_nil, List.append_assoc]) adr_q (by simp only [List.nil_append, List.append_nil, List.append_assoc]) gL_isStep_X7_giveBack rfl hdV_X7_giveBack ⟨(Nat.le_of_ble_eq_true rfl), (Nat.le_of_ble_eq_true rfl)⟩ (q0 := 0) rfl rfl rfl rfl (Nat.le_of_ble_eq_true rfl) ⟨(by show _ ≤ 6; omega), (by show _ ≤ 36; omega)⟩ dL_isStep_421 (fun H locs w => ?_)
    refine lv_icmp_ne (tgt := 431) S.1 S.2.1 dL_isStep_424 (by decide) (fun h9 => absurd rfl h9) (fun _ => ?_)
    refine lv_iconst (v := nI 1) S.1 S.2.1 dL_isStep_427 (ofInt_nI 1) ?_
    refine lv_goto (tgt := 432) S.1 S.2.1 dL_isStep_428 (by decide) ?_
    exact nr_iret S w hr hlocks (nI_bool (by decide)) (X16, o16, n16, Y16, P, M16, a16, b16, B16, Q) ⟨hL16, ht16⟩ rfl rfl (by omega) (by omega) dL_isStep_432
set_option maxRecDepth 100000 in
set_option maxHeartbeats 4000000 in
theorem k_L_isStep_335 (l : Launch) (hst : l.stackTraces = false) (D : va_G) (Z : Nat → ClassId) (z y : Nat → Nat → Nat) (X : ST) (o n : Nat) (Y : Nat → ST) (P : PG) (M : ST) (a b : Nat) (B : Nat → ST) (Q : PG) (x : Int32) (hL : LPq X o n M a b) (hT : X.2.1 4 + 20 ≤ 100000) {p : Program} {e : Env} {s : State} {m : MethodId} {args : Array Value} {below : List Frame} {meth : Method} {c : Code} {A : Nat → Prop} (S : CallFix p m c cL_isStep 10 s args wsL_isStep RL) (hr : meth.sig.returnType = (some .boolean)) (hlocks : meth.locks = false) (X9 : XT A s s.heap) (yv : Int32) (ua ub ch : Nat) (hua : ua < 6) (hub : ub < 8) (hch : ch < 4) : ∀ (H : Heap) (locs : List Loc) (ls : Array Slot) (hl : lv_has ls 10 [(0, .ref (z 0 0)), (1, .ref (y 0 0)), (2, .int x), (3, .int yv), (4, vI ua), (5, vI ub), (6, vI ch)]) (w : Wd D Z A s (qW Z z X o n Y P ++ qW Z y M a b B Q) H locs), W p l e (rmX 8 166 6 36) s m args below meth c H locs (0) (0) (Qr (β := ZB) below D Z A args s (fun u => zbL (X.2.1 4) u) (nI 1) (fun u => zbW Z z y u) 6 36) (F0 m 335 ls []) := by
  intro H locs ls hl w
  have hX := hL.1
  obtain ⟨b0, b1, b2, b3, b4, b5⟩ := hX.2.1
  have hp1 := hX.1.2.2.1
  have hp8 := hX.1.2.2.2.1
  refine lv_aload_n S.1 S.2.1 dL_isStep_335 rfl (lv_at hl 0 rfl) ?_
  refine lv_iload S.1 S.2.1 dL_isStep_336 (lv_at hl 6 rfl) ?_
  refine lv_iconst (v := nI 1) S.1 S.2.1 dL_isStep_338 (ofInt_nI 1) ?_
  refine lv_iload_n S.1 S.2.1 dL_isStep_339 rfl (lv_at hl 3 rfl) ?_
  refine lv_bipush (v := nI 8) S.1 S.2.1 dL_isStep_340 (by decide +kernel) ?_
  refine lv_ishr S.1 S.2.1 dL_isStep_342 ?_
  refine lv_bipush (v := nI 60) S.1 S.2.1 dL_isStep_343 (by decide +kernel) ?_
  obtain ⟨u17, hu17, eu17⟩ : ∃ k9, k9 < 60 ∧ upN (yv >>> (nI 8 &&& 31)) 60 = k9 := ⟨_, upN_lt (by omega), rfl⟩
  refine nv_pSi (rest := [vI 1, vI ch, .ref (z 0 0)]) S w hl.1 (c_L_up l D Z (yv >>> (nI 8 &&& 31)) 60 (by omega) (by omega)) gL_isStep_L_up rfl hdS_L_up ⟨(Nat.le_of_ble_eq_true rfl), (Nat.le_of_ble_eq_true rfl)⟩ rfl rfl (Nat.le_of_ble_eq_true rfl) ⟨(by show _ ≤ 6; omega), (by show _ ≤ 36; omega)⟩ dL_isStep_345 (fun H locs w => ?_)
  refine W.eq (g2 := F0 m 348 ls [vI u17, vI 1, vI ch, .ref (z 0 0)]) (by rw [eu17]) ?_
  refine nv_iadd S dL_isStep_348 ?_
  refine lv_iconst (v := nI 1) S.1 S.2.1 dL_isStep_349 (ofInt_nI 1) ?_
  refine lv_iload_n S.1 S.2.1 dL_isStep_350 rfl (lv_at hl 3 rfl) ?_
  refine lv_bipush (v := nI 14) S.1 S.2.1 dL_isStep_351 (by decide +kernel) ?_
  refine lv_ishr S.1 S.2.1 dL_isStep_353 ?_
  refine lv_bipush (v := nI 20) S.1 S.2.1 dL_isStep_354 (by decide +kernel) ?_
  obtain ⟨u18, hu18, eu18⟩ : ∃ k9, k9 < 20 ∧ upN (yv >>> (nI 14 &&& 31)) 20 = k9 := ⟨_, upN_lt (by omega), rfl⟩
  refine nv_pSi (rest := [vI 1, vI (1 + u17), vI ch, .ref (z 0 0)]) S w hl.1 (c_L_up l D Z (yv >>> (nI 14 &&& 31)) 20 (by omega) (by omega)) gL_isStep_L_up rfl hdS_L_up ⟨(Nat.le_of_ble_eq_true rfl), (Nat.le_of_ble_eq_true rfl)⟩ rfl rfl (Nat.le_of_ble_eq_true rfl) ⟨(by show _ ≤ 6; omega), (by show _ ≤ 36; omega)⟩ dL_isStep_356 (fun H locs w => ?_)
  refine W.eq (g2 := F0 m 359 ls [vI u18, vI 1, vI (1 + u17), vI ch, .ref (z 0 0)]) (by rw [eu18]) ?_
  refine nv_iadd S dL_isStep_359 ?_
  obtain ⟨v19, X19, o19, n19, Y19, M19, a19, b19, B19, hL19, ht19, h1v19, h2v19⟩ := pq_steal l hst D Z z y Y P B Q hL (c := ch) (e := 1 + u17) (f := 1 + u18) (by omega) (by omega) (by omega) (by omega) (by omega)
  refine nx_nVi ([]) (qW Z y M a b B Q) (ws' := qW Z z X19 o19 n19 Y19 P ++ qW Z y M a b B Q) (rest := []) S w X9 hl.1 (h1v19) (by simp only [List.nil_append, List.append_nil, List.append_assoc]) adr_q (by simp only [List.nil_append, List.append_nil, List.append_assoc]) gL_isStep_X7_steal rfl hdV_X7_steal ⟨(Nat.le_of_ble_eq_true rfl), (Nat.le_of_ble_eq_true rfl)⟩ (q0 := 0) rfl rfl rfl rfl (Nat.le_of_ble_eq_true rfl) ⟨(by show _ ≤ 6; omega), (by show _ ≤ 36; omega)⟩ dL_isStep_360 (fun H locs w => ?_)
  refine lv_aload_n S.1 S.2.1 dL_isStep_363 rfl (lv_at hl 1 rfl) ?_
  refine lv_iconst (v := nI 3) S.1 S.2.1 dL_isStep_364 (ofInt_nI 3) ?_
  refine lv_iload S.1 S.2.1 dL_isStep_365 (lv_at hl 6 rfl) ?_
  refine nv_isub S (by omega) dL_isStep_367 ?_
  refine lv_iconst (v := nI 1) S.1 S.2.1 dL_isStep_368 (ofInt_nI 1) ?_
  refine lv_iload_n S.1 S.2.1 dL_isStep_369 rfl (lv_at hl 3 rfl) ?_
  refine lv_bipush (v := nI 8) S.1 S.2.1 dL_isStep_370 (by decide +kernel) ?_
  refine lv_ishr S.1 S.2.1 dL_isStep_372 ?_
  refine lv_bipush (v := nI 60) S.1 S.2.1 dL_isStep_373 (by decide +kernel) ?_
  refine nv_pSi (rest := [vI 1, vI (3 - ch), .ref (y 0 0), .int v19]) S w hl.1 (c_L_up l D Z (yv >>> (nI 8 &&& 31)) 60 (by omega) (by omega)) gL_isStep_L_up rfl hdS_L_up ⟨(Nat.le_of_ble_eq_true rfl), (Nat.le_of_ble_eq_true rfl)⟩ rfl rfl (Nat.le_of_ble_eq_true rfl) ⟨(by show _ ≤ 6; omega), (by show _ ≤ 36; omega)⟩ dL_isStep_375 (fun H locs w => ?_)
  refine W.eq (g2 := F0 m 378 ls [vI u17, vI 1, vI (3 - ch), .ref (y 0 0), .int v19]) (by rw [eu17]) ?_
  refine nv_iadd S dL_isStep_378 ?_
  refine lv_iconst (v := nI 1) S.1 S.2.1 dL_isStep_379 (ofInt_nI 1) ?_
  refine lv_iload_n S.1 S.2.1 dL_isStep_380 rfl (lv_at hl 3 rfl) ?_
  refine lv_bipush (v := nI 14) S.1 S.2.1 dL_isStep_381 (by decide +kernel) ?_
  refine lv_ishr S.1 S.2.1 dL_isStep_383 ?_
  refine lv_bipush (v := nI 20) S.1 S.2.1 dL_isStep_384 (by decide +kernel) ?_
  refine nv_pSi (rest := [vI 1, vI (1 + u17), vI (3 - ch), .ref (y 0 0), .int v19]) S w hl.1 (c_L_up l D Z (yv >>> (nI 14 &&& 31)) 20 (by omega) (by omega)) gL_isStep_L_up rfl hdS_L_up ⟨(Nat.le_of_ble_eq_true rfl), (Nat.le_of_ble_eq_true rfl)⟩ rfl rfl (Nat.le_of_ble_eq_true rfl) ⟨(by show _ ≤ 6; omega), (by show _ ≤ 36; omega)⟩ dL_isStep_386 (fun H locs w => ?_)
  refine W.eq (g2 := F0 m 389 ls [vI u18, vI 1, vI (1 + u17), vI (3 - ch), .ref (y 0 0), .int v19]) (by rw [eu18]) ?_
  refine nv_iadd S dL_isStep_389 ?_
  refine nx_nVi (qW Z z X19 o19 n19 Y19 P) ([]) (ws' := qW Z z X19 o19 n19 Y19 P ++ qW Z y M19 a19 b19 B19 Q) (rest := [.int v19]) S w X9 hl.1 (h2v19) (by simp only [List.nil_append, List.append_nil, List.append_assoc]) adr_q (by simp only [List.nil_append, List.append_nil, List.append_assoc]) gL_isStep_X7_steal rfl hdV_X7_steal ⟨(Nat.le_of_ble_eq_true rfl), (Nat.le_of_ble_eq_true rfl)⟩ (q0 := 0) rfl rfl rfl rfl (Nat.le_of_ble_eq_true rfl) ⟨(by show _ ≤ 6; omega), (by show _ ≤ 36; omega)⟩ dL_isStep_390 (fun H locs w => ?_)
  refine lv_icmp_ne (tgt := 400) S.1 S.2.1 dL_isStep_393 (by decide) (fun h9 => absurd rfl h9) (fun _ => ?_)
  refine lv_iconst (v := nI 1) S.1 S.2.1 dL_isStep_396 (ofInt_nI 1) ?_
  refine lv_goto (tgt := 401) S.1 S.2.1 dL_isStep_397 (by decide) ?_
  exact nr_iret S w hr hlocks (nI_bool (by decide)) (X19, o19, n19, Y19, P, M19, a19, b19, B19, Q) ⟨hL19, ht19⟩ rfl rfl (by omega) (by omega) dL_isStep_401
set_option maxRecDepth 100000 in
set_option maxHeartbeats 4000000 in
theorem k_L_isStep_278 (l : Launch) (hst : l.stackTraces = false) (D : va_G) (Z : Nat → ClassId) (z y : Nat → Nat → Nat) (X : ST) (o n : Nat) (Y : Nat → ST) (P : PG) (M : ST) (a b : Nat) (B : Nat → ST) (Q : PG) (x : Int32) (hL : LPq X o n M a b) (hT : X.2.1 4 + 20 ≤ 100000) {p : Program} {e : Env} {s : State} {m : MethodId} {args : Array Value} {below : List Frame} {meth : Method} {c : Code} {A : Nat → Prop} (S : CallFix p m c cL_isStep 10 s args wsL_isStep RL) (hr : meth.sig.returnType = (some .boolean)) (hlocks : meth.locks = false) (X9 : XT A s s.heap) (yv : Int32) (ua ub ch : Nat) (hua : ua < 6) (hub : ub < 8) (hch : ch < 4) : ∀ (H : Heap) (locs : List Loc) (ls : Array Slot) (hl : lv_has ls 10 [(0, .ref (z 0 0)), (1, .ref (y 0 0)), (2, .int x), (3, .int yv), (4, vI ua), (5, vI ub), (6, vI ch)]) (w : Wd D Z A s (qW Z z X o n Y P ++ qW Z y M a b B Q) H locs), W p l e (rmX 8 166 6 36) s m args below meth c H locs (0) (0) (Qr (β := ZB) below D Z A args s (fun u => zbL (X.2.1 4) u) (nI 1) (fun u => zbW Z z y u) 6 36) (F0 m 278 ls []) := by
  intro H locs ls hl w
  have hX := hL.1
  obtain ⟨b0, b1, b2, b3, b4, b5⟩ := hX.2.1
  have hp1 := hX.1.2.2.1
  have hp8 := hX.1.2.2.2.1
  refine lv_iload_n S.1 S.2.1 dL_isStep_278 rfl (lv_at hl 3 rfl) ?_
  refine lv_iconst (v := nI 3) S.1 S.2.1 dL_isStep_279 (ofInt_nI 3) ?_
  refine lv_ishr S.1 S.2.1 dL_isStep_280 ?_
  refine lv_aload_n S.1 S.2.1 dL_isStep_281 rfl (lv_at hl 0 rfl) ?_
  refine lv_bipush (v := nI 6) S.1 S.2.1 dL_isStep_282 (by decide +kernel) ?_
  refine nx_nVi ([]) (qW Z y M a b B Q) (ws' := qW Z z X o n Y P ++ qW Z y M a b B Q) (rest := [.int (yv >>> (nI 3 &&& 31))]) S w X9 hl.1 (n_value l hst D Z z X o n Y P 6 hL.1 (by decide)) (by simp only [List.nil_append, List.append_nil, List.append_assoc]) adr_q (by simp only [List.nil_append, List.append_nil, List.append_assoc]) gL_isStep_X7_value rfl hdV_X7_value ⟨(Nat.le_of_ble_eq_true rfl), (Nat.le_of_ble_eq_true rfl)⟩ (q0 := 0) rfl rfl rfl rfl (Nat.le_of_ble_eq_true rfl) ⟨(by show _ ≤ 6; omega), (by show _ ≤ 36; omega)⟩ dL_isStep_284 (fun H locs w => ?_)
  refine W.eq (g2 := F0 m 287 ls [vI X.1.2.2.2, .int (yv >>> (nI 3 &&& 31))]) rfl ?_
  refine lv_bipush (v := nI 8) S.1 S.2.1 dL_isStep_287 (by decide +kernel) ?_
  refine nv_icmp_ne S (by omega) (by omega) (tgt := 297) dL_isStep_289 (by decide) (fun h_4 => ?_) (fun h_4 => ?_)
  · skip
    refine lv_aload_n S.1 S.2.1 dL_isStep_297 rfl (lv_at hl 0 rfl) ?_
    refine lv_bipush (v := nI 6) S.1 S.2.1 dL_isStep_298 (by decide +kernel) ?_
    refine nx_nVi ([]) (qW Z y M a b B Q) (ws' := qW Z z X o n Y P ++ qW Z y M a b B Q) (rest := [.int (yv >>> (nI 3 &&& 31))]) S w X9 hl.1 (n_value l hst D Z z X o n Y P 6 hL.1 (by decide)) (by simp only [List.nil_append, List.append_nil, List.append_assoc]) adr_q (by simp only [List.nil_append, List.append_nil, List.append_assoc]) gL_isStep_X7_value rfl hdV_X7_value ⟨(Nat.le_of_ble_eq_true rfl), (Nat.le_of_ble_eq_true rfl)⟩ (q0 := 0) rfl rfl rfl rfl (Nat.le_of_ble_eq_true rfl) ⟨(by show _ ≤ 6; omega), (by show _ ≤ 36; omega)⟩ dL_isStep_300 (fun H locs w => ?_)
    refine W.eq (g2 := F0 m 303 ls [vI X.1.2.2.2, .int (yv >>> (nI 3 &&& 31))]) rfl ?_
    refine lv_iconst (v := nI 1) S.1 S.2.1 dL_isStep_303 (ofInt_nI 1) ?_
    refine nv_iadd S dL_isStep_304 ?_
    obtain ⟨u20, hu20, eu20⟩ : ∃ k9, k9 < (X.1.2.2.2 + 1) ∧ upN (yv >>> (nI 3 &&& 31)) (X.1.2.2.2 + 1) = k9 := ⟨_, upN_lt (by omega), rfl⟩
    refine nv_pSi (rest := []) S w hl.1 (c_L_up l D Z (yv >>> (nI 3 &&& 31)) (X.1.2.2.2 + 1) (by omega) (by omega)) gL_isStep_L_up rfl hdS_L_up ⟨(Nat.le_of_ble_eq_true rfl), (Nat.le_of_ble_eq_true rfl)⟩ rfl rfl (Nat.le_of_ble_eq_true rfl) ⟨(by show _ ≤ 6; omega), (by show _ ≤ 36; omega)⟩ dL_isStep_305 (fun H locs w => ?_)
    refine W.eq (g2 := F0 m 308 ls [vI u20]) (by rw [eu20]) ?_
    refine lv_istore (lv' := [(7, vI u20), (0, .ref (z 0 0)), (1, .ref (y 0 0)), (2, .int x), (3, .int yv), (4, vI ua), (5, vI ub), (6, vI ch)]) S.1 S.2.1 dL_isStep_308 hl (by decide) rfl (fun ls hl => ?_)
    refine lv_aload_n S.1 S.2.1 dL_isStep_310 rfl (lv_at hl 1 rfl) ?_
    refine lv_iload S.1 S.2.1 dL_isStep_311 (lv_at hl 0 rfl) ?_
    refine lv_iload S.1 S.2.1 dL_isStep_313 (lv_at hl 5 rfl) ?_
    obtain ⟨v21, X21, o21, n21, Y21, M21, a21, b21, B21, hL21, ht21, h1v21, h2v21⟩ := pq_setOrder l hst D Z z y Y P B Q hL (u := u20) (e := ua) (by omega) (by omega) (by omega)
    refine nx_nVi ([]) (qW Z y M a b B Q) (ws' := qW Z z X21 o21 n21 Y21 P ++ qW Z y M a b B Q) (rest := []) S w X9 hl.1 (h1v21) (by simp only [List.nil_append, List.append_nil, List.append_assoc]) adr_q (by simp only [List.nil_append, List.append_nil, List.append_assoc]) gL_isStep_X7_setOrder rfl hdV_X7_setOrder ⟨(Nat.le_of_ble_eq_true rfl), (Nat.le_of_ble_eq_true rfl)⟩ (q0 := 0) rfl rfl rfl rfl (Nat.le_of_ble_eq_true rfl) ⟨(by show _ ≤ 6; omega), (by show _ ≤ 36; omega)⟩ dL_isStep_315 (fun H locs w => ?_)
    refine lv_aload_n S.1 S.2.1 dL_isStep_318 rfl (lv_at hl 2 rfl) ?_
    refine lv_iload S.1 S.2.1 dL_isStep_319 (lv_at hl 0 rfl) ?_
    refine lv_iload S.1 S.2.1 dL_isStep_321 (lv_at hl 5 rfl) ?_
    refine nx_nVi (qW Z z X21 o21 n21 Y21 P) ([]) (ws' := qW Z z X21 o21 n21 Y21 P ++ qW Z y M21 a21 b21 B21 Q) (rest := [.int v21]) S w X9 hl.1 (h2v21) (by simp only [List.nil_append, List.append_nil, List.append_assoc]) adr_q (by simp only [List.nil_append, List.append_nil, List.append_assoc]) gL_isStep_X7_setOrder rfl hdV_X7_setOrder ⟨(Nat.le_of_ble_eq_true rfl), (Nat.le_of_ble_eq_true rfl)⟩ (q0 := 0) rfl rfl rfl rfl (Nat.le_of_ble_eq_true rfl) ⟨(by show _ ≤ 6; omega), (by show _ ≤ 36; omega)⟩ dL_isStep_323 (fun H locs w => ?_)
    refine lv_icmp_ne (tgt := 333) S.1 S.2.1 dL_isStep_326 (by decide) (fun h9 => absurd rfl h9) (fun _ => ?_)
    refine lv_iconst (v := nI 1) S.1 S.2.1 dL_isStep_329 (ofInt_nI 1) ?_
    refine lv_goto (tgt := 334) S.1 S.2.1 dL_isStep_330 (by decide) ?_
    exact nr_iret S w hr hlocks (nI_bool (by decide)) (X21, o21, n21, Y21, P, M21, a21, b21, B21, Q) ⟨hL21, ht21⟩ rfl rfl (by omega) (by omega) dL_isStep_334
  · skip
    refine lv_bipush (v := nI 8) S.1 S.2.1 dL_isStep_292 (by decide +kernel) ?_
    refine lv_goto (tgt := 305) S.1 S.2.1 dL_isStep_294 (by decide) ?_
    obtain ⟨u22, hu22, eu22⟩ : ∃ k9, k9 < 8 ∧ upN (yv >>> (nI 3 &&& 31)) 8 = k9 := ⟨_, upN_lt (by omega), rfl⟩
    refine nv_pSi (rest := []) S w hl.1 (c_L_up l D Z (yv >>> (nI 3 &&& 31)) 8 (by omega) (by omega)) gL_isStep_L_up rfl hdS_L_up ⟨(Nat.le_of_ble_eq_true rfl), (Nat.le_of_ble_eq_true rfl)⟩ rfl rfl (Nat.le_of_ble_eq_true rfl) ⟨(by show _ ≤ 6; omega), (by show _ ≤ 36; omega)⟩ dL_isStep_305 (fun H locs w => ?_)
    refine W.eq (g2 := F0 m 308 ls [vI u22]) (by rw [eu22]) ?_
    refine lv_istore (lv' := [(7, vI u22), (0, .ref (z 0 0)), (1, .ref (y 0 0)), (2, .int x), (3, .int yv), (4, vI ua), (5, vI ub), (6, vI ch)]) S.1 S.2.1 dL_isStep_308 hl (by decide) rfl (fun ls hl => ?_)
    refine lv_aload_n S.1 S.2.1 dL_isStep_310 rfl (lv_at hl 1 rfl) ?_
    refine lv_iload S.1 S.2.1 dL_isStep_311 (lv_at hl 0 rfl) ?_
    refine lv_iload S.1 S.2.1 dL_isStep_313 (lv_at hl 5 rfl) ?_
    obtain ⟨v23, X23, o23, n23, Y23, M23, a23, b23, B23, hL23, ht23, h1v23, h2v23⟩ := pq_setOrder l hst D Z z y Y P B Q hL (u := u22) (e := ua) (by omega) (by omega) (by omega)
    refine nx_nVi ([]) (qW Z y M a b B Q) (ws' := qW Z z X23 o23 n23 Y23 P ++ qW Z y M a b B Q) (rest := []) S w X9 hl.1 (h1v23) (by simp only [List.nil_append, List.append_nil, List.append_assoc]) adr_q (by simp only [List.nil_append, List.append_nil, List.append_assoc]) gL_isStep_X7_setOrder rfl hdV_X7_setOrder ⟨(Nat.le_of_ble_eq_true rfl), (Nat.le_of_ble_eq_true rfl)⟩ (q0 := 0) rfl rfl rfl rfl (Nat.le_of_ble_eq_true rfl) ⟨(by show _ ≤ 6; omega), (by show _ ≤ 36; omega)⟩ dL_isStep_315 (fun H locs w => ?_)
    refine lv_aload_n S.1 S.2.1 dL_isStep_318 rfl (lv_at hl 2 rfl) ?_
    refine lv_iload S.1 S.2.1 dL_isStep_319 (lv_at hl 0 rfl) ?_
    refine lv_iload S.1 S.2.1 dL_isStep_321 (lv_at hl 5 rfl) ?_
    refine nx_nVi (qW Z z X23 o23 n23 Y23 P) ([]) (ws' := qW Z z X23 o23 n23 Y23 P ++ qW Z y M23 a23 b23 B23 Q) (rest := [.int v23]) S w X9 hl.1 (h2v23) (by simp only [List.nil_append, List.append_nil, List.append_assoc]) adr_q (by simp only [List.nil_append, List.append_nil, List.append_assoc]) gL_isStep_X7_setOrder rfl hdV_X7_setOrder ⟨(Nat.le_of_ble_eq_true rfl), (Nat.le_of_ble_eq_true rfl)⟩ (q0 := 0) rfl rfl rfl rfl (Nat.le_of_ble_eq_true rfl) ⟨(by show _ ≤ 6; omega), (by show _ ≤ 36; omega)⟩ dL_isStep_323 (fun H locs w => ?_)
    refine lv_icmp_ne (tgt := 333) S.1 S.2.1 dL_isStep_326 (by decide) (fun h9 => absurd rfl h9) (fun _ => ?_)
    refine lv_iconst (v := nI 1) S.1 S.2.1 dL_isStep_329 (ofInt_nI 1) ?_
    refine lv_goto (tgt := 334) S.1 S.2.1 dL_isStep_330 (by decide) ?_
    exact nr_iret S w hr hlocks (nI_bool (by decide)) (X23, o23, n23, Y23, P, M23, a23, b23, B23, Q) ⟨hL23, ht23⟩ rfl rfl (by omega) (by omega) dL_isStep_334
set_option maxRecDepth 100000 in
set_option maxHeartbeats 4000000 in
theorem k_L_isStep_237 (l : Launch) (hst : l.stackTraces = false) (D : va_G) (Z : Nat → ClassId) (z y : Nat → Nat → Nat) (X : ST) (o n : Nat) (Y : Nat → ST) (P : PG) (M : ST) (a b : Nat) (B : Nat → ST) (Q : PG) (x : Int32) (hL : LPq X o n M a b) (hT : X.2.1 4 + 20 ≤ 100000) {p : Program} {e : Env} {s : State} {m : MethodId} {args : Array Value} {below : List Frame} {meth : Method} {c : Code} {A : Nat → Prop} (S : CallFix p m c cL_isStep 10 s args wsL_isStep RL) (hr : meth.sig.returnType = (some .boolean)) (hlocks : meth.locks = false) (X9 : XT A s s.heap) (yv : Int32) (ua ub ch : Nat) (hua : ua < 6) (hub : ub < 8) (hch : ch < 4) : ∀ (H : Heap) (locs : List Loc) (ls : Array Slot) (hl : lv_has ls 10 [(0, .ref (z 0 0)), (1, .ref (y 0 0)), (2, .int x), (3, .int yv), (4, vI ua), (5, vI ub), (6, vI ch)]) (w : Wd D Z A s (qW Z z X o n Y P ++ qW Z y M a b B Q) H locs), W p l e (rmX 8 166 6 36) s m args below meth c H locs (0) (0) (Qr (β := ZB) below D Z A args s (fun u => zbL (X.2.1 4) u) (nI 1) (fun u => zbW Z z y u) 6 36) (F0 m 237 ls []) := by
  intro H locs ls hl w
  have hX := hL.1
  obtain ⟨b0, b1, b2, b3, b4, b5⟩ := hX.2.1
  have hp1 := hX.1.2.2.1
  have hp8 := hX.1.2.2.2.1
  refine lv_aload_n S.1 S.2.1 dL_isStep_237 rfl (lv_at hl 0 rfl) ?_
  refine lv_iload S.1 S.2.1 dL_isStep_238 (lv_at hl 4 rfl) ?_
  refine lv_iconst (v := nI 1) S.1 S.2.1 dL_isStep_240 (ofInt_nI 1) ?_
  refine lv_iload_n S.1 S.2.1 dL_isStep_241 rfl (lv_at hl 3 rfl) ?_
  refine lv_bipush (v := nI 6) S.1 S.2.1 dL_isStep_242 (by decide +kernel) ?_
  refine lv_ishr S.1 S.2.1 dL_isStep_244 ?_
  refine lv_iconst (v := nI 5) S.1 S.2.1 dL_isStep_245 (ofInt_nI 5) ?_
  obtain ⟨u24, hu24, eu24⟩ : ∃ k9, k9 < 5 ∧ upN (yv >>> (nI 6 &&& 31)) 5 = k9 := ⟨_, upN_lt (by omega), rfl⟩
  refine nv_pSi (rest := [vI 1, vI ua, .ref (z 0 0)]) S w hl.1 (c_L_up l D Z (yv >>> (nI 6 &&& 31)) 5 (by omega) (by omega)) gL_isStep_L_up rfl hdS_L_up ⟨(Nat.le_of_ble_eq_true rfl), (Nat.le_of_ble_eq_true rfl)⟩ rfl rfl (Nat.le_of_ble_eq_true rfl) ⟨(by show _ ≤ 6; omega), (by show _ ≤ 36; omega)⟩ dL_isStep_246 (fun H locs w => ?_)
  refine W.eq (g2 := F0 m 249 ls [vI u24, vI 1, vI ua, .ref (z 0 0)]) (by rw [eu24]) ?_
  refine nv_iadd S dL_isStep_249 ?_
  obtain ⟨v25, X25, o25, n25, Y25, M25, a25, b25, B25, hL25, ht25, h1v25, h2v25⟩ := pq_setRows l hst D Z z y Y P B Q hL (u := ua) (e := 1 + u24) (by omega) (by omega) (by omega)
  refine nx_nVi ([]) (qW Z y M a b B Q) (ws' := qW Z z X25 o25 n25 Y25 P ++ qW Z y M a b B Q) (rest := []) S w X9 hl.1 (h1v25) (by simp only [List.nil_append, List.append_nil, List.append_assoc]) adr_q (by simp only [List.nil_append, List.append_nil, List.append_assoc]) gL_isStep_X7_setRows rfl hdV_X7_setRows ⟨(Nat.le_of_ble_eq_true rfl), (Nat.le_of_ble_eq_true rfl)⟩ (q0 := 0) rfl rfl rfl rfl (Nat.le_of_ble_eq_true rfl) ⟨(by show _ ≤ 6; omega), (by show _ ≤ 36; omega)⟩ dL_isStep_250 (fun H locs w => ?_)
  refine lv_aload_n S.1 S.2.1 dL_isStep_253 rfl (lv_at hl 1 rfl) ?_
  refine lv_iload S.1 S.2.1 dL_isStep_254 (lv_at hl 4 rfl) ?_
  refine lv_iconst (v := nI 1) S.1 S.2.1 dL_isStep_256 (ofInt_nI 1) ?_
  refine lv_iload_n S.1 S.2.1 dL_isStep_257 rfl (lv_at hl 3 rfl) ?_
  refine lv_bipush (v := nI 6) S.1 S.2.1 dL_isStep_258 (by decide +kernel) ?_
  refine lv_ishr S.1 S.2.1 dL_isStep_260 ?_
  refine lv_iconst (v := nI 5) S.1 S.2.1 dL_isStep_261 (ofInt_nI 5) ?_
  refine nv_pSi (rest := [vI 1, vI ua, .ref (y 0 0), .int v25]) S w hl.1 (c_L_up l D Z (yv >>> (nI 6 &&& 31)) 5 (by omega) (by omega)) gL_isStep_L_up rfl hdS_L_up ⟨(Nat.le_of_ble_eq_true rfl), (Nat.le_of_ble_eq_true rfl)⟩ rfl rfl (Nat.le_of_ble_eq_true rfl) ⟨(by show _ ≤ 6; omega), (by show _ ≤ 36; omega)⟩ dL_isStep_262 (fun H locs w => ?_)
  refine W.eq (g2 := F0 m 265 ls [vI u24, vI 1, vI ua, .ref (y 0 0), .int v25]) (by rw [eu24]) ?_
  refine nv_iadd S dL_isStep_265 ?_
  refine nx_nVi (qW Z z X25 o25 n25 Y25 P) ([]) (ws' := qW Z z X25 o25 n25 Y25 P ++ qW Z y M25 a25 b25 B25 Q) (rest := [.int v25]) S w X9 hl.1 (h2v25) (by simp only [List.nil_append, List.append_nil, List.append_assoc]) adr_q (by simp only [List.nil_append, List.append_nil, List.append_assoc]) gL_isStep_X7_setRows rfl hdV_X7_setRows ⟨(Nat.le_of_ble_eq_true rfl), (Nat.le_of_ble_eq_true rfl)⟩ (q0 := 0) rfl rfl rfl rfl (Nat.le_of_ble_eq_true rfl) ⟨(by show _ ≤ 6; omega), (by show _ ≤ 36; omega)⟩ dL_isStep_266 (fun H locs w => ?_)
  refine lv_icmp_ne (tgt := 276) S.1 S.2.1 dL_isStep_269 (by decide) (fun h9 => absurd rfl h9) (fun _ => ?_)
  refine lv_iconst (v := nI 1) S.1 S.2.1 dL_isStep_272 (ofInt_nI 1) ?_
  refine lv_goto (tgt := 277) S.1 S.2.1 dL_isStep_273 (by decide) ?_
  exact nr_iret S w hr hlocks (nI_bool (by decide)) (X25, o25, n25, Y25, P, M25, a25, b25, B25, Q) ⟨hL25, ht25⟩ rfl rfl (by omega) (by omega) dL_isStep_277
set_option maxRecDepth 100000 in
set_option maxHeartbeats 4000000 in
theorem k_L_isStep_163 (l : Launch) (hst : l.stackTraces = false) (D : va_G) (Z : Nat → ClassId) (z y : Nat → Nat → Nat) (X : ST) (o n : Nat) (Y : Nat → ST) (P : PG) (M : ST) (a b : Nat) (B : Nat → ST) (Q : PG) (x : Int32) (hL : LPq X o n M a b) (hT : X.2.1 4 + 20 ≤ 100000) {p : Program} {e : Env} {s : State} {m : MethodId} {args : Array Value} {below : List Frame} {meth : Method} {c : Code} {A : Nat → Prop} (S : CallFix p m c cL_isStep 10 s args wsL_isStep RL) (hr : meth.sig.returnType = (some .boolean)) (hlocks : meth.locks = false) (X9 : XT A s s.heap) (yv : Int32) (ua ub ch : Nat) (hua : ua < 6) (hub : ub < 8) (hch : ch < 4) : ∀ (H : Heap) (locs : List Loc) (ls : Array Slot) (hl : lv_has ls 10 [(0, .ref (z 0 0)), (1, .ref (y 0 0)), (2, .int x), (3, .int yv), (4, vI ua), (5, vI ub), (6, vI ch)]) (w : Wd D Z A s (qW Z z X o n Y P ++ qW Z y M a b B Q) H locs), W p l e (rmX 8 166 6 36) s m args below meth c H locs (0) (0) (Qr (β := ZB) below D Z A args s (fun u => zbL (X.2.1 4) u) (nI 1) (fun u => zbW Z z y u) 6 36) (F0 m 163 ls []) := by
  intro H locs ls hl w
  have hX := hL.1
  obtain ⟨b0, b1, b2, b3, b4, b5⟩ := hX.2.1
  have hp1 := hX.1.2.2.1
  have hp8 := hX.1.2.2.2.1
  refine lv_iload_n S.1 S.2.1 dL_isStep_163 rfl (lv_at hl 3 rfl) ?_
  refine lv_bipush (v := nI 8) S.1 S.2.1 dL_isStep_164 (by decide +kernel) ?_
  refine lv_ishr S.1 S.2.1 dL_isStep_166 ?_
  refine lv_iload S.1 S.2.1 dL_isStep_167 (lv_at hl 6 rfl) ?_
  refine nv_if_ne S (by omega) (tgt := 177) dL_isStep_169 (by decide) (fun h_5 => ?_) (fun h_5 => ?_)
  · skip
    refine lv_bipush (v := nI 7) S.1 S.2.1 dL_isStep_177 (by decide +kernel) ?_
    obtain ⟨u26, hu26, eu26⟩ : ∃ k9, k9 < 7 ∧ upN (yv >>> (nI 8 &&& 31)) 7 = k9 := ⟨_, upN_lt (by omega), rfl⟩
    refine nv_pSi (rest := []) S w hl.1 (c_L_up l D Z (yv >>> (nI 8 &&& 31)) 7 (by omega) (by omega)) gL_isStep_L_up rfl hdS_L_up ⟨(Nat.le_of_ble_eq_true rfl), (Nat.le_of_ble_eq_true rfl)⟩ rfl rfl (Nat.le_of_ble_eq_true rfl) ⟨(by show _ ≤ 6; omega), (by show _ ≤ 36; omega)⟩ dL_isStep_179 (fun H locs w => ?_)
    refine W.eq (g2 := F0 m 182 ls [vI u26]) (by rw [eu26]) ?_
    refine lv_istore (lv' := [(7, vI u26), (0, .ref (z 0 0)), (1, .ref (y 0 0)), (2, .int x), (3, .int yv), (4, vI ua), (5, vI ub), (6, vI ch)]) S.1 S.2.1 dL_isStep_182 hl (by decide) rfl (fun ls hl => ?_)
    refine lv_aload_n S.1 S.2.1 dL_isStep_184 rfl (lv_at hl 1 rfl) ?_
    refine lv_iload S.1 S.2.1 dL_isStep_185 (lv_at hl 5 rfl) ?_
    refine lv_iload S.1 S.2.1 dL_isStep_187 (lv_at hl 6 rfl) ?_
    refine lv_iload S.1 S.2.1 dL_isStep_189 (lv_at hl 7 rfl) ?_
    refine lv_iload S.1 S.2.1 dL_isStep_191 (lv_at hl 0 rfl) ?_
    refine lv_iload_n S.1 S.2.1 dL_isStep_193 rfl (lv_at hl 4 rfl) ?_
    refine lv_bipush (v := nI 11) S.1 S.2.1 dL_isStep_194 (by decide +kernel) ?_
    refine lv_ishr S.1 S.2.1 dL_isStep_196 ?_
    refine lv_bipush (v := nI 10) S.1 S.2.1 dL_isStep_197 (by decide +kernel) ?_
    obtain ⟨u27, hu27, eu27⟩ : ∃ k9, k9 < 10 ∧ upN (yv >>> (nI 11 &&& 31)) 10 = k9 := ⟨_, upN_lt (by omega), rfl⟩
    refine nv_pSi (rest := [vI u26, vI ch, vI ub, vI ua, .ref (z 0 0)]) S w hl.1 (c_L_up l D Z (yv >>> (nI 11 &&& 31)) 10 (by omega) (by omega)) gL_isStep_L_up rfl hdS_L_up ⟨(Nat.le_of_ble_eq_true rfl), (Nat.le_of_ble_eq_true rfl)⟩ rfl rfl (Nat.le_of_ble_eq_true rfl) ⟨(by show _ ≤ 6; omega), (by show _ ≤ 36; omega)⟩ dL_isStep_199 (fun H locs w => ?_)
    refine W.eq (g2 := F0 m 202 ls [vI u27, vI u26, vI ch, vI ub, vI ua, .ref (z 0 0)]) (by rw [eu27]) ?_
    obtain ⟨v28, X28, o28, n28, Y28, M28, a28, b28, B28, hL28, ht28, h1v28, h2v28⟩ := pq_setEffect l hst D Z z y Y P B Q hL (u := ua) (v := ub) (c := ch) (e := u26) (f := u27) (by omega) (by omega) (by omega) (by omega) (by omega) (fun h9 => by omega)
    refine nx_nVi ([]) (qW Z y M a b B Q) (ws' := qW Z z X28 o28 n28 Y28 P ++ qW Z y M a b B Q) (rest := []) S w X9 hl.1 (h1v28) (by simp only [List.nil_append, List.append_nil, List.append_assoc]) adr_q (by simp only [List.nil_append, List.append_nil, List.append_assoc]) gL_isStep_X7_setEffect rfl hdV_X7_setEffect ⟨(Nat.le_of_ble_eq_true rfl), (Nat.le_of_ble_eq_true rfl)⟩ (q0 := 0) rfl rfl rfl rfl (Nat.le_of_ble_eq_true rfl) ⟨(by show _ ≤ 6; omega), (by show _ ≤ 36; omega)⟩ dL_isStep_202 (fun H locs w => ?_)
    refine lv_aload_n S.1 S.2.1 dL_isStep_205 rfl (lv_at hl 2 rfl) ?_
    refine lv_iload S.1 S.2.1 dL_isStep_206 (lv_at hl 5 rfl) ?_
    refine lv_iload S.1 S.2.1 dL_isStep_208 (lv_at hl 6 rfl) ?_
    refine lv_iconst (v := nI 3) S.1 S.2.1 dL_isStep_210 (ofInt_nI 3) ?_
    refine lv_iload S.1 S.2.1 dL_isStep_211 (lv_at hl 7 rfl) ?_
    refine nv_isub S (by omega) dL_isStep_213 ?_
    refine lv_iload S.1 S.2.1 dL_isStep_214 (lv_at hl 0 rfl) ?_
    refine lv_iload_n S.1 S.2.1 dL_isStep_216 rfl (lv_at hl 4 rfl) ?_
    refine lv_bipush (v := nI 11) S.1 S.2.1 dL_isStep_217 (by decide +kernel) ?_
    refine lv_ishr S.1 S.2.1 dL_isStep_219 ?_
    refine lv_bipush (v := nI 10) S.1 S.2.1 dL_isStep_220 (by decide +kernel) ?_
    refine nv_pSi (rest := [vI u26, vI (3 - ch), vI ub, vI ua, .ref (y 0 0), .int v28]) S w hl.1 (c_L_up l D Z (yv >>> (nI 11 &&& 31)) 10 (by omega) (by omega)) gL_isStep_L_up rfl hdS_L_up ⟨(Nat.le_of_ble_eq_true rfl), (Nat.le_of_ble_eq_true rfl)⟩ rfl rfl (Nat.le_of_ble_eq_true rfl) ⟨(by show _ ≤ 6; omega), (by show _ ≤ 36; omega)⟩ dL_isStep_222 (fun H locs w => ?_)
    refine W.eq (g2 := F0 m 225 ls [vI u27, vI u26, vI (3 - ch), vI ub, vI ua, .ref (y 0 0), .int v28]) (by rw [eu27]) ?_
    refine nx_nVi (qW Z z X28 o28 n28 Y28 P) ([]) (ws' := qW Z z X28 o28 n28 Y28 P ++ qW Z y M28 a28 b28 B28 Q) (rest := [.int v28]) S w X9 hl.1 (h2v28) (by simp only [List.nil_append, List.append_nil, List.append_assoc]) adr_q (by simp only [List.nil_append, List.append_nil, List.append_assoc]) gL_isStep_X7_setEffect rfl hdV_X7_setEffect ⟨(Nat.le_of_ble_eq_true rfl), (Nat.le_of_ble_eq_true rfl)⟩ (q0 := 0) rfl rfl rfl rfl (Nat.le_of_ble_eq_true rfl) ⟨(by show _ ≤ 6; omega), (by show _ ≤ 36; omega)⟩ dL_isStep_225 (fun H locs w => ?_)
    refine lv_icmp_ne (tgt := 235) S.1 S.2.1 dL_isStep_228 (by decide) (fun h9 => absurd rfl h9) (fun _ => ?_)
    refine lv_iconst (v := nI 1) S.1 S.2.1 dL_isStep_231 (ofInt_nI 1) ?_
    refine lv_goto (tgt := 236) S.1 S.2.1 dL_isStep_232 (by decide) ?_
    exact nr_iret S w hr hlocks (nI_bool (by decide)) (X28, o28, n28, Y28, P, M28, a28, b28, B28, Q) ⟨hL28, ht28⟩ rfl rfl (by omega) (by omega) dL_isStep_236
  · skip
    refine lv_bipush (v := nI 8) S.1 S.2.1 dL_isStep_172 (by decide +kernel) ?_
    refine lv_goto (tgt := 179) S.1 S.2.1 dL_isStep_174 (by decide) ?_
    obtain ⟨u29, hu29, eu29⟩ : ∃ k9, k9 < 8 ∧ upN (yv >>> (nI 8 &&& 31)) 8 = k9 := ⟨_, upN_lt (by omega), rfl⟩
    refine nv_pSi (rest := []) S w hl.1 (c_L_up l D Z (yv >>> (nI 8 &&& 31)) 8 (by omega) (by omega)) gL_isStep_L_up rfl hdS_L_up ⟨(Nat.le_of_ble_eq_true rfl), (Nat.le_of_ble_eq_true rfl)⟩ rfl rfl (Nat.le_of_ble_eq_true rfl) ⟨(by show _ ≤ 6; omega), (by show _ ≤ 36; omega)⟩ dL_isStep_179 (fun H locs w => ?_)
    refine W.eq (g2 := F0 m 182 ls [vI u29]) (by rw [eu29]) ?_
    refine lv_istore (lv' := [(7, vI u29), (0, .ref (z 0 0)), (1, .ref (y 0 0)), (2, .int x), (3, .int yv), (4, vI ua), (5, vI ub), (6, vI ch)]) S.1 S.2.1 dL_isStep_182 hl (by decide) rfl (fun ls hl => ?_)
    refine lv_aload_n S.1 S.2.1 dL_isStep_184 rfl (lv_at hl 1 rfl) ?_
    refine lv_iload S.1 S.2.1 dL_isStep_185 (lv_at hl 5 rfl) ?_
    refine lv_iload S.1 S.2.1 dL_isStep_187 (lv_at hl 6 rfl) ?_
    refine lv_iload S.1 S.2.1 dL_isStep_189 (lv_at hl 7 rfl) ?_
    refine lv_iload S.1 S.2.1 dL_isStep_191 (lv_at hl 0 rfl) ?_
    refine lv_iload_n S.1 S.2.1 dL_isStep_193 rfl (lv_at hl 4 rfl) ?_
    refine lv_bipush (v := nI 11) S.1 S.2.1 dL_isStep_194 (by decide +kernel) ?_
    refine lv_ishr S.1 S.2.1 dL_isStep_196 ?_
    refine lv_bipush (v := nI 10) S.1 S.2.1 dL_isStep_197 (by decide +kernel) ?_
    obtain ⟨u30, hu30, eu30⟩ : ∃ k9, k9 < 10 ∧ upN (yv >>> (nI 11 &&& 31)) 10 = k9 := ⟨_, upN_lt (by omega), rfl⟩
    refine nv_pSi (rest := [vI u29, vI ch, vI ub, vI ua, .ref (z 0 0)]) S w hl.1 (c_L_up l D Z (yv >>> (nI 11 &&& 31)) 10 (by omega) (by omega)) gL_isStep_L_up rfl hdS_L_up ⟨(Nat.le_of_ble_eq_true rfl), (Nat.le_of_ble_eq_true rfl)⟩ rfl rfl (Nat.le_of_ble_eq_true rfl) ⟨(by show _ ≤ 6; omega), (by show _ ≤ 36; omega)⟩ dL_isStep_199 (fun H locs w => ?_)
    refine W.eq (g2 := F0 m 202 ls [vI u30, vI u29, vI ch, vI ub, vI ua, .ref (z 0 0)]) (by rw [eu30]) ?_
    obtain ⟨v31, X31, o31, n31, Y31, M31, a31, b31, B31, hL31, ht31, h1v31, h2v31⟩ := pq_setEffect l hst D Z z y Y P B Q hL (u := ua) (v := ub) (c := ch) (e := u29) (f := u30) (by omega) (by omega) (by omega) (by omega) (by omega) (fun h9 => by omega)
    refine nx_nVi ([]) (qW Z y M a b B Q) (ws' := qW Z z X31 o31 n31 Y31 P ++ qW Z y M a b B Q) (rest := []) S w X9 hl.1 (h1v31) (by simp only [List.nil_append, List.append_nil, List.append_assoc]) adr_q (by simp only [List.nil_append, List.append_nil, List.append_assoc]) gL_isStep_X7_setEffect rfl hdV_X7_setEffect ⟨(Nat.le_of_ble_eq_true rfl), (Nat.le_of_ble_eq_true rfl)⟩ (q0 := 0) rfl rfl rfl rfl (Nat.le_of_ble_eq_true rfl) ⟨(by show _ ≤ 6; omega), (by show _ ≤ 36; omega)⟩ dL_isStep_202 (fun H locs w => ?_)
    refine lv_aload_n S.1 S.2.1 dL_isStep_205 rfl (lv_at hl 2 rfl) ?_
    refine lv_iload S.1 S.2.1 dL_isStep_206 (lv_at hl 5 rfl) ?_
    refine lv_iload S.1 S.2.1 dL_isStep_208 (lv_at hl 6 rfl) ?_
    refine lv_iconst (v := nI 3) S.1 S.2.1 dL_isStep_210 (ofInt_nI 3) ?_
    refine lv_iload S.1 S.2.1 dL_isStep_211 (lv_at hl 7 rfl) ?_
    refine nv_isub S (by omega) dL_isStep_213 ?_
    refine lv_iload S.1 S.2.1 dL_isStep_214 (lv_at hl 0 rfl) ?_
    refine lv_iload_n S.1 S.2.1 dL_isStep_216 rfl (lv_at hl 4 rfl) ?_
    refine lv_bipush (v := nI 11) S.1 S.2.1 dL_isStep_217 (by decide +kernel) ?_
    refine lv_ishr S.1 S.2.1 dL_isStep_219 ?_
    refine lv_bipush (v := nI 10) S.1 S.2.1 dL_isStep_220 (by decide +kernel) ?_
    refine nv_pSi (rest := [vI u29, vI (3 - ch), vI ub, vI ua, .ref (y 0 0), .int v31]) S w hl.1 (c_L_up l D Z (yv >>> (nI 11 &&& 31)) 10 (by omega) (by omega)) gL_isStep_L_up rfl hdS_L_up ⟨(Nat.le_of_ble_eq_true rfl), (Nat.le_of_ble_eq_true rfl)⟩ rfl rfl (Nat.le_of_ble_eq_true rfl) ⟨(by show _ ≤ 6; omega), (by show _ ≤ 36; omega)⟩ dL_isStep_222 (fun H locs w => ?_)
    refine W.eq (g2 := F0 m 225 ls [vI u30, vI u29, vI (3 - ch), vI ub, vI ua, .ref (y 0 0), .int v31]) (by rw [eu30]) ?_
    refine nx_nVi (qW Z z X31 o31 n31 Y31 P) ([]) (ws' := qW Z z X31 o31 n31 Y31 P ++ qW Z y M31 a31 b31 B31 Q) (rest := [.int v31]) S w X9 hl.1 (h2v31) (by simp only [List.nil_append, List.append_nil, List.append_assoc]) adr_q (by simp only [List.nil_append, List.append_nil, List.append_assoc]) gL_isStep_X7_setEffect rfl hdV_X7_setEffect ⟨(Nat.le_of_ble_eq_true rfl), (Nat.le_of_ble_eq_true rfl)⟩ (q0 := 0) rfl rfl rfl rfl (Nat.le_of_ble_eq_true rfl) ⟨(by show _ ≤ 6; omega), (by show _ ≤ 36; omega)⟩ dL_isStep_225 (fun H locs w => ?_)
    refine lv_icmp_ne (tgt := 235) S.1 S.2.1 dL_isStep_228 (by decide) (fun h9 => absurd rfl h9) (fun _ => ?_)
    refine lv_iconst (v := nI 1) S.1 S.2.1 dL_isStep_231 (ofInt_nI 1) ?_
    refine lv_goto (tgt := 236) S.1 S.2.1 dL_isStep_232 (by decide) ?_
    exact nr_iret S w hr hlocks (nI_bool (by decide)) (X31, o31, n31, Y31, P, M31, a31, b31, B31, Q) ⟨hL31, ht31⟩ rfl rfl (by omega) (by omega) dL_isStep_236
set_option maxRecDepth 100000 in
set_option maxHeartbeats 4000000 in
theorem k_L_isStep_96 (l : Launch) (hst : l.stackTraces = false) (D : va_G) (Z : Nat → ClassId) (z y : Nat → Nat → Nat) (X : ST) (o n : Nat) (Y : Nat → ST) (P : PG) (M : ST) (a b : Nat) (B : Nat → ST) (Q : PG) (x : Int32) (hL : LPq X o n M a b) (hT : X.2.1 4 + 20 ≤ 100000) {p : Program} {e : Env} {s : State} {m : MethodId} {args : Array Value} {below : List Frame} {meth : Method} {c : Code} {A : Nat → Prop} (S : CallFix p m c cL_isStep 10 s args wsL_isStep RL) (hr : meth.sig.returnType = (some .boolean)) (hlocks : meth.locks = false) (X9 : XT A s s.heap) (yv : Int32) (ua ub ch : Nat) (hua : ua < 6) (hub : ub < 8) (hch : ch < 4) : ∀ (H : Heap) (locs : List Loc) (ls : Array Slot) (hl : lv_has ls 10 [(0, .ref (z 0 0)), (1, .ref (y 0 0)), (2, .int x), (3, .int yv), (4, vI ua), (5, vI ub), (6, vI ch)]) (w : Wd D Z A s (qW Z z X o n Y P ++ qW Z y M a b B Q) H locs), W p l e (rmX 8 166 6 36) s m args below meth c H locs (0) (0) (Qr (β := ZB) below D Z A args s (fun u => zbL (X.2.1 4) u) (nI 1) (fun u => zbW Z z y u) 6 36) (F0 m 96 ls []) := by
  intro H locs ls hl w
  have hX := hL.1
  obtain ⟨b0, b1, b2, b3, b4, b5⟩ := hX.2.1
  have hp1 := hX.1.2.2.1
  have hp8 := hX.1.2.2.2.1
  refine lv_aload_n S.1 S.2.1 dL_isStep_96 rfl (lv_at hl 0 rfl) ?_
  refine lv_iload S.1 S.2.1 dL_isStep_97 (lv_at hl 4 rfl) ?_
  refine lv_iload S.1 S.2.1 dL_isStep_99 (lv_at hl 5 rfl) ?_
  refine lv_iload S.1 S.2.1 dL_isStep_101 (lv_at hl 6 rfl) ?_
  refine lv_iload_n S.1 S.2.1 dL_isStep_103 rfl (lv_at hl 3 rfl) ?_
  refine lv_bipush (v := nI 8) S.1 S.2.1 dL_isStep_104 (by decide +kernel) ?_
  refine lv_ishr S.1 S.2.1 dL_isStep_106 ?_
  refine lv_bipush (v := nI 62) S.1 S.2.1 dL_isStep_107 (by decide +kernel) ?_
  obtain ⟨u32, hu32, eu32⟩ : ∃ k9, k9 < 62 ∧ upN (yv >>> (nI 8 &&& 31)) 62 = k9 := ⟨_, upN_lt (by omega), rfl⟩
  refine nv_pSi (rest := [vI ch, vI ub, vI ua, .ref (z 0 0)]) S w hl.1 (c_L_up l D Z (yv >>> (nI 8 &&& 31)) 62 (by omega) (by omega)) gL_isStep_L_up rfl hdS_L_up ⟨(Nat.le_of_ble_eq_true rfl), (Nat.le_of_ble_eq_true rfl)⟩ rfl rfl (Nat.le_of_ble_eq_true rfl) ⟨(by show _ ≤ 6; omega), (by show _ ≤ 36; omega)⟩ dL_isStep_109 (fun H locs w => ?_)
  refine W.eq (g2 := F0 m 112 ls [vI u32, vI ch, vI ub, vI ua, .ref (z 0 0)]) (by rw [eu32]) ?_
  refine lv_iload_n S.1 S.2.1 dL_isStep_112 rfl (lv_at hl 3 rfl) ?_
  refine lv_bipush (v := nI 14) S.1 S.2.1 dL_isStep_113 (by decide +kernel) ?_
  refine lv_ishr S.1 S.2.1 dL_isStep_115 ?_
  refine lv_bipush (v := nI 16) S.1 S.2.1 dL_isStep_116 (by decide +kernel) ?_
  obtain ⟨u33, hu33, eu33⟩ : ∃ k9, k9 < 16 ∧ upN (yv >>> (nI 14 &&& 31)) 16 = k9 := ⟨_, upN_lt (by omega), rfl⟩
  refine nv_pSi (rest := [vI u32, vI ch, vI ub, vI ua, .ref (z 0 0)]) S w hl.1 (c_L_up l D Z (yv >>> (nI 14 &&& 31)) 16 (by omega) (by omega)) gL_isStep_L_up rfl hdS_L_up ⟨(Nat.le_of_ble_eq_true rfl), (Nat.le_of_ble_eq_true rfl)⟩ rfl rfl (Nat.le_of_ble_eq_true rfl) ⟨(by show _ ≤ 6; omega), (by show _ ≤ 36; omega)⟩ dL_isStep_118 (fun H locs w => ?_)
  refine W.eq (g2 := F0 m 121 ls [vI u33, vI u32, vI ch, vI ub, vI ua, .ref (z 0 0)]) (by rw [eu33]) ?_
  obtain ⟨v34, X34, o34, n34, Y34, M34, a34, b34, B34, hL34, ht34, h1v34, h2v34⟩ := pq_setNote l hst D Z z y Y P B Q hL (u := ua) (v := ub) (c := ch) (e := u32) (f := u33) (by omega) (by omega) (by omega) (by omega) (by omega)
  refine nx_nVi ([]) (qW Z y M a b B Q) (ws' := qW Z z X34 o34 n34 Y34 P ++ qW Z y M a b B Q) (rest := []) S w X9 hl.1 (h1v34) (by simp only [List.nil_append, List.append_nil, List.append_assoc]) adr_q (by simp only [List.nil_append, List.append_nil, List.append_assoc]) gL_isStep_X7_setNote rfl hdV_X7_setNote ⟨(Nat.le_of_ble_eq_true rfl), (Nat.le_of_ble_eq_true rfl)⟩ (q0 := 0) rfl rfl rfl rfl (Nat.le_of_ble_eq_true rfl) ⟨(by show _ ≤ 6; omega), (by show _ ≤ 36; omega)⟩ dL_isStep_121 (fun H locs w => ?_)
  refine lv_aload_n S.1 S.2.1 dL_isStep_124 rfl (lv_at hl 1 rfl) ?_
  refine lv_iload S.1 S.2.1 dL_isStep_125 (lv_at hl 4 rfl) ?_
  refine lv_iload S.1 S.2.1 dL_isStep_127 (lv_at hl 5 rfl) ?_
  refine lv_iconst (v := nI 3) S.1 S.2.1 dL_isStep_129 (ofInt_nI 3) ?_
  refine lv_iload S.1 S.2.1 dL_isStep_130 (lv_at hl 6 rfl) ?_
  refine nv_isub S (by omega) dL_isStep_132 ?_
  refine lv_iload_n S.1 S.2.1 dL_isStep_133 rfl (lv_at hl 3 rfl) ?_
  refine lv_bipush (v := nI 8) S.1 S.2.1 dL_isStep_134 (by decide +kernel) ?_
  refine lv_ishr S.1 S.2.1 dL_isStep_136 ?_
  refine lv_bipush (v := nI 62) S.1 S.2.1 dL_isStep_137 (by decide +kernel) ?_
  refine nv_pSi (rest := [vI (3 - ch), vI ub, vI ua, .ref (y 0 0), .int v34]) S w hl.1 (c_L_up l D Z (yv >>> (nI 8 &&& 31)) 62 (by omega) (by omega)) gL_isStep_L_up rfl hdS_L_up ⟨(Nat.le_of_ble_eq_true rfl), (Nat.le_of_ble_eq_true rfl)⟩ rfl rfl (Nat.le_of_ble_eq_true rfl) ⟨(by show _ ≤ 6; omega), (by show _ ≤ 36; omega)⟩ dL_isStep_139 (fun H locs w => ?_)
  refine W.eq (g2 := F0 m 142 ls [vI u32, vI (3 - ch), vI ub, vI ua, .ref (y 0 0), .int v34]) (by rw [eu32]) ?_
  refine lv_iload_n S.1 S.2.1 dL_isStep_142 rfl (lv_at hl 3 rfl) ?_
  refine lv_bipush (v := nI 14) S.1 S.2.1 dL_isStep_143 (by decide +kernel) ?_
  refine lv_ishr S.1 S.2.1 dL_isStep_145 ?_
  refine lv_bipush (v := nI 16) S.1 S.2.1 dL_isStep_146 (by decide +kernel) ?_
  refine nv_pSi (rest := [vI u32, vI (3 - ch), vI ub, vI ua, .ref (y 0 0), .int v34]) S w hl.1 (c_L_up l D Z (yv >>> (nI 14 &&& 31)) 16 (by omega) (by omega)) gL_isStep_L_up rfl hdS_L_up ⟨(Nat.le_of_ble_eq_true rfl), (Nat.le_of_ble_eq_true rfl)⟩ rfl rfl (Nat.le_of_ble_eq_true rfl) ⟨(by show _ ≤ 6; omega), (by show _ ≤ 36; omega)⟩ dL_isStep_148 (fun H locs w => ?_)
  refine W.eq (g2 := F0 m 151 ls [vI u33, vI u32, vI (3 - ch), vI ub, vI ua, .ref (y 0 0), .int v34]) (by rw [eu33]) ?_
  refine nx_nVi (qW Z z X34 o34 n34 Y34 P) ([]) (ws' := qW Z z X34 o34 n34 Y34 P ++ qW Z y M34 a34 b34 B34 Q) (rest := [.int v34]) S w X9 hl.1 (h2v34) (by simp only [List.nil_append, List.append_nil, List.append_assoc]) adr_q (by simp only [List.nil_append, List.append_nil, List.append_assoc]) gL_isStep_X7_setNote rfl hdV_X7_setNote ⟨(Nat.le_of_ble_eq_true rfl), (Nat.le_of_ble_eq_true rfl)⟩ (q0 := 0) rfl rfl rfl rfl (Nat.le_of_ble_eq_true rfl) ⟨(by show _ ≤ 6; omega), (by show _ ≤ 36; omega)⟩ dL_isStep_151 (fun H locs w => ?_)
  refine lv_icmp_ne (tgt := 161) S.1 S.2.1 dL_isStep_154 (by decide) (fun h9 => absurd rfl h9) (fun _ => ?_)
  refine lv_iconst (v := nI 1) S.1 S.2.1 dL_isStep_157 (ofInt_nI 1) ?_
  refine lv_goto (tgt := 162) S.1 S.2.1 dL_isStep_158 (by decide) ?_
  exact nr_iret S w hr hlocks (nI_bool (by decide)) (X34, o34, n34, Y34, P, M34, a34, b34, B34, Q) ⟨hL34, ht34⟩ rfl rfl (by omega) (by omega) dL_isStep_162
set_option maxRecDepth 100000 in
set_option maxHeartbeats 4000000 in
theorem c_L_isStep (l : Launch) (hst : l.stackTraces = false) (D : va_G) (Z : Nat → ClassId) (z y : Nat → Nat → Nat) (X : ST) (o n : Nat) (Y : Nat → ST) (P : PG) (M : ST) (a b : Nat) (B : Nat → ST) (Q : PG) (x : Int32) (hL : LPq X o n M a b) (hT : X.2.1 4 + 20 ≤ 100000) : Cr (β := ZB) l yL_isStep wsL_isStep 8 166 6 36 D Z [.ref (z 0 0), .ref (y 0 0), .int x] (qW Z z X o n Y P ++ qW Z y M a b B Q) (fun u => zbL (X.2.1 4) u) (nI 1) (fun u => zbW Z z y u) := by
  refine ne_r (cc := cL_isStep) (maxL := 10) (by decide +kernel) rfl (Nat.le_of_ble_eq_true rfl) (fun p e s m args below meth c A ls (S : CallFix p m c cL_isStep 10 s args wsL_isStep RL) hr hlocks X9 hl w => ?_)
  have hl : lv_has ls 10 [(0, .ref (z 0 0)), (1, .ref (y 0 0)), (2, .int x)] := hl
  refine lv_iload_n S.1 S.2.1 dL_isStep_0 rfl (lv_at hl 2 rfl) ?_
  refine lv_iconst (v := nI 4) S.1 S.2.1 dL_isStep_1 (ofInt_nI 4) ?_
  refine lv_ishr S.1 S.2.1 dL_isStep_2 ?_
  refine lv_istore_n (lv' := [(3, .int (x >>> (nI 4 &&& 31))), (0, .ref (z 0 0)), (1, .ref (y 0 0)), (2, .int x)]) S.1 S.2.1 dL_isStep_3 rfl hl (by decide) rfl (fun ls hl => ?_)
  refine lv_iload_n S.1 S.2.1 dL_isStep_4 rfl (lv_at hl 0 rfl) ?_
  refine lv_bipush (v := nI 6) S.1 S.2.1 dL_isStep_5 (by decide +kernel) ?_
  obtain ⟨u35, hu35, eu35⟩ : ∃ k9, k9 < 6 ∧ upN (x >>> (nI 4 &&& 31)) 6 = k9 := ⟨_, upN_lt (by omega), rfl⟩
  refine nv_pSi (rest := []) S w hl.1 (c_L_up l D Z (x >>> (nI 4 &&& 31)) 6 (by omega) (by omega)) gL_isStep_L_up rfl hdS_L_up ⟨(Nat.le_of_ble_eq_true rfl), (Nat.le_of_ble_eq_true rfl)⟩ rfl rfl (Nat.le_of_ble_eq_true rfl) ⟨(by show _ ≤ 6; omega), (by show _ ≤ 36; omega)⟩ dL_isStep_7 (fun H locs w => ?_)
  refine W.eq (g2 := F0 m 10 ls [vI u35]) (by rw [eu35]) ?_
  refine lv_istore (lv' := [(4, vI u35), (3, .int (x >>> (nI 4 &&& 31))), (0, .ref (z 0 0)), (1, .ref (y 0 0)), (2, .int x)]) S.1 S.2.1 dL_isStep_10 hl (by decide) rfl (fun ls hl => ?_)
  refine lv_iload_n S.1 S.2.1 dL_isStep_12 rfl (lv_at hl 1 rfl) ?_
  refine lv_iconst (v := nI 3) S.1 S.2.1 dL_isStep_13 (ofInt_nI 3) ?_
  refine lv_ishr S.1 S.2.1 dL_isStep_14 ?_
  refine lv_bipush (v := nI 8) S.1 S.2.1 dL_isStep_15 (by decide +kernel) ?_
  obtain ⟨u36, hu36, eu36⟩ : ∃ k9, k9 < 8 ∧ upN ((x >>> (nI 4 &&& 31)) >>> (nI 3 &&& 31)) 8 = k9 := ⟨_, upN_lt (by omega), rfl⟩
  refine nv_pSi (rest := []) S w hl.1 (c_L_up l D Z ((x >>> (nI 4 &&& 31)) >>> (nI 3 &&& 31)) 8 (by omega) (by omega)) gL_isStep_L_up rfl hdS_L_up ⟨(Nat.le_of_ble_eq_true rfl), (Nat.le_of_ble_eq_true rfl)⟩ rfl rfl (Nat.le_of_ble_eq_true rfl) ⟨(by show _ ≤ 6; omega), (by show _ ≤ 36; omega)⟩ dL_isStep_17 (fun H locs w => ?_)
  refine W.eq (g2 := F0 m 20 ls [vI u36]) (by rw [eu36]) ?_
  refine lv_istore (lv' := [(5, vI u36), (4, vI u35), (3, .int (x >>> (nI 4 &&& 31))), (0, .ref (z 0 0)), (1, .ref (y 0 0)), (2, .int x)]) S.1 S.2.1 dL_isStep_20 hl (by decide) rfl (fun ls hl => ?_)
  refine lv_iload_n S.1 S.2.1 dL_isStep_22 rfl (lv_at hl 2 rfl) ?_
  refine lv_bipush (v := nI 6) S.1 S.2.1 dL_isStep_23 (by decide +kernel) ?_
  refine lv_ishr S.1 S.2.1 dL_isStep_25 ?_
  refine lv_iconst (v := nI 3) S.1 S.2.1 dL_isStep_26 (ofInt_nI 3) ?_
  refine lv_iand S.1 S.2.1 dL_isStep_27 ?_
  obtain ⟨ch, hch, ech⟩ := and3 ((x >>> (nI 4 &&& 31)) >>> (nI 6 &&& 31))
  refine W.eq (g2 := F0 m 28 ls [vI ch]) (by rw [ech]) ?_
  refine lv_istore (lv' := [(6, vI ch), (5, vI u36), (4, vI u35), (3, .int (x >>> (nI 4 &&& 31))), (0, .ref (z 0 0)), (1, .ref (y 0 0)), (2, .int x)]) S.1 S.2.1 dL_isStep_28 hl (by decide) rfl (fun ls hl => ?_)
  refine lv_iload_n S.1 S.2.1 dL_isStep_30 rfl (lv_at hl 6 rfl) ?_
  refine lv_bipush (v := nI 12) S.1 S.2.1 dL_isStep_31 (by decide +kernel) ?_
  obtain ⟨u37, hu37, eu37⟩ : ∃ k9, k9 < 12 ∧ upN x 12 = k9 := ⟨_, upN_lt (by omega), rfl⟩
  refine nv_pSi (rest := []) S w hl.1 (c_L_up l D Z x 12 (by omega) (by omega)) gL_isStep_L_up rfl hdS_L_up ⟨(Nat.le_of_ble_eq_true rfl), (Nat.le_of_ble_eq_true rfl)⟩ rfl rfl (Nat.le_of_ble_eq_true rfl) ⟨(by show _ ≤ 6; omega), (by show _ ≤ 36; omega)⟩ dL_isStep_33 (fun H locs w => ?_)
  refine W.eq (g2 := F0 m 36 ls [vI u37]) (by rw [eu37]) ?_
  by_cases h_6 : u37 = 0
  · skip
    refine nv_tableIn S (by omega) dL_isStep_36 (by rw [h_6]; decide) (by rw [h_6]; decide) (off := 60) (by rw [h_6]; rfl) (tgt := 96) (by decide) ?_
    exact k_L_isStep_96 l hst D Z z y X o n Y P M a b B Q x hL hT S hr hlocks X9 (x >>> (nI 4 &&& 31)) u35 u36 ch (by omega) (by omega) (by omega) _ _ _ (lv_sub hl [4, 5, 6, 3, 2, 1, 0] rfl) w
  · skip
    by_cases h_7 : u37 = 1
    · skip
      refine nv_tableIn S (by omega) dL_isStep_36 (by rw [h_7]; decide) (by rw [h_7]; decide) (off := 60) (by rw [h_7]; rfl) (tgt := 96) (by decide) ?_
      exact k_L_isStep_96 l hst D Z z y X o n Y P M a b B Q x hL hT S hr hlocks X9 (x >>> (nI 4 &&& 31)) u35 u36 ch (by omega) (by omega) (by omega) _ _ _ (lv_sub hl [4, 5, 6, 3, 2, 1, 0] rfl) w
    · skip
      by_cases h_8 : u37 = 2
      · skip
        refine nv_tableIn S (by omega) dL_isStep_36 (by rw [h_8]; decide) (by rw [h_8]; decide) (off := 60) (by rw [h_8]; rfl) (tgt := 96) (by decide) ?_
        exact k_L_isStep_96 l hst D Z z y X o n Y P M a b B Q x hL hT S hr hlocks X9 (x >>> (nI 4 &&& 31)) u35 u36 ch (by omega) (by omega) (by omega) _ _ _ (lv_sub hl [4, 5, 6, 3, 2, 1, 0] rfl) w
      · skip
        by_cases h_9 : u37 = 3
        · skip
          refine nv_tableIn S (by omega) dL_isStep_36 (by rw [h_9]; decide) (by rw [h_9]; decide) (off := 127) (by rw [h_9]; rfl) (tgt := 163) (by decide) ?_
          exact k_L_isStep_163 l hst D Z z y X o n Y P M a b B Q x hL hT S hr hlocks X9 (x >>> (nI 4 &&& 31)) u35 u36 ch (by omega) (by omega) (by omega) _ _ _ (lv_sub hl [4, 5, 6, 3, 2, 1, 0] rfl) w
        · skip
          by_cases h_10 : u37 = 4
          · skip
            refine nv_tableIn S (by omega) dL_isStep_36 (by rw [h_10]; decide) (by rw [h_10]; decide) (off := 127) (by rw [h_10]; rfl) (tgt := 163) (by decide) ?_
            exact k_L_isStep_163 l hst D Z z y X o n Y P M a b B Q x hL hT S hr hlocks X9 (x >>> (nI 4 &&& 31)) u35 u36 ch (by omega) (by omega) (by omega) _ _ _ (lv_sub hl [4, 5, 6, 3, 2, 1, 0] rfl) w
          · skip
            by_cases h_11 : u37 = 5
            · skip
              refine nv_tableIn S (by omega) dL_isStep_36 (by rw [h_11]; decide) (by rw [h_11]; decide) (off := 127) (by rw [h_11]; rfl) (tgt := 163) (by decide) ?_
              exact k_L_isStep_163 l hst D Z z y X o n Y P M a b B Q x hL hT S hr hlocks X9 (x >>> (nI 4 &&& 31)) u35 u36 ch (by omega) (by omega) (by omega) _ _ _ (lv_sub hl [4, 5, 6, 3, 2, 1, 0] rfl) w
            · skip
              by_cases h_12 : u37 = 6
              · skip
                refine nv_tableIn S (by omega) dL_isStep_36 (by rw [h_12]; decide) (by rw [h_12]; decide) (off := 201) (by rw [h_12]; rfl) (tgt := 237) (by decide) ?_
                exact k_L_isStep_237 l hst D Z z y X o n Y P M a b B Q x hL hT S hr hlocks X9 (x >>> (nI 4 &&& 31)) u35 u36 ch (by omega) (by omega) (by omega) _ _ _ (lv_sub hl [4, 5, 6, 3, 2, 1, 0] rfl) w
              · skip
                by_cases h_13 : u37 = 7
                · skip
                  refine nv_tableIn S (by omega) dL_isStep_36 (by rw [h_13]; decide) (by rw [h_13]; decide) (off := 242) (by rw [h_13]; rfl) (tgt := 278) (by decide) ?_
                  exact k_L_isStep_278 l hst D Z z y X o n Y P M a b B Q x hL hT S hr hlocks X9 (x >>> (nI 4 &&& 31)) u35 u36 ch (by omega) (by omega) (by omega) _ _ _ (lv_sub hl [4, 5, 6, 3, 2, 1, 0] rfl) w
                · skip
                  by_cases h_14 : u37 = 8
                  · skip
                    refine nv_tableIn S (by omega) dL_isStep_36 (by rw [h_14]; decide) (by rw [h_14]; decide) (off := 299) (by rw [h_14]; rfl) (tgt := 335) (by decide) ?_
                    exact k_L_isStep_335 l hst D Z z y X o n Y P M a b B Q x hL hT S hr hlocks X9 (x >>> (nI 4 &&& 31)) u35 u36 ch (by omega) (by omega) (by omega) _ _ _ (lv_sub hl [4, 5, 6, 3, 2, 1, 0] rfl) w
                  · skip
                    by_cases h_15 : u37 = 9
                    · skip
                      refine nv_tableIn S (by omega) dL_isStep_36 (by rw [h_15]; decide) (by rw [h_15]; decide) (off := 366) (by rw [h_15]; rfl) (tgt := 402) (by decide) ?_
                      exact k_L_isStep_402 l hst D Z z y X o n Y P M a b B Q x hL hT S hr hlocks X9 (x >>> (nI 4 &&& 31)) u35 u36 ch (by omega) (by omega) (by omega) _ _ _ (lv_sub hl [4, 5, 6, 3, 2, 1, 0] rfl) w
                    · skip
                      by_cases h_16 : u37 = 10
                      · skip
                        refine nv_tableIn S (by omega) dL_isStep_36 (by rw [h_16]; decide) (by rw [h_16]; decide) (off := 397) (by rw [h_16]; rfl) (tgt := 433) (by decide) ?_
                        exact k_L_isStep_433 l hst D Z z y X o n Y P M a b B Q x hL hT S hr hlocks X9 (x >>> (nI 4 &&& 31)) u35 u36 ch (by omega) (by omega) (by omega) _ _ _ (lv_sub hl [4, 5, 6, 3, 2, 1, 0] rfl) w
                      · skip
                        refine nv_tableOut S (by omega) dL_isStep_36 (by omega) (tgt := 476) (by decide) ?_
                        exact k_L_isStep_476 l hst D Z z y X o n Y P M a b B Q x hL hT S hr hlocks X9 (x >>> (nI 4 &&& 31)) u35 u36 ch (by omega) (by omega) (by omega) _ _ _ (lv_sub hl [4, 5, 6, 3, 2, 1, 0] rfl) w
