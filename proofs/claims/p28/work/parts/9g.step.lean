theorem hdS_L_up : yL_up.cls ≠ "java/lang/invoke/MethodHandle" ∧ yL_up.cls ≠ "java/lang/invoke/VarHandle" ∧ (parseMethodDescriptor yL_up.desc).map (fun d => d.parameters.length) = some 2 := by decide +kernel
theorem hdV_X7_hashOf : yX7_hashOf.cls = RX7 ∧ yX7_hashOf.cls ≠ "java/lang/invoke/MethodHandle" ∧ yX7_hashOf.cls ≠ "java/lang/invoke/VarHandle" ∧ (parseMethodDescriptor yX7_hashOf.desc).map (fun d => d.parameters.length) = some 1 := by decide +kernel
theorem hdV_X7_play : yX7_play.cls = RX7 ∧ yX7_play.cls ≠ "java/lang/invoke/MethodHandle" ∧ yX7_play.cls ≠ "java/lang/invoke/VarHandle" ∧ (parseMethodDescriptor yX7_play.desc).map (fun d => d.parameters.length) = some 1 := by decide +kernel
theorem hdV_X7_value : yX7_value.cls = RX7 ∧ yX7_value.cls ≠ "java/lang/invoke/MethodHandle" ∧ yX7_value.cls ≠ "java/lang/invoke/VarHandle" ∧ (parseMethodDescriptor yX7_value.desc).map (fun d => d.parameters.length) = some 1 := by decide +kernel
theorem hdV_X7_shorten : yX7_shorten.cls = RX7 ∧ yX7_shorten.cls ≠ "java/lang/invoke/MethodHandle" ∧ yX7_shorten.cls ≠ "java/lang/invoke/VarHandle" ∧ (parseMethodDescriptor yX7_shorten.desc).map (fun d => d.parameters.length) = some 0 := by decide +kernel
theorem hdV_X7_giveBack : yX7_giveBack.cls = RX7 ∧ yX7_giveBack.cls ≠ "java/lang/invoke/MethodHandle" ∧ yX7_giveBack.cls ≠ "java/lang/invoke/VarHandle" ∧ (parseMethodDescriptor yX7_giveBack.desc).map (fun d => d.parameters.length) = some 1 := by decide +kernel
theorem hdV_X7_steal : yX7_steal.cls = RX7 ∧ yX7_steal.cls ≠ "java/lang/invoke/MethodHandle" ∧ yX7_steal.cls ≠ "java/lang/invoke/VarHandle" ∧ (parseMethodDescriptor yX7_steal.desc).map (fun d => d.parameters.length) = some 3 := by decide +kernel
theorem hdV_X7_setOrder : yX7_setOrder.cls = RX7 ∧ yX7_setOrder.cls ≠ "java/lang/invoke/MethodHandle" ∧ yX7_setOrder.cls ≠ "java/lang/invoke/VarHandle" ∧ (parseMethodDescriptor yX7_setOrder.desc).map (fun d => d.parameters.length) = some 2 := by decide +kernel
theorem hdV_X7_setRows : yX7_setRows.cls = RX7 ∧ yX7_setRows.cls ≠ "java/lang/invoke/MethodHandle" ∧ yX7_setRows.cls ≠ "java/lang/invoke/VarHandle" ∧ (parseMethodDescriptor yX7_setRows.desc).map (fun d => d.parameters.length) = some 2 := by decide +kernel
theorem hdV_X7_setEffect : yX7_setEffect.cls = RX7 ∧ yX7_setEffect.cls ≠ "java/lang/invoke/MethodHandle" ∧ yX7_setEffect.cls ≠ "java/lang/invoke/VarHandle" ∧ (parseMethodDescriptor yX7_setEffect.desc).map (fun d => d.parameters.length) = some 5 := by decide +kernel
theorem hdV_X7_setNote : yX7_setNote.cls = RX7 ∧ yX7_setNote.cls ≠ "java/lang/invoke/MethodHandle" ∧ yX7_setNote.cls ≠ "java/lang/invoke/VarHandle" ∧ (parseMethodDescriptor yX7_setNote.desc).map (fun d => d.parameters.length) = some 5 := by decide +kernel
set_option maxRecDepth 100000 in
set_option maxHeartbeats 4000000 in
theorem k_L_isStep_476 (l : Launch) (hst : l.stackTraces = false) (D : va_G) (Z : Nat → ClassId) (z y : Nat → Nat → Nat) (X : ST) (o n : Nat) (Y : Nat → ST) (P : PG) (M : ST) (a b : Nat) (B : Nat → ST) (Q : PG) (x : Int32) (hL : LPq X o n M a b) (hT : X.2.1 4 + 20 ≤ 100000) {p : Program} {e : Env} {s : State} {m : MethodId} {args : Array Value} {below : List Frame} {meth : Method} {c : Code} {A : Nat → Prop} (S : CallFix p m c cL_isStep 10 s args wsL_isStep RL) (hr : meth.sig.returnType = (some .boolean)) (hlocks : meth.locks = false) (X9 : XT A s s.heap) (yv : Int32) (ua ub ch : Nat) (hua : ua < 6) (hub : ub < 8) (hch : ch < 4) : ∀ (H : Heap) (locs : List Loc) (ls : Array Slot) (hl : lv_has ls 10 [(0, .ref (z 0 0)), (1, .ref (y 0 0)), (2, .int x), (3, .int yv), (4, vI ua), (5, vI ub), (6, vI ch)]) (w : Wd D Z A s (qW Z z X o n Y P ++ qW Z y M a b B Q) H locs), W p l e (rmX 8 166 6 36) s m args below meth c H locs (0) (0) (Qr (β := ZB) below D Z A args s (fun u => zbL (X.2.1 4) u) (nI 1) (fun u => zbW Z z y u) 6 36) (F0 m 476 ls []) := by
  intro H locs ls hl w
  have hX := hL.1
  obtain ⟨b0, b1, b2, b3, b4, b5⟩ := hX.2.1
  have hp1 := hX.1.2.2.1
  have hp8 := hX.1.2.2.2.1
  refine lv_iconst (v := nI 1) S.1 S.2.1 dL_isStep_476 (ofInt_nI 1) ?_
  refine lv_iload_n S.1 S.2.1 dL_isStep_477 rfl (lv_at hl 3 rfl) ?_
  refine lv_bipush (v := nI 20) S.1 S.2.1 dL_isStep_478 (by decide +kernel) ?_
  obtain ⟨u1, hu1, eu1⟩ : ∃ k9, k9 < 20 ∧ upN yv 20 = k9 := ⟨_, upN_lt (by omega), rfl⟩
  refine nv_pSi (rest := [vI 1]) S w hl.1 (c_L_up l D Z yv 20 (by omega) (by omega)) gL_isStep_L_up rfl hdS_L_up ⟨(Nat.le_of_ble_eq_true rfl), (Nat.le_of_ble_eq_true rfl)⟩ rfl rfl (Nat.le_of_ble_eq_true rfl) ⟨(by show _ ≤ 6; omega), (by show _ ≤ 36; omega)⟩ dL_isStep_480 (fun H locs w => ?_)
  refine W.eq (g2 := F0 m 483 ls [vI u1, vI 1]) (by rw [eu1]) ?_
  refine nv_iadd S dL_isStep_483 ?_
  refine lv_istore (lv' := [(7, vI (1 + u1)), (0, .ref (z 0 0)), (1, .ref (y 0 0)), (2, .int x), (3, .int yv), (4, vI ua), (5, vI ub), (6, vI ch)]) S.1 S.2.1 dL_isStep_484 hl (by decide) rfl (fun ls hl => ?_)
  refine lv_aload_n S.1 S.2.1 dL_isStep_486 rfl (lv_at hl 1 rfl) ?_
  refine lv_iload S.1 S.2.1 dL_isStep_487 (lv_at hl 0 rfl) ?_
  obtain ⟨v2, X2, e2, hh2, hp2⟩ := q_hash l hst D Z z hL.1 (k := (1 + u1)) (by omega)
  obtain ⟨P2, hq2⟩ := hh2 o n Y P
  obtain ⟨hB2, ht2, hp2⟩ := hp2 (by omega) (by omega)
  refine nx_nVi ([]) (qW Z y M a b B Q) (ws' := qW Z z X o n Y P2 ++ qW Z y M a b B Q) (rest := []) S w X9 hl.1 (hq2) (by simp only [List.nil_append, List.append_nil, List.append_assoc]) adr_q (by simp only [List.nil_append, List.append_nil, List.append_assoc]) gL_isStep_X7_hashOf rfl hdV_X7_hashOf ⟨(Nat.le_of_ble_eq_true rfl), (Nat.le_of_ble_eq_true rfl)⟩ (q0 := 0) rfl rfl rfl rfl (Nat.le_of_ble_eq_true rfl) ⟨(by show _ ≤ 6; omega), (by show _ ≤ 36; omega)⟩ dL_isStep_489 (fun H locs w => ?_)
  refine lv_istore (lv' := [(8, .int v2), (7, vI (1 + u1)), (0, .ref (z 0 0)), (1, .ref (y 0 0)), (2, .int x), (3, .int yv), (4, vI ua), (5, vI ub), (6, vI ch)]) S.1 S.2.1 dL_isStep_492 hl (by decide) rfl (fun ls hl => ?_)
  refine lv_aload_n S.1 S.2.1 dL_isStep_494 rfl (lv_at hl 3 rfl) ?_
  refine lv_iload S.1 S.2.1 dL_isStep_495 (lv_at hl 1 rfl) ?_
  obtain ⟨v3, X3, e3, hh3, hp3⟩ := q_hash l hst D Z y hL.2.1 (k := (1 + u1)) (by omega)
  obtain ⟨P3, hq3⟩ := hh3 a b B Q
  obtain ⟨hB3, ht3, hp3⟩ := hp3 (by omega) (by rw [hL.2.2.1.2.1.1]; omega)
  refine nx_nVi (qW Z z X o n Y P2) ([]) (ws' := qW Z z X o n Y P2 ++ qW Z y M a b B P3) (rest := []) S w X9 hl.1 (hq3) (by simp only [List.nil_append, List.append_nil, List.append_assoc]) adr_q (by simp only [List.nil_append, List.append_nil, List.append_assoc]) gL_isStep_X7_hashOf rfl hdV_X7_hashOf ⟨(Nat.le_of_ble_eq_true rfl), (Nat.le_of_ble_eq_true rfl)⟩ (q0 := 0) rfl rfl rfl rfl (Nat.le_of_ble_eq_true rfl) ⟨(by show _ ≤ 6; omega), (by show _ ≤ 36; omega)⟩ dL_isStep_497 (fun H locs w => ?_)
  refine lv_istore (lv' := [(9, .int v3), (8, .int v2), (7, vI (1 + u1)), (0, .ref (z 0 0)), (1, .ref (y 0 0)), (2, .int x), (3, .int yv), (4, vI ua), (5, vI ub), (6, vI ch)]) S.1 S.2.1 dL_isStep_500 hl (by decide) rfl (fun ls hl => ?_)
  refine lv_aload_n S.1 S.2.1 dL_isStep_502 rfl (lv_at hl 3 rfl) ?_
  refine lv_iload S.1 S.2.1 dL_isStep_503 (lv_at hl 2 rfl) ?_
  refine nx_nVi ([]) (qW Z y M a b B P3) (ws' := qW Z z X2 (svO o n) (svN n + 1) (svX o n Y X) P2 ++ qW Z y M a b B P3) (rest := []) S w X9 hl.1 (hp2 o n Y P2 hL.2.2.2.1 hL.2.2.2.2.1) (by simp only [List.nil_append, List.append_nil, List.append_assoc]) adr_q (by simp only [List.nil_append, List.append_nil, List.append_assoc]) gL_isStep_X7_play rfl hdV_X7_play ⟨(Nat.le_of_ble_eq_true rfl), (Nat.le_of_ble_eq_true rfl)⟩ (q0 := 0) rfl rfl rfl rfl (Nat.le_of_ble_eq_true rfl) ⟨(by show _ ≤ 6; omega), (by show _ ≤ 36; omega)⟩ dL_isStep_505 (fun H locs w => ?_)
  refine lv_iload S.1 S.2.1 dL_isStep_508 (lv_at hl 1 rfl) ?_
  refine lv_icmp_ne (tgt := 528) S.1 S.2.1 dL_isStep_510 (by decide) (fun h9 => absurd rfl h9) (fun _ => ?_)
  refine lv_aload_n S.1 S.2.1 dL_isStep_513 rfl (lv_at hl 4 rfl) ?_
  refine lv_iload S.1 S.2.1 dL_isStep_514 (lv_at hl 2 rfl) ?_
  refine nx_nVi (qW Z z X2 (svO o n) (svN n + 1) (svX o n Y X) P2) ([]) (ws' := qW Z z X2 (svO o n) (svN n + 1) (svX o n Y X) P2 ++ qW Z y X3 (svO a b) (svN b + 1) (svX a b B M) P3) (rest := []) S w X9 hl.1 (hp3 a b B P3 hL.2.2.2.2.2.1 hL.2.2.2.2.2.2) (by simp only [List.nil_append, List.append_nil, List.append_assoc]) adr_q (by simp only [List.nil_append, List.append_nil, List.append_assoc]) gL_isStep_X7_play rfl hdV_X7_play ⟨(Nat.le_of_ble_eq_true rfl), (Nat.le_of_ble_eq_true rfl)⟩ (q0 := 0) rfl rfl rfl rfl (Nat.le_of_ble_eq_true rfl) ⟨(by show _ ≤ 6; omega), (by show _ ≤ 36; omega)⟩ dL_isStep_516 (fun H locs w => ?_)
  refine lv_iload S.1 S.2.1 dL_isStep_519 (lv_at hl 0 rfl) ?_
  refine lv_icmp_ne (tgt := 528) S.1 S.2.1 dL_isStep_521 (by decide) (fun h9 => absurd rfl h9) (fun _ => ?_)
  refine lv_iconst (v := nI 1) S.1 S.2.1 dL_isStep_524 (ofInt_nI 1) ?_
  refine lv_goto (tgt := 529) S.1 S.2.1 dL_isStep_525 (by decide) ?_
  exact nr_iret S w hr hlocks (nI_bool (by decide)) (X2, (svO o n), (svN n + 1), (svX o n Y X), P2, X3, (svO a b), (svN b + 1), (svX a b B M), P3) ⟨⟨hB2, hB3, (by rw [e2, e3]; exact TE_play hL.1 hL.2.2.1), svO_lt hL.2.2.2.1, svN_le hL.2.2.2.2.1, svO_lt hL.2.2.2.2.2.1, svN_le hL.2.2.2.2.2.2⟩, (by rw [ht2]; omega)⟩ rfl rfl (by omega) (by omega) dL_isStep_529
set_option maxRecDepth 100000 in
set_option maxHeartbeats 4000000 in
theorem k_L_isStep_433 (l : Launch) (hst : l.stackTraces = false) (D : va_G) (Z : Nat → ClassId) (z y : Nat → Nat → Nat) (X : ST) (o n : Nat) (Y : Nat → ST) (P : PG) (M : ST) (a b : Nat) (B : Nat → ST) (Q : PG) (x : Int32) (hL : LPq X o n M a b) (hT : X.2.1 4 + 20 ≤ 100000) {p : Program} {e : Env} {s : State} {m : MethodId} {args : Array Value} {below : List Frame} {meth : Method} {c : Code} {A : Nat → Prop} (S : CallFix p m c cL_isStep 10 s args wsL_isStep RL) (hr : meth.sig.returnType = (some .boolean)) (hlocks : meth.locks = false) (X9 : XT A s s.heap) (yv : Int32) (ua ub ch : Nat) (hua : ua < 6) (hub : ub < 8) (hch : ch < 4) : ∀ (H : Heap) (locs : List Loc) (ls : Array Slot) (hl : lv_has ls 10 [(0, .ref (z 0 0)), (1, .ref (y 0 0)), (2, .int x), (3, .int yv), (4, vI ua), (5, vI ub), (6, vI ch)]) (w : Wd D Z A s (qW Z z X o n Y P ++ qW Z y M a b B Q) H locs), W p l e (rmX 8 166 6 36) s m args below meth c H locs (0) (0) (Qr (β := ZB) below D Z A args s (fun u => zbL (X.2.1 4) u) (nI 1) (fun u => zbW Z z y u) 6 36) (F0 m 433 ls []) := by
  intro H locs ls hl w
  have hX := hL.1
  obtain ⟨b0, b1, b2, b3, b4, b5⟩ := hX.2.1
  have hp1 := hX.1.2.2.1
  have hp8 := hX.1.2.2.2.1
  refine lv_aload_n S.1 S.2.1 dL_isStep_433 rfl (lv_at hl 0 rfl) ?_
  refine lv_bipush (v := nI 6) S.1 S.2.1 dL_isStep_434 (by decide +kernel) ?_
  refine nx_nVi ([]) (qW Z y M a b B Q) (ws' := qW Z z X o n Y P ++ qW Z y M a b B Q) (rest := []) S w X9 hl.1 (n_value l hst D Z z X o n Y P 6 hL.1 (by decide)) (by simp only [List.nil_append, List.append_nil, List.append_assoc]) adr_q (by simp only [List.nil_append, List.append_nil, List.append_assoc]) gL_isStep_X7_value rfl hdV_X7_value ⟨(Nat.le_of_ble_eq_true rfl), (Nat.le_of_ble_eq_true rfl)⟩ (q0 := 0) rfl rfl rfl rfl (Nat.le_of_ble_eq_true rfl) ⟨(by show _ ≤ 6; omega), (by show _ ≤ 36; omega)⟩ dL_isStep_436 (fun H locs w => ?_)
  refine W.eq (g2 := F0 m 439 ls [vI X.1.2.2.2]) rfl ?_
  refine lv_iconst (v := nI 1) S.1 S.2.1 dL_isStep_439 (ofInt_nI 1) ?_
  refine nv_icmp_eq S (by omega) (by omega) (tgt := 470) dL_isStep_440 (by decide) (fun h_1 => ?_) (fun h_1 => ?_)
  · skip
    refine lv_iconst (v := nI 1) S.1 S.2.1 dL_isStep_470 (ofInt_nI 1) ?_
    refine lv_goto (tgt := 475) S.1 S.2.1 dL_isStep_471 (by decide) ?_
    exact nr_iret S w hr hlocks (nI_bool (by decide)) (X, o, n, Y, P, M, a, b, B, Q) ⟨hL, (Nat.le_add_right _ _)⟩ rfl rfl (by omega) (by omega) dL_isStep_475
  · skip
    refine lv_aload_n S.1 S.2.1 dL_isStep_443 rfl (lv_at hl 0 rfl) ?_
    refine lv_iconst (v := nI 0) S.1 S.2.1 dL_isStep_444 (ofInt_nI 0) ?_
    refine nx_nVi ([]) (qW Z y M a b B Q) (ws' := qW Z z X o n Y P ++ qW Z y M a b B Q) (rest := []) S w X9 hl.1 (n_value l hst D Z z X o n Y P 0 hL.1 (by decide)) (by simp only [List.nil_append, List.append_nil, List.append_assoc]) adr_q (by simp only [List.nil_append, List.append_nil, List.append_assoc]) gL_isStep_X7_value rfl hdV_X7_value ⟨(Nat.le_of_ble_eq_true rfl), (Nat.le_of_ble_eq_true rfl)⟩ (q0 := 0) rfl rfl rfl rfl (Nat.le_of_ble_eq_true rfl) ⟨(by show _ ≤ 6; omega), (by show _ ≤ 36; omega)⟩ dL_isStep_445 (fun H locs w => ?_)
    refine W.eq (g2 := F0 m 448 ls [vI (X.2.1 0)]) rfl ?_
    refine lv_aload_n S.1 S.2.1 dL_isStep_448 rfl (lv_at hl 0 rfl) ?_
    refine lv_bipush (v := nI 6) S.1 S.2.1 dL_isStep_449 (by decide +kernel) ?_
    refine nx_nVi ([]) (qW Z y M a b B Q) (ws' := qW Z z X o n Y P ++ qW Z y M a b B Q) (rest := [vI (X.2.1 0)]) S w X9 hl.1 (n_value l hst D Z z X o n Y P 6 hL.1 (by decide)) (by simp only [List.nil_append, List.append_nil, List.append_assoc]) adr_q (by simp only [List.nil_append, List.append_nil, List.append_assoc]) gL_isStep_X7_value rfl hdV_X7_value ⟨(Nat.le_of_ble_eq_true rfl), (Nat.le_of_ble_eq_true rfl)⟩ (q0 := 0) rfl rfl rfl rfl (Nat.le_of_ble_eq_true rfl) ⟨(by show _ ≤ 6; omega), (by show _ ≤ 36; omega)⟩ dL_isStep_451 (fun H locs w => ?_)
    refine W.eq (g2 := F0 m 454 ls [vI X.1.2.2.2, vI (X.2.1 0)]) rfl ?_
    refine lv_iconst (v := nI 1) S.1 S.2.1 dL_isStep_454 (ofInt_nI 1) ?_
    refine nv_isub S (by omega) dL_isStep_455 ?_
    refine nv_icmp_eq S (by omega) (by omega) (tgt := 470) dL_isStep_456 (by decide) (fun h_2 => ?_) (fun h_2 => ?_)
    · skip
      refine lv_iconst (v := nI 1) S.1 S.2.1 dL_isStep_470 (ofInt_nI 1) ?_
      refine lv_goto (tgt := 475) S.1 S.2.1 dL_isStep_471 (by decide) ?_
      exact nr_iret S w hr hlocks (nI_bool (by decide)) (X, o, n, Y, P, M, a, b, B, Q) ⟨hL, (Nat.le_add_right _ _)⟩ rfl rfl (by omega) (by omega) dL_isStep_475
    · skip
      refine lv_aload_n S.1 S.2.1 dL_isStep_459 rfl (lv_at hl 0 rfl) ?_
      obtain ⟨v4, X4, o4, n4, Y4, M4, a4, b4, B4, hL4, ht4, h1v4, h2v4⟩ := pq_shorten l hst D Z z y Y P B Q hL  (by omega) (by omega)
      refine nx_nVi ([]) (qW Z y M a b B Q) (ws' := qW Z z X4 o4 n4 Y4 P ++ qW Z y M a b B Q) (rest := []) S w X9 hl.1 (h1v4) (by simp only [List.nil_append, List.append_nil, List.append_assoc]) adr_q (by simp only [List.nil_append, List.append_nil, List.append_assoc]) gL_isStep_X7_shorten rfl hdV_X7_shorten ⟨(Nat.le_of_ble_eq_true rfl), (Nat.le_of_ble_eq_true rfl)⟩ (q0 := 0) rfl rfl rfl rfl (Nat.le_of_ble_eq_true rfl) ⟨(by show _ ≤ 6; omega), (by show _ ≤ 36; omega)⟩ dL_isStep_460 (fun H locs w => ?_)
      refine lv_aload_n S.1 S.2.1 dL_isStep_463 rfl (lv_at hl 1 rfl) ?_
      refine nx_nVi (qW Z z X4 o4 n4 Y4 P) ([]) (ws' := qW Z z X4 o4 n4 Y4 P ++ qW Z y M4 a4 b4 B4 Q) (rest := [.int v4]) S w X9 hl.1 (h2v4) (by simp only [List.nil_append, List.append_nil, List.append_assoc]) adr_q (by simp only [List.nil_append, List.append_nil, List.append_assoc]) gL_isStep_X7_shorten rfl hdV_X7_shorten ⟨(Nat.le_of_ble_eq_true rfl), (Nat.le_of_ble_eq_true rfl)⟩ (q0 := 0) rfl rfl rfl rfl (Nat.le_of_ble_eq_true rfl) ⟨(by show _ ≤ 6; omega), (by show _ ≤ 36; omega)⟩ dL_isStep_464 (fun H locs w => ?_)
      refine lv_icmp_ne (tgt := 474) S.1 S.2.1 dL_isStep_467 (by decide) (fun h9 => absurd rfl h9) (fun _ => ?_)
      refine lv_iconst (v := nI 1) S.1 S.2.1 dL_isStep_470 (ofInt_nI 1) ?_
      refine lv_goto (tgt := 475) S.1 S.2.1 dL_isStep_471 (by decide) ?_
      exact nr_iret S w hr hlocks (nI_bool (by decide)) (X4, o4, n4, Y4, P, M4, a4, b4, B4, Q) ⟨hL4, ht4⟩ rfl rfl (by omega) (by omega) dL_isStep_475
set_option maxRecDepth 100000 in
set_option maxHeartbeats 4000000 in
theorem k_L_isStep_402 (l : Launch) (hst : l.stackTraces = false) (D : va_G) (Z : Nat → ClassId) (z y : Nat → Nat → Nat) (X : ST) (o n : Nat) (Y : Nat → ST) (P : PG) (M : ST) (a b : Nat) (B : Nat → ST) (Q : PG) (x : Int32) (hL : LPq X o n M a b) (hT : X.2.1 4 + 20 ≤ 100000) {p : Program} {e : Env} {s : State} {m : MethodId} {args : Array Value} {below : List Frame} {meth : Method} {c : Code} {A : Nat → Prop} (S : CallFix p m c cL_isStep 10 s args wsL_isStep RL) (hr : meth.sig.returnType = (some .boolean)) (hlocks : meth.locks = false) (X9 : XT A s s.heap) (yv : Int32) (ua ub ch : Nat) (hua : ua < 6) (hub : ub < 8) (hch : ch < 4) : ∀ (H : Heap) (locs : List Loc) (ls : Array Slot) (hl : lv_has ls 10 [(0, .ref (z 0 0)), (1, .ref (y 0 0)), (2, .int x), (3, .int yv), (4, vI ua), (5, vI ub), (6, vI ch)]) (w : Wd D Z A s (qW Z z X o n Y P ++ qW Z y M a b B Q) H locs), W p l e (rmX 8 166 6 36) s m args below meth c H locs (0) (0) (Qr (β := ZB) below D Z A args s (fun u => zbL (X.2.1 4) u) (nI 1) (fun u => zbW Z z y u) 6 36) (F0 m 402 ls []) := by
  intro H locs ls hl w
  have hX := hL.1
  obtain ⟨b0, b1, b2, b3, b4, b5⟩ := hX.2.1
  have hp1 := hX.1.2.2.1
  have hp8 := hX.1.2.2.2.1
  refine lv_iload_n S.1 S.2.1 dL_isStep_402 rfl (lv_at hl 3 rfl) ?_
  refine lv_iconst (v := nI 4) S.1 S.2.1 dL_isStep_403 (ofInt_nI 4) ?_
  obtain ⟨u5, hu5, eu5⟩ : ∃ k9, k9 < 4 ∧ upN yv 4 = k9 := ⟨_, upN_lt (by omega), rfl⟩
  refine nv_pSi (rest := []) S w hl.1 (c_L_up l D Z yv 4 (by omega) (by omega)) gL_isStep_L_up rfl hdS_L_up ⟨(Nat.le_of_ble_eq_true rfl), (Nat.le_of_ble_eq_true rfl)⟩ rfl rfl (Nat.le_of_ble_eq_true rfl) ⟨(by show _ ≤ 6; omega), (by show _ ≤ 36; omega)⟩ dL_isStep_404 (fun H locs w => ?_)
  refine W.eq (g2 := F0 m 407 ls [vI u5]) (by rw [eu5]) ?_
  refine nv_if_gt S (by omega) (tgt := 427) dL_isStep_407 (by decide) (fun h_3 => ?_) (fun h_3 => ?_)
  · skip
    refine lv_iconst (v := nI 1) S.1 S.2.1 dL_isStep_427 (ofInt_nI 1) ?_
    refine lv_goto (tgt := 432) S.1 S.2.1 dL_isStep_428 (by decide) ?_
    exact nr_iret S w hr hlocks (nI_bool (by decide)) (X, o, n, Y, P, M, a, b, B, Q) ⟨hL, (Nat.le_add_right _ _)⟩ rfl rfl (by omega) (by omega) dL_isStep_432
  · skip
    refine lv_aload_n S.1 S.2.1 dL_isStep_410 rfl (lv_at hl 0 rfl) ?_
    refine lv_iload S.1 S.2.1 dL_isStep_411 (lv_at hl 6 rfl) ?_
    obtain ⟨v6, X6, o6, n6, Y6, M6, a6, b6, B6, hL6, ht6, h1v6, h2v6⟩ := pq_giveBack l hst D Z z y Y P B Q hL (c := ch) (by omega)
    refine nx_nVi ([]) (qW Z y M a b B Q) (ws' := qW Z z X6 o6 n6 Y6 P ++ qW Z y M a b B Q) (rest := []) S w X9 hl.1 (h1v6) (by simp only [List.nil_append, List.append_nil, List.append_assoc]) adr_q (by simp only [List.nil_append, List.append_nil, List.append_assoc]) gL_isStep_X7_giveBack rfl hdV_X7_giveBack ⟨(Nat.le_of_ble_eq_true rfl), (Nat.le_of_ble_eq_true rfl)⟩ (q0 := 0) rfl rfl rfl rfl (Nat.le_of_ble_eq_true rfl) ⟨(by show _ ≤ 6; omega), (by show _ ≤ 36; omega)⟩ dL_isStep_413 (fun H locs w => ?_)
    refine lv_aload_n S.1 S.2.1 dL_isStep_416 rfl (lv_at hl 1 rfl) ?_
    refine lv_iconst (v := nI 3) S.1 S.2.1 dL_isStep_417 (ofInt_nI 3) ?_
    refine lv_iload S.1 S.2.1 dL_isStep_418 (lv_at hl 6 rfl) ?_
    refine nv_isub S (by omega) dL_isStep_420 ?_
    refine nx_nVi (qW Z z X6 o6 n6 Y6 P) ([]) (ws' := qW Z z X6 o6 n6 Y6 P ++ qW Z y M6 a6 b6 B6 Q) (rest := [.int v6]) S w X9 hl.1 (h2v6) (by simp only [List.nil_append, List.append_nil, List.append_assoc]) adr_q (by simp only [List.nil_append, List.append_nil, List.append_assoc]) gL_isStep_X7_giveBack rfl hdV_X7_giveBack ⟨(Nat.le_of_ble_eq_true rfl), (Nat.le_of_ble_eq_true rfl)⟩ (q0 := 0) rfl rfl rfl rfl (Nat.le_of_ble_eq_true rfl) ⟨(by show _ ≤ 6; omega), (by show _ ≤ 36; omega)⟩ dL_isStep_421 (fun H locs w => ?_)
    refine lv_icmp_ne (tgt := 431) S.1 S.2.1 dL_isStep_424 (by decide) (fun h9 => absurd rfl h9) (fun _ => ?_)
    refine lv_iconst (v := nI 1) S.1 S.2.1 dL_isStep_427 (ofInt_nI 1) ?_
    refine lv_goto (tgt := 432) S.1 S.2.1 dL_isStep_428 (by decide) ?_
    exact nr_iret S w hr hlocks (nI_bool (by decide)) (X6, o6, n6, Y6, P, M6, a6, b6, B6, Q) ⟨hL6, ht6⟩ rfl rfl (by omega) (by omega) dL_isStep_432
set_option maxRecDepth 100000 in
set_option maxHeartbeats 4000000 in
theorem k_L_isStep_335 (l : Launch) (hst : l.stackTraces = false) (D : va_G) (Z : Nat → ClassId) (z y : Nat → Nat → Nat) (X : ST) (o n : Nat) (Y : Nat → ST) (P : PG) (M : ST) (a b : Nat) (B : Nat → ST) (Q : PG) (x : Int32) (hL : LPq X o n M a b) (hT : X.2.1 4 + 20 ≤ 100000) {p : Program} {e : Env} {s : State} {m : MethodId} {args : Array Value} {below : List Frame} {meth : Method} {c : Code} {A : Nat → Prop} (S : CallFix p m c cL_isStep 10 s args wsL_isStep RL) (hr : meth.sig.returnType = (some .boolean)) (hlocks : meth.locks = false) (X9 : XT A s s.heap) (yv : Int32) (ua ub ch : Nat) (hua : ua < 6) (hub : ub < 8) (hch : ch < 4) : ∀ (H : Heap) (locs : List Loc) (ls : Array Slot) (hl : lv_has ls 10 [(0, .ref (z 0 0)), (1, .ref (y 0 0)), (2, .int x), (3, .int yv), (4, vI ua), (5, vI ub), (6, vI ch)]) (w : Wd D Z A s (qW Z z X o n Y P ++ qW Z y M a b B Q) H locs), W p l e (rmX 8 166 6 36) s m args below meth c H locs (0) (0) (Qr (β := ZB) below D Z A args s (fun u => zbL (X.2.1 4) u) (nI 1) (fun u => zbW Z z y u) 6 36) (F0 m 335 ls []) := by
  intro H locs ls hl w
  have hX := hL.1
  obtain ⟨b0, b1, b2, b3, b4, b5⟩ := hX.2.1
  have hp1 := hX.1.2.2.1
  have hp8 := hX.1.2.2.2.1
  refine lv_aload_n S.1 S.2.1 dL_isStep_335 rfl (lv_at hl 0 rfl) ?_
  refine lv_iload S.1 S.2.1 dL_isStep_336 (lv_at hl 6 rfl) ?_
  refine lv_iconst (v := nI 1) S.1 S.2.1 dL_isStep_338 (ofInt_nI 1) ?_
  refine lv_iload_n S.1 S.2.1 dL_isStep_339 rfl (lv_at hl 3 rfl) ?_
  refine lv_bipush (v := nI 8) S.1 S.2.1 dL_isStep_340 (by decide +kernel) ?_
  refine lv_ishr S.1 S.2.1 dL_isStep_342 ?_
  refine lv_bipush (v := nI 60) S.1 S.2.1 dL_isStep_343 (by decide +kernel) ?_
  obtain ⟨u7, hu7, eu7⟩ : ∃ k9, k9 < 60 ∧ upN (yv >>> (nI 8 &&& 31)) 60 = k9 := ⟨_, upN_lt (by omega), rfl⟩
  refine nv_pSi (rest := [vI 1, vI ch, .ref (z 0 0)]) S w hl.1 (c_L_up l D Z (yv >>> (nI 8 &&& 31)) 60 (by omega) (by omega)) gL_isStep_L_up rfl hdS_L_up ⟨(Nat.le_of_ble_eq_true rfl), (Nat.le_of_ble_eq_true rfl)⟩ rfl rfl (Nat.le_of_ble_eq_true rfl) ⟨(by show _ ≤ 6; omega), (by show _ ≤ 36; omega)⟩ dL_isStep_345 (fun H locs w => ?_)
  refine W.eq (g2 := F0 m 348 ls [vI u7, vI 1, vI ch, .ref (z 0 0)]) (by rw [eu7]) ?_
  refine nv_iadd S dL_isStep_348 ?_
  refine lv_iconst (v := nI 1) S.1 S.2.1 dL_isStep_349 (ofInt_nI 1) ?_
  refine lv_iload_n S.1 S.2.1 dL_isStep_350 rfl (lv_at hl 3 rfl) ?_
  refine lv_bipush (v := nI 14) S.1 S.2.1 dL_isStep_351 (by decide +kernel) ?_
  refine lv_ishr S.1 S.2.1 dL_isStep_353 ?_
  refine lv_bipush (v := nI 20) S.1 S.2.1 dL_isStep_354 (by decide +kernel) ?_
  obtain ⟨u8, hu8, eu8⟩ : ∃ k9, k9 < 20 ∧ upN (yv >>> (nI 14 &&& 31)) 20 = k9 := ⟨_, upN_lt (by omega), rfl⟩
  refine nv_pSi (rest := [vI 1, vI (1 + u7), vI ch, .ref (z 0 0)]) S w hl.1 (c_L_up l D Z (yv >>> (nI 14 &&& 31)) 20 (by omega) (by omega)) gL_isStep_L_up rfl hdS_L_up ⟨(Nat.le_of_ble_eq_true rfl), (Nat.le_of_ble_eq_true rfl)⟩ rfl rfl (Nat.le_of_ble_eq_true rfl) ⟨(by show _ ≤ 6; omega), (by show _ ≤ 36; omega)⟩ dL_isStep_356 (fun H locs w => ?_)
  refine W.eq (g2 := F0 m 359 ls [vI u8, vI 1, vI (1 + u7), vI ch, .ref (z 0 0)]) (by rw [eu8]) ?_
  refine nv_iadd S dL_isStep_359 ?_
  obtain ⟨v9, X9, o9, n9, Y9, M9, a9, b9, B9, hL9, ht9, h1v9, h2v9⟩ := pq_steal l hst D Z z y Y P B Q hL (c := ch) (e := 1 + u7) (f := 1 + u8) (by omega) (by omega) (by omega) (by omega) (by omega)
  refine nx_nVi ([]) (qW Z y M a b B Q) (ws' := qW Z z X9 o9 n9 Y9 P ++ qW Z y M a b B Q) (rest := []) S w X9 hl.1 (h1v9) (by simp only [List.nil_append, List.append_nil, List.append_assoc]) adr_q (by simp only [List.nil_append, List.append_nil, List.append_assoc]) gL_isStep_X7_steal rfl hdV_X7_steal ⟨(Nat.le_of_ble_eq_true rfl), (Nat.le_of_ble_eq_true rfl)⟩ (q0 := 0) rfl rfl rfl rfl (Nat.le_of_ble_eq_true rfl) ⟨(by show _ ≤ 6; omega), (by show _ ≤ 36; omega)⟩ dL_isStep_360 (fun H locs w => ?_)
  refine lv_aload_n S.1 S.2.1 dL_isStep_363 rfl (lv_at hl 1 rfl) ?_
  refine lv_iconst (v := nI 3) S.1 S.2.1 dL_isStep_364 (ofInt_nI 3) ?_
  refine lv_iload S.1 S.2.1 dL_isStep_365 (lv_at hl 6 rfl) ?_
  refine nv_isub S (by omega) dL_isStep_367 ?_
  refine lv_iconst (v := nI 1) S.1 S.2.1 dL_isStep_368 (ofInt_nI 1) ?_
  refine lv_iload_n S.1 S.2.1 dL_isStep_369 rfl (lv_at hl 3 rfl) ?_
  refine lv_bipush (v := nI 8) S.1 S.2.1 dL_isStep_370 (by decide +kernel) ?_
  refine lv_ishr S.1 S.2.1 dL_isStep_372 ?_
  refine lv_bipush (v := nI 60) S.1 S.2.1 dL_isStep_373 (by decide +kernel) ?_
  refine nv_pSi (rest := [vI 1, vI (3 - ch), .ref (y 0 0), .int v9]) S w hl.1 (c_L_up l D Z (yv >>> (nI 8 &&& 31)) 60 (by omega) (by omega)) gL_isStep_L_up rfl hdS_L_up ⟨(Nat.le_of_ble_eq_true rfl), (Nat.le_of_ble_eq_true rfl)⟩ rfl rfl (Nat.le_of_ble_eq_true rfl) ⟨(by show _ ≤ 6; omega), (by show _ ≤ 36; omega)⟩ dL_isStep_375 (fun H locs w => ?_)
  refine W.eq (g2 := F0 m 378 ls [vI u7, vI 1, vI (3 - ch), .ref (y 0 0), .int v9]) (by rw [eu7]) ?_
  refine nv_iadd S dL_isStep_378 ?_
  refine lv_iconst (v := nI 1) S.1 S.2.1 dL_isStep_379 (ofInt_nI 1) ?_
  refine lv_iload_n S.1 S.2.1 dL_isStep_380 rfl (lv_at hl 3 rfl) ?_
  refine lv_bipush (v := nI 14) S.1 S.2.1 dL_isStep_381 (by decide +kernel) ?_
  refine lv_ishr S.1 S.2.1 dL_isStep_383 ?_
  refine lv_bipush (v := nI 20) S.1 S.2.1 dL_isStep_384 (by decide +kernel) ?_
  refine nv_pSi (rest := [vI 1, vI (1 + u7), vI (3 - ch), .ref (y 0 0), .int v9]) S w hl.1 (c_L_up l D Z (yv >>> (nI 14 &&& 31)) 20 (by omega) (by omega)) gL_isStep_L_up rfl hdS_L_up ⟨(Nat.le_of_ble_eq_true rfl), (Nat.le_of_ble_eq_true rfl)⟩ rfl rfl (Nat.le_of_ble_eq_true rfl) ⟨(by show _ ≤ 6; omega), (by show _ ≤ 36; omega)⟩ dL_isStep_386 (fun H locs w => ?_)
  refine W.eq (g2 := F0 m 389 ls [vI u8, vI 1, vI (1 + u7), vI (3 - ch), .ref (y 0 0), .int v9]) (by rw [eu8]) ?_
  refine nv_iadd S dL_isStep_389 ?_
  refine nx_nVi (qW Z z X9 o9 n9 Y9 P) ([]) (ws' := qW Z z X9 o9 n9 Y9 P ++ qW Z y M9 a9 b9 B9 Q) (rest := [.int v9]) S w X9 hl.1 (h2v9) (by simp only [List.nil_append, List.append_nil, List.append_assoc]) adr_q (by simp only [List.nil_append, List.append_nil, List.append_assoc]) gL_isStep_X7_steal rfl hdV_X7_steal ⟨(Nat.le_of_ble_eq_true rfl), (Nat.le_of_ble_eq_true rfl)⟩ (q0 := 0) rfl rfl rfl rfl (Nat.le_of_ble_eq_true rfl) ⟨(by show _ ≤ 6; omega), (by show _ ≤ 36; omega)⟩ dL_isStep_390 (fun H locs w => ?_)
  refine lv_icmp_ne (tgt := 400) S.1 S.2.1 dL_isStep_393 (by decide) (fun h9 => absurd rfl h9) (fun _ => ?_)
  refine lv_iconst (v := nI 1) S.1 S.2.1 dL_isStep_396 (ofInt_nI 1) ?_
  refine lv_goto (tgt := 401) S.1 S.2.1 dL_isStep_397 (by decide) ?_
  exact nr_iret S w hr hlocks (nI_bool (by decide)) (X9, o9, n9, Y9, P, M9, a9, b9, B9, Q) ⟨hL9, ht9⟩ rfl rfl (by omega) (by omega) dL_isStep_401
set_option maxRecDepth 100000 in
set_option maxHeartbeats 4000000 in
theorem k_L_isStep_278 (l : Launch) (hst : l.stackTraces = false) (D : va_G) (Z : Nat → ClassId) (z y : Nat → Nat → Nat) (X : ST) (o n : Nat) (Y : Nat → ST) (P : PG) (M : ST) (a b : Nat) (B : Nat → ST) (Q : PG) (x : Int32) (hL : LPq X o n M a b) (hT : X.2.1 4 + 20 ≤ 100000) {p : Program} {e : Env} {s : State} {m : MethodId} {args : Array Value} {below : List Frame} {meth : Method} {c : Code} {A : Nat → Prop} (S : CallFix p m c cL_isStep 10 s args wsL_isStep RL) (hr : meth.sig.returnType = (some .boolean)) (hlocks : meth.locks = false) (X9 : XT A s s.heap) (yv : Int32) (ua ub ch : Nat) (hua : ua < 6) (hub : ub < 8) (hch : ch < 4) : ∀ (H : Heap) (locs : List Loc) (ls : Array Slot) (hl : lv_has ls 10 [(0, .ref (z 0 0)), (1, .ref (y 0 0)), (2, .int x), (3, .int yv), (4, vI ua), (5, vI ub), (6, vI ch)]) (w : Wd D Z A s (qW Z z X o n Y P ++ qW Z y M a b B Q) H locs), W p l e (rmX 8 166 6 36) s m args below meth c H locs (0) (0) (Qr (β := ZB) below D Z A args s (fun u => zbL (X.2.1 4) u) (nI 1) (fun u => zbW Z z y u) 6 36) (F0 m 278 ls []) := by
  intro H locs ls hl w
  have hX := hL.1
  obtain ⟨b0, b1, b2, b3, b4, b5⟩ := hX.2.1
  have hp1 := hX.1.2.2.1
  have hp8 := hX.1.2.2.2.1
  refine lv_iload_n S.1 S.2.1 dL_isStep_278 rfl (lv_at hl 3 rfl) ?_
  refine lv_iconst (v := nI 3) S.1 S.2.1 dL_isStep_279 (ofInt_nI 3) ?_
  refine lv_ishr S.1 S.2.1 dL_isStep_280 ?_
  refine lv_aload_n S.1 S.2.1 dL_isStep_281 rfl (lv_at hl 0 rfl) ?_
  refine lv_bipush (v := nI 6) S.1 S.2.1 dL_isStep_282 (by decide +kernel) ?_
  refine nx_nVi ([]) (qW Z y M a b B Q) (ws' := qW Z z X o n Y P ++ qW Z y M a b B Q) (rest := [.int (yv >>> (nI 3 &&& 31))]) S w X9 hl.1 (n_value l hst D Z z X o n Y P 6 hL.1 (by decide)) (by simp only [List.nil_append, List.append_nil, List.append_assoc]) adr_q (by simp only [List.nil_append, List.append_nil, List.append_assoc]) gL_isStep_X7_value rfl hdV_X7_value ⟨(Nat.le_of_ble_eq_true rfl), (Nat.le_of_ble_eq_true rfl)⟩ (q0 := 0) rfl rfl rfl rfl (Nat.le_of_ble_eq_true rfl) ⟨(by show _ ≤ 6; omega), (by show _ ≤ 36; omega)⟩ dL_isStep_284 (fun H locs w => ?_)
  refine W.eq (g2 := F0 m 287 ls [vI X.1.2.2.2, .int (yv >>> (nI 3 &&& 31))]) rfl ?_
  refine lv_bipush (v := nI 8) S.1 S.2.1 dL_isStep_287 (by decide +kernel) ?_
  refine nv_icmp_ne S (by omega) (by omega) (tgt := 297) dL_isStep_289 (by decide) (fun h_4 => ?_) (fun h_4 => ?_)
  · skip
    refine lv_aload_n S.1 S.2.1 dL_isStep_297 rfl (lv_at hl 0 rfl) ?_
    refine lv_bipush (v := nI 6) S.1 S.2.1 dL_isStep_298 (by decide +kernel) ?_
    refine nx_nVi ([]) (qW Z y M a b B Q) (ws' := qW Z z X o n Y P ++ qW Z y M a b B Q) (rest := [.int (yv >>> (nI 3 &&& 31))]) S w X9 hl.1 (n_value l hst D Z z X o n Y P 6 hL.1 (by decide)) (by simp only [List.nil_append, List.append_nil, List.append_assoc]) adr_q (by simp only [List.nil_append, List.append_nil, List.append_assoc]) gL_isStep_X7_value rfl hdV_X7_value ⟨(Nat.le_of_ble_eq_true rfl), (Nat.le_of_ble_eq_true rfl)⟩ (q0 := 0) rfl rfl rfl rfl (Nat.le_of_ble_eq_true rfl) ⟨(by show _ ≤ 6; omega), (by show _ ≤ 36; omega)⟩ dL_isStep_300 (fun H locs w => ?_)
    refine W.eq (g2 := F0 m 303 ls [vI X.1.2.2.2, .int (yv >>> (nI 3 &&& 31))]) rfl ?_
    refine lv_iconst (v := nI 1) S.1 S.2.1 dL_isStep_303 (ofInt_nI 1) ?_
    refine nv_iadd S dL_isStep_304 ?_
    obtain ⟨u10, hu10, eu10⟩ : ∃ k9, k9 < (X.1.2.2.2 + 1) ∧ upN (yv >>> (nI 3 &&& 31)) (X.1.2.2.2 + 1) = k9 := ⟨_, upN_lt (by omega), rfl⟩
    refine nv_pSi (rest := []) S w hl.1 (c_L_up l D Z (yv >>> (nI 3 &&& 31)) (X.1.2.2.2 + 1) (by omega) (by omega)) gL_isStep_L_up rfl hdS_L_up ⟨(Nat.le_of_ble_eq_true rfl), (Nat.le_of_ble_eq_true rfl)⟩ rfl rfl (Nat.le_of_ble_eq_true rfl) ⟨(by show _ ≤ 6; omega), (by show _ ≤ 36; omega)⟩ dL_isStep_305 (fun H locs w => ?_)
    refine W.eq (g2 := F0 m 308 ls [vI u10]) (by rw [eu10]) ?_
    refine lv_istore (lv' := [(7, vI u10), (0, .ref (z 0 0)), (1, .ref (y 0 0)), (2, .int x), (3, .int yv), (4, vI ua), (5, vI ub), (6, vI ch)]) S.1 S.2.1 dL_isStep_308 hl (by decide) rfl (fun ls hl => ?_)
    refine lv_aload_n S.1 S.2.1 dL_isStep_310 rfl (lv_at hl 1 rfl) ?_
    refine lv_iload S.1 S.2.1 dL_isStep_311 (lv_at hl 0 rfl) ?_
    refine lv_iload S.1 S.2.1 dL_isStep_313 (lv_at hl 5 rfl) ?_
    obtain ⟨v11, X11, o11, n11, Y11, M11, a11, b11, B11, hL11, ht11, h1v11, h2v11⟩ := pq_setOrder l hst D Z z y Y P B Q hL (u := u10) (e := ua) (by omega) (by omega) (by omega)
    refine nx_nVi ([]) (qW Z y M a b B Q) (ws' := qW Z z X11 o11 n11 Y11 P ++ qW Z y M a b B Q) (rest := []) S w X9 hl.1 (h1v11) (by simp only [List.nil_append, List.append_nil, List.append_assoc]) adr_q (by simp only [List.nil_append, List.append_nil, List.append_assoc]) gL_isStep_X7_setOrder rfl hdV_X7_setOrder ⟨(Nat.le_of_ble_eq_true rfl), (Nat.le_of_ble_eq_true rfl)⟩ (q0 := 0) rfl rfl rfl rfl (Nat.le_of_ble_eq_true rfl) ⟨(by show _ ≤ 6; omega), (by show _ ≤ 36; omega)⟩ dL_isStep_315 (fun H locs w => ?_)
    refine lv_aload_n S.1 S.2.1 dL_isStep_318 rfl (lv_at hl 2 rfl) ?_
    refine lv_iload S.1 S.2.1 dL_isStep_319 (lv_at hl 0 rfl) ?_
    refine lv_iload S.1 S.2.1 dL_isStep_321 (lv_at hl 5 rfl) ?_
    refine nx_nVi (qW Z z X11 o11 n11 Y11 P) ([]) (ws' := qW Z z X11 o11 n11 Y11 P ++ qW Z y M11 a11 b11 B11 Q) (rest := [.int v11]) S w X9 hl.1 (h2v11) (by simp only [List.nil_append, List.append_nil, List.append_assoc]) adr_q (by simp only [List.nil_append, List.append_nil, List.append_assoc]) gL_isStep_X7_setOrder rfl hdV_X7_setOrder ⟨(Nat.le_of_ble_eq_true rfl), (Nat.le_of_ble_eq_true rfl)⟩ (q0 := 0) rfl rfl rfl rfl (Nat.le_of_ble_eq_true rfl) ⟨(by show _ ≤ 6; omega), (by show _ ≤ 36; omega)⟩ dL_isStep_323 (fun H locs w => ?_)
    refine lv_icmp_ne (tgt := 333) S.1 S.2.1 dL_isStep_326 (by decide) (fun h9 => absurd rfl h9) (fun _ => ?_)
    refine lv_iconst (v := nI 1) S.1 S.2.1 dL_isStep_329 (ofInt_nI 1) ?_
    refine lv_goto (tgt := 334) S.1 S.2.1 dL_isStep_330 (by decide) ?_
    exact nr_iret S w hr hlocks (nI_bool (by decide)) (X11, o11, n11, Y11, P, M11, a11, b11, B11, Q) ⟨hL11, ht11⟩ rfl rfl (by omega) (by omega) dL_isStep_334
  · skip
    refine lv_bipush (v := nI 8) S.1 S.2.1 dL_isStep_292 (by decide +kernel) ?_
    refine lv_goto (tgt := 305) S.1 S.2.1 dL_isStep_294 (by decide) ?_
    obtain ⟨u12, hu12, eu12⟩ : ∃ k9, k9 < 8 ∧ upN (yv >>> (nI 3 &&& 31)) 8 = k9 := ⟨_, upN_lt (by omega), rfl⟩
    refine nv_pSi (rest := []) S w hl.1 (c_L_up l D Z (yv >>> (nI 3 &&& 31)) 8 (by omega) (by omega)) gL_isStep_L_up rfl hdS_L_up ⟨(Nat.le_of_ble_eq_true rfl), (Nat.le_of_ble_eq_true rfl)⟩ rfl rfl (Nat.le_of_ble_eq_true rfl) ⟨(by show _ ≤ 6; omega), (by show _ ≤ 36; omega)⟩ dL_isStep_305 (fun H locs w => ?_)
    refine W.eq (g2 := F0 m 308 ls [vI u12]) (by rw [eu12]) ?_
    refine lv_istore (lv' := [(7, vI u12), (0, .ref (z 0 0)), (1, .ref (y 0 0)), (2, .int x), (3, .int yv), (4, vI ua), (5, vI ub), (6, vI ch)]) S.1 S.2.1 dL_isStep_308 hl (by decide) rfl (fun ls hl => ?_)
    refine lv_aload_n S.1 S.2.1 dL_isStep_310 rfl (lv_at hl 1 rfl) ?_
    refine lv_iload S.1 S.2.1 dL_isStep_311 (lv_at hl 0 rfl) ?_
    refine lv_iload S.1 S.2.1 dL_isStep_313 (lv_at hl 5 rfl) ?_
    obtain ⟨v13, X13, o13, n13, Y13, M13, a13, b13, B13, hL13, ht13, h1v13, h2v13⟩ := pq_setOrder l hst D Z z y Y P B Q hL (u := u12) (e := ua) (by omega) (by omega) (by omega)
    refine nx_nVi ([]) (qW Z y M a b B Q) (ws' := qW Z z X13 o13 n13 Y13 P ++ qW Z y M a b B Q) (rest := []) S w X9 hl.1 (h1v13) (by simp only [List.nil_append, List.append_nil, List.append_assoc]) adr_q (by simp only [List.nil_append, List.append_nil, List.append_assoc]) gL_isStep_X7_setOrder rfl hdV_X7_setOrder ⟨(Nat.le_of_ble_eq_true rfl), (Nat.le_of_ble_eq_true rfl)⟩ (q0 := 0) rfl rfl rfl rfl (Nat.le_of_ble_eq_true rfl) ⟨(by show _ ≤ 6; omega), (by show _ ≤ 36; omega)⟩ dL_isStep_315 (fun H locs w => ?_)
    refine lv_aload_n S.1 S.2.1 dL_isStep_318 rfl (lv_at hl 2 rfl) ?_
    refine lv_iload S.1 S.2.1 dL_isStep_319 (lv_at hl 0 rfl) ?_
    refine lv_iload S.1 S.2.1 dL_isStep_321 (lv_at hl 5 rfl) ?_
    refine nx_nVi (qW Z z X13 o13 n13 Y13 P) ([]) (ws' := qW Z z X13 o13 n13 Y13 P ++ qW Z y M13 a13 b13 B13 Q) (rest := [.int v13]) S w X9 hl.1 (h2v13) (by simp only [List.nil_append, List.append_nil, List.append_assoc]) adr_q (by simp only [List.nil_append, List.append_nil, List.append_assoc]) gL_isStep_X7_setOrder rfl hdV_X7_setOrder ⟨(Nat.le_of_ble_eq_true rfl), (Nat.le_of_ble_eq_true rfl)⟩ (q0 := 0) rfl rfl rfl rfl (Nat.le_of_ble_eq_true rfl) ⟨(by show _ ≤ 6; omega), (by show _ ≤ 36; omega)⟩ dL_isStep_323 (fun H locs w => ?_)
    refine lv_icmp_ne (tgt := 333) S.1 S.2.1 dL_isStep_326 (by decide) (fun h9 => absurd rfl h9) (fun _ => ?_)
    refine lv_iconst (v := nI 1) S.1 S.2.1 dL_isStep_329 (ofInt_nI 1) ?_
    refine lv_goto (tgt := 334) S.1 S.2.1 dL_isStep_330 (by decide) ?_
    exact nr_iret S w hr hlocks (nI_bool (by decide)) (X13, o13, n13, Y13, P, M13, a13, b13, B13, Q) ⟨hL13, ht13⟩ rfl rfl (by omega) (by omega) dL_isStep_334
set_option maxRecDepth 100000 in
set_option maxHeartbeats 4000000 in
theorem k_L_isStep_237 (l : Launch) (hst : l.stackTraces = false) (D : va_G) (Z : Nat → ClassId) (z y : Nat → Nat → Nat) (X : ST) (o n : Nat) (Y : Nat → ST) (P : PG) (M : ST) (a b : Nat) (B : Nat → ST) (Q : PG) (x : Int32) (hL : LPq X o n M a b) (hT : X.2.1 4 + 20 ≤ 100000) {p : Program} {e : Env} {s : State} {m : MethodId} {args : Array Value} {below : List Frame} {meth : Method} {c : Code} {A : Nat → Prop} (S : CallFix p m c cL_isStep 10 s args wsL_isStep RL) (hr : meth.sig.returnType = (some .boolean)) (hlocks : meth.locks = false) (X9 : XT A s s.heap) (yv : Int32) (ua ub ch : Nat) (hua : ua < 6) (hub : ub < 8) (hch : ch < 4) : ∀ (H : Heap) (locs : List Loc) (ls : Array Slot) (hl : lv_has ls 10 [(0, .ref (z 0 0)), (1, .ref (y 0 0)), (2, .int x), (3, .int yv), (4, vI ua), (5, vI ub), (6, vI ch)]) (w : Wd D Z A s (qW Z z X o n Y P ++ qW Z y M a b B Q) H locs), W p l e (rmX 8 166 6 36) s m args below meth c H locs (0) (0) (Qr (β := ZB) below D Z A args s (fun u => zbL (X.2.1 4) u) (nI 1) (fun u => zbW Z z y u) 6 36) (F0 m 237 ls []) := by
  intro H locs ls hl w
  have hX := hL.1
  obtain ⟨b0, b1, b2, b3, b4, b5⟩ := hX.2.1
  have hp1 := hX.1.2.2.1
  have hp8 := hX.1.2.2.2.1
  refine lv_aload_n S.1 S.2.1 dL_isStep_237 rfl (lv_at hl 0 rfl) ?_
  refine lv_iload S.1 S.2.1 dL_isStep_238 (lv_at hl 4 rfl) ?_
  refine lv_iconst (v := nI 1) S.1 S.2.1 dL_isStep_240 (ofInt_nI 1) ?_
  refine lv_iload_n S.1 S.2.1 dL_isStep_241 rfl (lv_at hl 3 rfl) ?_
  refine lv_bipush (v := nI 6) S.1 S.2.1 dL_isStep_242 (by decide +kernel) ?_
  refine lv_ishr S.1 S.2.1 dL_isStep_244 ?_
  refine lv_iconst (v := nI 5) S.1 S.2.1 dL_isStep_245 (ofInt_nI 5) ?_
  obtain ⟨u14, hu14, eu14⟩ : ∃ k9, k9 < 5 ∧ upN (yv >>> (nI 6 &&& 31)) 5 = k9 := ⟨_, upN_lt (by omega), rfl⟩
  refine nv_pSi (rest := [vI 1, vI ua, .ref (z 0 0)]) S w hl.1 (c_L_up l D Z (yv >>> (nI 6 &&& 31)) 5 (by omega) (by omega)) gL_isStep_L_up rfl hdS_L_up ⟨(Nat.le_of_ble_eq_true rfl), (Nat.le_of_ble_eq_true rfl)⟩ rfl rfl (Nat.le_of_ble_eq_true rfl) ⟨(by show _ ≤ 6; omega), (by show _ ≤ 36; omega)⟩ dL_isStep_246 (fun H locs w => ?_)
  refine W.eq (g2 := F0 m 249 ls [vI u14, vI 1, vI ua, .ref (z 0 0)]) (by rw [eu14]) ?_
  refine nv_iadd S dL_isStep_249 ?_
  obtain ⟨v15, X15, o15, n15, Y15, M15, a15, b15, B15, hL15, ht15, h1v15, h2v15⟩ := pq_setRows l hst D Z z y Y P B Q hL (u := ua) (e := 1 + u14) (by omega) (by omega) (by omega)
  refine nx_nVi ([]) (qW Z y M a b B Q) (ws' := qW Z z X15 o15 n15 Y15 P ++ qW Z y M a b B Q) (rest := []) S w X9 hl.1 (h1v15) (by simp only [List.nil_append, List.append_nil, List.append_assoc]) adr_q (by simp only [List.nil_append, List.append_nil, List.append_assoc]) gL_isStep_X7_setRows rfl hdV_X7_setRows ⟨(Nat.le_of_ble_eq_true rfl), (Nat.le_of_ble_eq_true rfl)⟩ (q0 := 0) rfl rfl rfl rfl (Nat.le_of_ble_eq_true rfl) ⟨(by show _ ≤ 6; omega), (by show _ ≤ 36; omega)⟩ dL_isStep_250 (fun H locs w => ?_)
  refine lv_aload_n S.1 S.2.1 dL_isStep_253 rfl (lv_at hl 1 rfl) ?_
  refine lv_iload S.1 S.2.1 dL_isStep_254 (lv_at hl 4 rfl) ?_
  refine lv_iconst (v := nI 1) S.1 S.2.1 dL_isStep_256 (ofInt_nI 1) ?_
  refine lv_iload_n S.1 S.2.1 dL_isStep_257 rfl (lv_at hl 3 rfl) ?_
  refine lv_bipush (v := nI 6) S.1 S.2.1 dL_isStep_258 (by decide +kernel) ?_
  refine lv_ishr S.1 S.2.1 dL_isStep_260 ?_
  refine lv_iconst (v := nI 5) S.1 S.2.1 dL_isStep_261 (ofInt_nI 5) ?_
  refine nv_pSi (rest := [vI 1, vI ua, .ref (y 0 0), .int v15]) S w hl.1 (c_L_up l D Z (yv >>> (nI 6 &&& 31)) 5 (by omega) (by omega)) gL_isStep_L_up rfl hdS_L_up ⟨(Nat.le_of_ble_eq_true rfl), (Nat.le_of_ble_eq_true rfl)⟩ rfl rfl (Nat.le_of_ble_eq_true rfl) ⟨(by show _ ≤ 6; omega), (by show _ ≤ 36; omega)⟩ dL_isStep_262 (fun H locs w => ?_)
  refine W.eq (g2 := F0 m 265 ls [vI u14, vI 1, vI ua, .ref (y 0 0), .int v15]) (by rw [eu14]) ?_
  refine nv_iadd S dL_isStep_265 ?_
  refine nx_nVi (qW Z z X15 o15 n15 Y15 P) ([]) (ws' := qW Z z X15 o15 n15 Y15 P ++ qW Z y M15 a15 b15 B15 Q) (rest := [.int v15]) S w X9 hl.1 (h2v15) (by simp only [List.nil_append, List.append_nil, List.append_assoc]) adr_q (by simp only [List.nil_append, List.append_nil, List.append_assoc]) gL_isStep_X7_setRows rfl hdV_X7_setRows ⟨(Nat.le_of_ble_eq_true rfl), (Nat.le_of_ble_eq_true rfl)⟩ (q0 := 0) rfl rfl rfl rfl (Nat.le_of_ble_eq_true rfl) ⟨(by show _ ≤ 6; omega), (by show _ ≤ 36; omega)⟩ dL_isStep_266 (fun H locs w => ?_)
  refine lv_icmp_ne (tgt := 276) S.1 S.2.1 dL_isStep_269 (by decide) (fun h9 => absurd rfl h9) (fun _ => ?_)
  refine lv_iconst (v := nI 1) S.1 S.2.1 dL_isStep_272 (ofInt_nI 1) ?_
  refine lv_goto (tgt := 277) S.1 S.2.1 dL_isStep_273 (by decide) ?_
  exact nr_iret S w hr hlocks (nI_bool (by decide)) (X15, o15, n15, Y15, P, M15, a15, b15, B15, Q) ⟨hL15, ht15⟩ rfl rfl (by omega) (by omega) dL_isStep_277
set_option maxRecDepth 100000 in
set_option maxHeartbeats 4000000 in
theorem k_L_isStep_163 (l : Launch) (hst : l.stackTraces = false) (D : va_G) (Z : Nat → ClassId) (z y : Nat → Nat → Nat) (X : ST) (o n : Nat) (Y : Nat → ST) (P : PG) (M : ST) (a b : Nat) (B : Nat → ST) (Q : PG) (x : Int32) (hL : LPq X o n M a b) (hT : X.2.1 4 + 20 ≤ 100000) {p : Program} {e : Env} {s : State} {m : MethodId} {args : Array Value} {below : List Frame} {meth : Method} {c : Code} {A : Nat → Prop} (S : CallFix p m c cL_isStep 10 s args wsL_isStep RL) (hr : meth.sig.returnType = (some .boolean)) (hlocks : meth.locks = false) (X9 : XT A s s.heap) (yv : Int32) (ua ub ch : Nat) (hua : ua < 6) (hub : ub < 8) (hch : ch < 4) : ∀ (H : Heap) (locs : List Loc) (ls : Array Slot) (hl : lv_has ls 10 [(0, .ref (z 0 0)), (1, .ref (y 0 0)), (2, .int x), (3, .int yv), (4, vI ua), (5, vI ub), (6, vI ch)]) (w : Wd D Z A s (qW Z z X o n Y P ++ qW Z y M a b B Q) H locs), W p l e (rmX 8 166 6 36) s m args below meth c H locs (0) (0) (Qr (β := ZB) below D Z A args s (fun u => zbL (X.2.1 4) u) (nI 1) (fun u => zbW Z z y u) 6 36) (F0 m 163 ls []) := by
  intro H locs ls hl w
  have hX := hL.1
  obtain ⟨b0, b1, b2, b3, b4, b5⟩ := hX.2.1
  have hp1 := hX.1.2.2.1
  have hp8 := hX.1.2.2.2.1
  refine lv_iload_n S.1 S.2.1 dL_isStep_163 rfl (lv_at hl 3 rfl) ?_
  refine lv_bipush (v := nI 8) S.1 S.2.1 dL_isStep_164 (by decide +kernel) ?_
  refine lv_ishr S.1 S.2.1 dL_isStep_166 ?_
  refine lv_iload S.1 S.2.1 dL_isStep_167 (lv_at hl 6 rfl) ?_
  refine nv_if_ne S (by omega) (tgt := 177) dL_isStep_169 (by decide) (fun h_5 => ?_) (fun h_5 => ?_)
  · skip
    refine lv_bipush (v := nI 7) S.1 S.2.1 dL_isStep_177 (by decide +kernel) ?_
    obtain ⟨u16, hu16, eu16⟩ : ∃ k9, k9 < 7 ∧ upN (yv >>> (nI 8 &&& 31)) 7 = k9 := ⟨_, upN_lt (by omega), rfl⟩
    refine nv_pSi (rest := []) S w hl.1 (c_L_up l D Z (yv >>> (nI 8 &&& 31)) 7 (by omega) (by omega)) gL_isStep_L_up rfl hdS_L_up ⟨(Nat.le_of_ble_eq_true rfl), (Nat.le_of_ble_eq_true rfl)⟩ rfl rfl (Nat.le_of_ble_eq_true rfl) ⟨(by show _ ≤ 6; omega), (by show _ ≤ 36; omega)⟩ dL_isStep_179 (fun H locs w => ?_)
    refine W.eq (g2 := F0 m 182 ls [vI u16]) (by rw [eu16]) ?_
    refine lv_istore (lv' := [(7, vI u16), (0, .ref (z 0 0)), (1, .ref (y 0 0)), (2, .int x), (3, .int yv), (4, vI ua), (5, vI ub), (6, vI ch)]) S.1 S.2.1 dL_isStep_182 hl (by decide) rfl (fun ls hl => ?_)
    refine lv_aload_n S.1 S.2.1 dL_isStep_184 rfl (lv_at hl 1 rfl) ?_
    refine lv_iload S.1 S.2.1 dL_isStep_185 (lv_at hl 5 rfl) ?_
    refine lv_iload S.1 S.2.1 dL_isStep_187 (lv_at hl 6 rfl) ?_
    refine lv_iload S.1 S.2.1 dL_isStep_189 (lv_at hl 7 rfl) ?_
    refine lv_iload S.1 S.2.1 dL_isStep_191 (lv_at hl 0 rfl) ?_
    refine lv_iload_n S.1 S.2.1 dL_isStep_193 rfl (lv_at hl 4 rfl) ?_
    refine lv_bipush (v := nI 11) S.1 S.2.1 dL_isStep_194 (by decide +kernel) ?_
    refine lv_ishr S.1 S.2.1 dL_isStep_196 ?_
    refine lv_bipush (v := nI 10) S.1 S.2.1 dL_isStep_197 (by decide +kernel) ?_
    obtain ⟨u17, hu17, eu17⟩ : ∃ k9, k9 < 10 ∧ upN (yv >>> (nI 11 &&& 31)) 10 = k9 := ⟨_, upN_lt (by omega), rfl⟩
    refine nv_pSi (rest := [vI u16, vI ch, vI ub, vI ua, .ref (z 0 0)]) S w hl.1 (c_L_up l D Z (yv >>> (nI 11 &&& 31)) 10 (by omega) (by omega)) gL_isStep_L_up rfl hdS_L_up ⟨(Nat.le_of_ble_eq_true rfl), (Nat.le_of_ble_eq_true rfl)⟩ rfl rfl (Nat.le_of_ble_eq_true rfl) ⟨(by show _ ≤ 6; omega), (by show _ ≤ 36; omega)⟩ dL_isStep_199 (fun H locs w => ?_)
    refine W.eq (g2 := F0 m 202 ls [vI u17, vI u16, vI ch, vI ub, vI ua, .ref (z 0 0)]) (by rw [eu17]) ?_
    obtain ⟨v18, X18, o18, n18, Y18, M18, a18, b18, B18, hL18, ht18, h1v18, h2v18⟩ := pq_setEffect l hst D Z z y Y P B Q hL (u := ua) (v := ub) (c := ch) (e := u16) (f := u17) (by omega) (by omega) (by omega) (by omega) (by omega) (fun h9 => by omega)
    refine nx_nVi ([]) (qW Z y M a b B Q) (ws' := qW Z z X18 o18 n18 Y18 P ++ qW Z y M a b B Q) (rest := []) S w X9 hl.1 (h1v18) (by simp only [List.nil_append, List.append_nil, List.append_assoc]) adr_q (by simp only [List.nil_append, List.append_nil, List.append_assoc]) gL_isStep_X7_setEffect rfl hdV_X7_setEffect ⟨(Nat.le_of_ble_eq_true rfl), (Nat.le_of_ble_eq_true rfl)⟩ (q0 := 0) rfl rfl rfl rfl (Nat.le_of_ble_eq_true rfl) ⟨(by show _ ≤ 6; omega), (by show _ ≤ 36; omega)⟩ dL_isStep_202 (fun H locs w => ?_)
    refine lv_aload_n S.1 S.2.1 dL_isStep_205 rfl (lv_at hl 2 rfl) ?_
    refine lv_iload S.1 S.2.1 dL_isStep_206 (lv_at hl 5 rfl) ?_
    refine lv_iload S.1 S.2.1 dL_isStep_208 (lv_at hl 6 rfl) ?_
    refine lv_iconst (v := nI 3) S.1 S.2.1 dL_isStep_210 (ofInt_nI 3) ?_
    refine lv_iload S.1 S.2.1 dL_isStep_211 (lv_at hl 7 rfl) ?_
    refine nv_isub S (by omega) dL_isStep_213 ?_
    refine lv_iload S.1 S.2.1 dL_isStep_214 (lv_at hl 0 rfl) ?_
    refine lv_iload_n S.1 S.2.1 dL_isStep_216 rfl (lv_at hl 4 rfl) ?_
    refine lv_bipush (v := nI 11) S.1 S.2.1 dL_isStep_217 (by decide +kernel) ?_
    refine lv_ishr S.1 S.2.1 dL_isStep_219 ?_
    refine lv_bipush (v := nI 10) S.1 S.2.1 dL_isStep_220 (by decide +kernel) ?_
    refine nv_pSi (rest := [vI u16, vI (3 - ch), vI ub, vI ua, .ref (y 0 0), .int v18]) S w hl.1 (c_L_up l D Z (yv >>> (nI 11 &&& 31)) 10 (by omega) (by omega)) gL_isStep_L_up rfl hdS_L_up ⟨(Nat.le_of_ble_eq_true rfl), (Nat.le_of_ble_eq_true rfl)⟩ rfl rfl (Nat.le_of_ble_eq_true rfl) ⟨(by show _ ≤ 6; omega), (by show _ ≤ 36; omega)⟩ dL_isStep_222 (fun H locs w => ?_)
    refine W.eq (g2 := F0 m 225 ls [vI u17, vI u16, vI (3 - ch), vI ub, vI ua, .ref (y 0 0), .int v18]) (by rw [eu17]) ?_
    refine nx_nVi (qW Z z X18 o18 n18 Y18 P) ([]) (ws' := qW Z z X18 o18 n18 Y18 P ++ qW Z y M18 a18 b18 B18 Q) (rest := [.int v18]) S w X9 hl.1 (h2v18) (by simp only [List.nil_append, List.append_nil, List.append_assoc]) adr_q (by simp only [List.nil_append, List.append_nil, List.append_assoc]) gL_isStep_X7_setEffect rfl hdV_X7_setEffect ⟨(Nat.le_of_ble_eq_true rfl), (Nat.le_of_ble_eq_true rfl)⟩ (q0 := 0) rfl rfl rfl rfl (Nat.le_of_ble_eq_true rfl) ⟨(by show _ ≤ 6; omega), (by show _ ≤ 36; omega)⟩ dL_isStep_225 (fun H locs w => ?_)
    refine lv_icmp_ne (tgt := 235) S.1 S.2.1 dL_isStep_228 (by decide) (fun h9 => absurd rfl h9) (fun _ => ?_)
    refine lv_iconst (v := nI 1) S.1 S.2.1 dL_isStep_231 (ofInt_nI 1) ?_
    refine lv_goto (tgt := 236) S.1 S.2.1 dL_isStep_232 (by decide) ?_
    exact nr_iret S w hr hlocks (nI_bool (by decide)) (X18, o18, n18, Y18, P, M18, a18, b18, B18, Q) ⟨hL18, ht18⟩ rfl rfl (by omega) (by omega) dL_isStep_236
  · skip
    refine lv_bipush (v := nI 8) S.1 S.2.1 dL_isStep_172 (by decide +kernel) ?_
    refine lv_goto (tgt := 179) S.1 S.2.1 dL_isStep_174 (by decide) ?_
    obtain ⟨u19, hu19, eu19⟩ : ∃ k9, k9 < 8 ∧ upN (yv >>> (nI 8 &&& 31)) 8 = k9 := ⟨_, upN_lt (by omega), rfl⟩
    refine nv_pSi (rest := []) S w hl.1 (c_L_up l D Z (yv >>> (nI 8 &&& 31)) 8 (by omega) (by omega)) gL_isStep_L_up rfl hdS_L_up ⟨(Nat.le_of_ble_eq_true rfl), (Nat.le_of_ble_eq_true rfl)⟩ rfl rfl (Nat.le_of_ble_eq_true rfl) ⟨(by show _ ≤ 6; omega), (by show _ ≤ 36; omega)⟩ dL_isStep_179 (fun H locs w => ?_)
    refine W.eq (g2 := F0 m 182 ls [vI u19]) (by rw [eu19]) ?_
    refine lv_istore (lv' := [(7, vI u19), (0, .ref (z 0 0)), (1, .ref (y 0 0)), (2, .int x), (3, .int yv), (4, vI ua), (5, vI ub), (6, vI ch)]) S.1 S.2.1 dL_isStep_182 hl (by decide) rfl (fun ls hl => ?_)
    refine lv_aload_n S.1 S.2.1 dL_isStep_184 rfl (lv_at hl 1 rfl) ?_
    refine lv_iload S.1 S.2.1 dL_isStep_185 (lv_at hl 5 rfl) ?_
    refine lv_iload S.1 S.2.1 dL_isStep_187 (lv_at hl 6 rfl) ?_
    refine lv_iload S.1 S.2.1 dL_isStep_189 (lv_at hl 7 rfl) ?_
    refine lv_iload S.1 S.2.1 dL_isStep_191 (lv_at hl 0 rfl) ?_
    refine lv_iload_n S.1 S.2.1 dL_isStep_193 rfl (lv_at hl 4 rfl) ?_
    refine lv_bipush (v := nI 11) S.1 S.2.1 dL_isStep_194 (by decide +kernel) ?_
    refine lv_ishr S.1 S.2.1 dL_isStep_196 ?_
    refine lv_bipush (v := nI 10) S.1 S.2.1 dL_isStep_197 (by decide +kernel) ?_
    obtain ⟨u20, hu20, eu20⟩ : ∃ k9, k9 < 10 ∧ upN (yv >>> (nI 11 &&& 31)) 10 = k9 := ⟨_, upN_lt (by omega), rfl⟩
    refine nv_pSi (rest := [vI u19, vI ch, vI ub, vI ua, .ref (z 0 0)]) S w hl.1 (c_L_up l D Z (yv >>> (nI 11 &&& 31)) 10 (by omega) (by omega)) gL_isStep_L_up rfl hdS_L_up ⟨(Nat.le_of_ble_eq_true rfl), (Nat.le_of_ble_eq_true rfl)⟩ rfl rfl (Nat.le_of_ble_eq_true rfl) ⟨(by show _ ≤ 6; omega), (by show _ ≤ 36; omega)⟩ dL_isStep_199 (fun H locs w => ?_)
    refine W.eq (g2 := F0 m 202 ls [vI u20, vI u19, vI ch, vI ub, vI ua, .ref (z 0 0)]) (by rw [eu20]) ?_
    obtain ⟨v21, X21, o21, n21, Y21, M21, a21, b21, B21, hL21, ht21, h1v21, h2v21⟩ := pq_setEffect l hst D Z z y Y P B Q hL (u := ua) (v := ub) (c := ch) (e := u19) (f := u20) (by omega) (by omega) (by omega) (by omega) (by omega) (fun h9 => by omega)
    refine nx_nVi ([]) (qW Z y M a b B Q) (ws' := qW Z z X21 o21 n21 Y21 P ++ qW Z y M a b B Q) (rest := []) S w X9 hl.1 (h1v21) (by simp only [List.nil_append, List.append_nil, List.append_assoc]) adr_q (by simp only [List.nil_append, List.append_nil, List.append_assoc]) gL_isStep_X7_setEffect rfl hdV_X7_setEffect ⟨(Nat.le_of_ble_eq_true rfl), (Nat.le_of_ble_eq_true rfl)⟩ (q0 := 0) rfl rfl rfl rfl (Nat.le_of_ble_eq_true rfl) ⟨(by show _ ≤ 6; omega), (by show _ ≤ 36; omega)⟩ dL_isStep_202 (fun H locs w => ?_)
    refine lv_aload_n S.1 S.2.1 dL_isStep_205 rfl (lv_at hl 2 rfl) ?_
    refine lv_iload S.1 S.2.1 dL_isStep_206 (lv_at hl 5 rfl) ?_
    refine lv_iload S.1 S.2.1 dL_isStep_208 (lv_at hl 6 rfl) ?_
    refine lv_iconst (v := nI 3) S.1 S.2.1 dL_isStep_210 (ofInt_nI 3) ?_
    refine lv_iload S.1 S.2.1 dL_isStep_211 (lv_at hl 7 rfl) ?_
    refine nv_isub S (by omega) dL_isStep_213 ?_
    refine lv_iload S.1 S.2.1 dL_isStep_214 (lv_at hl 0 rfl) ?_
    refine lv_iload_n S.1 S.2.1 dL_isStep_216 rfl (lv_at hl 4 rfl) ?_
    refine lv_bipush (v := nI 11) S.1 S.2.1 dL_isStep_217 (by decide +kernel) ?_
    refine lv_ishr S.1 S.2.1 dL_isStep_219 ?_
    refine lv_bipush (v := nI 10) S.1 S.2.1 dL_isStep_220 (by decide +kernel) ?_
    refine nv_pSi (rest := [vI u19, vI (3 - ch), vI ub, vI ua, .ref (y 0 0), .int v21]) S w hl.1 (c_L_up l D Z (yv >>> (nI 11 &&& 31)) 10 (by omega) (by omega)) gL_isStep_L_up rfl hdS_L_up ⟨(Nat.le_of_ble_eq_true rfl), (Nat.le_of_ble_eq_true rfl)⟩ rfl rfl (Nat.le_of_ble_eq_true rfl) ⟨(by show _ ≤ 6; omega), (by show _ ≤ 36; omega)⟩ dL_isStep_222 (fun H locs w => ?_)
    refine W.eq (g2 := F0 m 225 ls [vI u20, vI u19, vI (3 - ch), vI ub, vI ua, .ref (y 0 0), .int v21]) (by rw [eu20]) ?_
    refine nx_nVi (qW Z z X21 o21 n21 Y21 P) ([]) (ws' := qW Z z X21 o21 n21 Y21 P ++ qW Z y M21 a21 b21 B21 Q) (rest := [.int v21]) S w X9 hl.1 (h2v21) (by simp only [List.nil_append, List.append_nil, List.append_assoc]) adr_q (by simp only [List.nil_append, List.append_nil, List.append_assoc]) gL_isStep_X7_setEffect rfl hdV_X7_setEffect ⟨(Nat.le_of_ble_eq_true rfl), (Nat.le_of_ble_eq_true rfl)⟩ (q0 := 0) rfl rfl rfl rfl (Nat.le_of_ble_eq_true rfl) ⟨(by show _ ≤ 6; omega), (by show _ ≤ 36; omega)⟩ dL_isStep_225 (fun H locs w => ?_)
    refine lv_icmp_ne (tgt := 235) S.1 S.2.1 dL_isStep_228 (by decide) (fun h9 => absurd rfl h9) (fun _ => ?_)
    refine lv_iconst (v := nI 1) S.1 S.2.1 dL_isStep_231 (ofInt_nI 1) ?_
    refine lv_goto (tgt := 236) S.1 S.2.1 dL_isStep_232 (by decide) ?_
    exact nr_iret S w hr hlocks (nI_bool (by decide)) (X21, o21, n21, Y21, P, M21, a21, b21, B21, Q) ⟨hL21, ht21⟩ rfl rfl (by omega) (by omega) dL_isStep_236
set_option maxRecDepth 100000 in
set_option maxHeartbeats 4000000 in
theorem k_L_isStep_96 (l : Launch) (hst : l.stackTraces = false) (D : va_G) (Z : Nat → ClassId) (z y : Nat → Nat → Nat) (X : ST) (o n : Nat) (Y : Nat → ST) (P : PG) (M : ST) (a b : Nat) (B : Nat → ST) (Q : PG) (x : Int32) (hL : LPq X o n M a b) (hT : X.2.1 4 + 20 ≤ 100000) {p : Program} {e : Env} {s : State} {m : MethodId} {args : Array Value} {below : List Frame} {meth : Method} {c : Code} {A : Nat → Prop} (S : CallFix p m c cL_isStep 10 s args wsL_isStep RL) (hr : meth.sig.returnType = (some .boolean)) (hlocks : meth.locks = false) (X9 : XT A s s.heap) (yv : Int32) (ua ub ch : Nat) (hua : ua < 6) (hub : ub < 8) (hch : ch < 4) : ∀ (H : Heap) (locs : List Loc) (ls : Array Slot) (hl : lv_has ls 10 [(0, .ref (z 0 0)), (1, .ref (y 0 0)), (2, .int x), (3, .int yv), (4, vI ua), (5, vI ub), (6, vI ch)]) (w : Wd D Z A s (qW Z z X o n Y P ++ qW Z y M a b B Q) H locs), W p l e (rmX 8 166 6 36) s m args below meth c H locs (0) (0) (Qr (β := ZB) below D Z A args s (fun u => zbL (X.2.1 4) u) (nI 1) (fun u => zbW Z z y u) 6 36) (F0 m 96 ls []) := by
  intro H locs ls hl w
  have hX := hL.1
  obtain ⟨b0, b1, b2, b3, b4, b5⟩ := hX.2.1
  have hp1 := hX.1.2.2.1
  have hp8 := hX.1.2.2.2.1
  refine lv_aload_n S.1 S.2.1 dL_isStep_96 rfl (lv_at hl 0 rfl) ?_
  refine lv_iload S.1 S.2.1 dL_isStep_97 (lv_at hl 4 rfl) ?_
  refine lv_iload S.1 S.2.1 dL_isStep_99 (lv_at hl 5 rfl) ?_
  refine lv_iload S.1 S.2.1 dL_isStep_101 (lv_at hl 6 rfl) ?_
  refine lv_iload_n S.1 S.2.1 dL_isStep_103 rfl (lv_at hl 3 rfl) ?_
  refine lv_bipush (v := nI 8) S.1 S.2.1 dL_isStep_104 (by decide +kernel) ?_
  refine lv_ishr S.1 S.2.1 dL_isStep_106 ?_
  refine lv_bipush (v := nI 62) S.1 S.2.1 dL_isStep_107 (by decide +kernel) ?_
  obtain ⟨u22, hu22, eu22⟩ : ∃ k9, k9 < 62 ∧ upN (yv >>> (nI 8 &&& 31)) 62 = k9 := ⟨_, upN_lt (by omega), rfl⟩
  refine nv_pSi (rest := [vI ch, vI ub, vI ua, .ref (z 0 0)]) S w hl.1 (c_L_up l D Z (yv >>> (nI 8 &&& 31)) 62 (by omega) (by omega)) gL_isStep_L_up rfl hdS_L_up ⟨(Nat.le_of_ble_eq_true rfl), (Nat.le_of_ble_eq_true rfl)⟩ rfl rfl (Nat.le_of_ble_eq_true rfl) ⟨(by show _ ≤ 6; omega), (by show _ ≤ 36; omega)⟩ dL_isStep_109 (fun H locs w => ?_)
  refine W.eq (g2 := F0 m 112 ls [vI u22, vI ch, vI ub, vI ua, .ref (z 0 0)]) (by rw [eu22]) ?_
  refine lv_iload_n S.1 S.2.1 dL_isStep_112 rfl (lv_at hl 3 rfl) ?_
  refine lv_bipush (v := nI 14) S.1 S.2.1 dL_isStep_113 (by decide +kernel) ?_
  refine lv_ishr S.1 S.2.1 dL_isStep_115 ?_
  refine lv_bipush (v := nI 16) S.1 S.2.1 dL_isStep_116 (by decide +kernel) ?_
  obtain ⟨u23, hu23, eu23⟩ : ∃ k9, k9 < 16 ∧ upN (yv >>> (nI 14 &&& 31)) 16 = k9 := ⟨_, upN_lt (by omega), rfl⟩
  refine nv_pSi (rest := [vI u22, vI ch, vI ub, vI ua, .ref (z 0 0)]) S w hl.1 (c_L_up l D Z (yv >>> (nI 14 &&& 31)) 16 (by omega) (by omega)) gL_isStep_L_up rfl hdS_L_up ⟨(Nat.le_of_ble_eq_true rfl), (Nat.le_of_ble_eq_true rfl)⟩ rfl rfl (Nat.le_of_ble_eq_true rfl) ⟨(by show _ ≤ 6; omega), (by show _ ≤ 36; omega)⟩ dL_isStep_118 (fun H locs w => ?_)
  refine W.eq (g2 := F0 m 121 ls [vI u23, vI u22, vI ch, vI ub, vI ua, .ref (z 0 0)]) (by rw [eu23]) ?_
  obtain ⟨v24, X24, o24, n24, Y24, M24, a24, b24, B24, hL24, ht24, h1v24, h2v24⟩ := pq_setNote l hst D Z z y Y P B Q hL (u := ua) (v := ub) (c := ch) (e := u22) (f := u23) (by omega) (by omega) (by omega) (by omega) (by omega)
  refine nx_nVi ([]) (qW Z y M a b B Q) (ws' := qW Z z X24 o24 n24 Y24 P ++ qW Z y M a b B Q) (rest := []) S w X9 hl.1 (h1v24) (by simp only [List.nil_append, List.append_nil, List.append_assoc]) adr_q (by simp only [List.nil_append, List.append_nil, List.append_assoc]) gL_isStep_X7_setNote rfl hdV_X7_setNote ⟨(Nat.le_of_ble_eq_true rfl), (Nat.le_of_ble_eq_true rfl)⟩ (q0 := 0) rfl rfl rfl rfl (Nat.le_of_ble_eq_true rfl) ⟨(by show _ ≤ 6; omega), (by show _ ≤ 36; omega)⟩ dL_isStep_121 (fun H locs w => ?_)
  refine lv_aload_n S.1 S.2.1 dL_isStep_124 rfl (lv_at hl 1 rfl) ?_
  refine lv_iload S.1 S.2.1 dL_isStep_125 (lv_at hl 4 rfl) ?_
  refine lv_iload S.1 S.2.1 dL_isStep_127 (lv_at hl 5 rfl) ?_
  refine lv_iconst (v := nI 3) S.1 S.2.1 dL_isStep_129 (ofInt_nI 3) ?_
  refine lv_iload S.1 S.2.1 dL_isStep_130 (lv_at hl 6 rfl) ?_
  refine nv_isub S (by omega) dL_isStep_132 ?_
  refine lv_iload_n S.1 S.2.1 dL_isStep_133 rfl (lv_at hl 3 rfl) ?_
  refine lv_bipush (v := nI 8) S.1 S.2.1 dL_isStep_134 (by decide +kernel) ?_
  refine lv_ishr S.1 S.2.1 dL_isStep_136 ?_
  refine lv_bipush (v := nI 62) S.1 S.2.1 dL_isStep_137 (by decide +kernel) ?_
  refine nv_pSi (rest := [vI (3 - ch), vI ub, vI ua, .ref (y 0 0), .int v24]) S w hl.1 (c_L_up l D Z (yv >>> (nI 8 &&& 31)) 62 (by omega) (by omega)) gL_isStep_L_up rfl hdS_L_up ⟨(Nat.le_of_ble_eq_true rfl), (Nat.le_of_ble_eq_true rfl)⟩ rfl rfl (Nat.le_of_ble_eq_true rfl) ⟨(by show _ ≤ 6; omega), (by show _ ≤ 36; omega)⟩ dL_isStep_139 (fun H locs w => ?_)
  refine W.eq (g2 := F0 m 142 ls [vI u22, vI (3 - ch), vI ub, vI ua, .ref (y 0 0), .int v24]) (by rw [eu22]) ?_
  refine lv_iload_n S.1 S.2.1 dL_isStep_142 rfl (lv_at hl 3 rfl) ?_
  refine lv_bipush (v := nI 14) S.1 S.2.1 dL_isStep_143 (by decide +kernel) ?_
  refine lv_ishr S.1 S.2.1 dL_isStep_145 ?_
  refine lv_bipush (v := nI 16) S.1 S.2.1 dL_isStep_146 (by decide +kernel) ?_
  refine nv_pSi (rest := [vI u22, vI (3 - ch), vI ub, vI ua, .ref (y 0 0), .int v24]) S w hl.1 (c_L_up l D Z (yv >>> (nI 14 &&& 31)) 16 (by omega) (by omega)) gL_isStep_L_up rfl hdS_L_up ⟨(Nat.le_of_ble_eq_true rfl), (Nat.le_of_ble_eq_true rfl)⟩ rfl rfl (Nat.le_of_ble_eq_true rfl) ⟨(by show _ ≤ 6; omega), (by show _ ≤ 36; omega)⟩ dL_isStep_148 (fun H locs w => ?_)
  refine W.eq (g2 := F0 m 151 ls [vI u23, vI u22, vI (3 - ch), vI ub, vI ua, .ref (y 0 0), .int v24]) (by rw [eu23]) ?_
  refine nx_nVi (qW Z z X24 o24 n24 Y24 P) ([]) (ws' := qW Z z X24 o24 n24 Y24 P ++ qW Z y M24 a24 b24 B24 Q) (rest := [.int v24]) S w X9 hl.1 (h2v24) (by simp only [List.nil_append, List.append_nil, List.append_assoc]) adr_q (by simp only [List.nil_append, List.append_nil, List.append_assoc]) gL_isStep_X7_setNote rfl hdV_X7_setNote ⟨(Nat.le_of_ble_eq_true rfl), (Nat.le_of_ble_eq_true rfl)⟩ (q0 := 0) rfl rfl rfl rfl (Nat.le_of_ble_eq_true rfl) ⟨(by show _ ≤ 6; omega), (by show _ ≤ 36; omega)⟩ dL_isStep_151 (fun H locs w => ?_)
  refine lv_icmp_ne (tgt := 161) S.1 S.2.1 dL_isStep_154 (by decide) (fun h9 => absurd rfl h9) (fun _ => ?_)
  refine lv_iconst (v := nI 1) S.1 S.2.1 dL_isStep_157 (ofInt_nI 1) ?_
  refine lv_goto (tgt := 162) S.1 S.2.1 dL_isStep_158 (by decide) ?_
  exact nr_iret S w hr hlocks (nI_bool (by decide)) (X24, o24, n24, Y24, P, M24, a24, b24, B24, Q) ⟨hL24, ht24⟩ rfl rfl (by omega) (by omega) dL_isStep_162
set_option maxRecDepth 100000 in
set_option maxHeartbeats 4000000 in
theorem c_L_isStep (l : Launch) (hst : l.stackTraces = false) (D : va_G) (Z : Nat → ClassId) (z y : Nat → Nat → Nat) (X : ST) (o n : Nat) (Y : Nat → ST) (P : PG) (M : ST) (a b : Nat) (B : Nat → ST) (Q : PG) (x : Int32) (hL : LPq X o n M a b) (hT : X.2.1 4 + 20 ≤ 100000) : Cr (β := ZB) l yL_isStep wsL_isStep 8 166 6 36 D Z [.ref (z 0 0), .ref (y 0 0), .int x] (qW Z z X o n Y P ++ qW Z y M a b B Q) (fun u => zbL (X.2.1 4) u) (nI 1) (fun u => zbW Z z y u) := by
  refine ne_r (cc := cL_isStep) (maxL := 10) (by decide +kernel) rfl (Nat.le_of_ble_eq_true rfl) (fun p e s m args below meth c A ls (S : CallFix p m c cL_isStep 10 s args wsL_isStep RL) hr hlocks X9 hl w => ?_)
  have hl : lv_has ls 10 [(0, .ref (z 0 0)), (1, .ref (y 0 0)), (2, .int x)] := hl
  refine lv_iload_n S.1 S.2.1 dL_isStep_0 rfl (lv_at hl 2 rfl) ?_
  refine lv_iconst (v := nI 4) S.1 S.2.1 dL_isStep_1 (ofInt_nI 4) ?_
  refine lv_ishr S.1 S.2.1 dL_isStep_2 ?_
  refine lv_istore_n (lv' := [(3, .int (x >>> (nI 4 &&& 31))), (0, .ref (z 0 0)), (1, .ref (y 0 0)), (2, .int x)]) S.1 S.2.1 dL_isStep_3 rfl hl (by decide) rfl (fun ls hl => ?_)
  refine lv_iload_n S.1 S.2.1 dL_isStep_4 rfl (lv_at hl 0 rfl) ?_
  refine lv_bipush (v := nI 6) S.1 S.2.1 dL_isStep_5 (by decide +kernel) ?_
  obtain ⟨u25, hu25, eu25⟩ : ∃ k9, k9 < 6 ∧ upN (x >>> (nI 4 &&& 31)) 6 = k9 := ⟨_, upN_lt (by omega), rfl⟩
  refine nv_pSi (rest := []) S w hl.1 (c_L_up l D Z (x >>> (nI 4 &&& 31)) 6 (by omega) (by omega)) gL_isStep_L_up rfl hdS_L_up ⟨(Nat.le_of_ble_eq_true rfl), (Nat.le_of_ble_eq_true rfl)⟩ rfl rfl (Nat.le_of_ble_eq_true rfl) ⟨(by show _ ≤ 6; omega), (by show _ ≤ 36; omega)⟩ dL_isStep_7 (fun H locs w => ?_)
  refine W.eq (g2 := F0 m 10 ls [vI u25]) (by rw [eu25]) ?_
  refine lv_istore (lv' := [(4, vI u25), (3, .int (x >>> (nI 4 &&& 31))), (0, .ref (z 0 0)), (1, .ref (y 0 0)), (2, .int x)]) S.1 S.2.1 dL_isStep_10 hl (by decide) rfl (fun ls hl => ?_)
  refine lv_iload_n S.1 S.2.1 dL_isStep_12 rfl (lv_at hl 1 rfl) ?_
  refine lv_iconst (v := nI 3) S.1 S.2.1 dL_isStep_13 (ofInt_nI 3) ?_
  refine lv_ishr S.1 S.2.1 dL_isStep_14 ?_
  refine lv_bipush (v := nI 8) S.1 S.2.1 dL_isStep_15 (by decide +kernel) ?_
  obtain ⟨u26, hu26, eu26⟩ : ∃ k9, k9 < 8 ∧ upN ((x >>> (nI 4 &&& 31)) >>> (nI 3 &&& 31)) 8 = k9 := ⟨_, upN_lt (by omega), rfl⟩
  refine nv_pSi (rest := []) S w hl.1 (c_L_up l D Z ((x >>> (nI 4 &&& 31)) >>> (nI 3 &&& 31)) 8 (by omega) (by omega)) gL_isStep_L_up rfl hdS_L_up ⟨(Nat.le_of_ble_eq_true rfl), (Nat.le_of_ble_eq_true rfl)⟩ rfl rfl (Nat.le_of_ble_eq_true rfl) ⟨(by show _ ≤ 6; omega), (by show _ ≤ 36; omega)⟩ dL_isStep_17 (fun H locs w => ?_)
  refine W.eq (g2 := F0 m 20 ls [vI u26]) (by rw [eu26]) ?_
  refine lv_istore (lv' := [(5, vI u26), (4, vI u25), (3, .int (x >>> (nI 4 &&& 31))), (0, .ref (z 0 0)), (1, .ref (y 0 0)), (2, .int x)]) S.1 S.2.1 dL_isStep_20 hl (by decide) rfl (fun ls hl => ?_)
  refine lv_iload_n S.1 S.2.1 dL_isStep_22 rfl (lv_at hl 2 rfl) ?_
  refine lv_bipush (v := nI 6) S.1 S.2.1 dL_isStep_23 (by decide +kernel) ?_
  refine lv_ishr S.1 S.2.1 dL_isStep_25 ?_
  refine lv_iconst (v := nI 3) S.1 S.2.1 dL_isStep_26 (ofInt_nI 3) ?_
  refine lv_iand S.1 S.2.1 dL_isStep_27 ?_
  obtain ⟨ch, hch, ech⟩ := and3 ((x >>> (nI 4 &&& 31)) >>> (nI 6 &&& 31))
  refine W.eq (g2 := F0 m 28 ls [vI ch]) (by rw [ech]) ?_
  refine lv_istore (lv' := [(6, vI ch), (5, vI u26), (4, vI u25), (3, .int (x >>> (nI 4 &&& 31))), (0, .ref (z 0 0)), (1, .ref (y 0 0)), (2, .int x)]) S.1 S.2.1 dL_isStep_28 hl (by decide) rfl (fun ls hl => ?_)
  refine lv_iload_n S.1 S.2.1 dL_isStep_30 rfl (lv_at hl 6 rfl) ?_
  refine lv_bipush (v := nI 12) S.1 S.2.1 dL_isStep_31 (by decide +kernel) ?_
  obtain ⟨u27, hu27, eu27⟩ : ∃ k9, k9 < 12 ∧ upN x 12 = k9 := ⟨_, upN_lt (by omega), rfl⟩
  refine nv_pSi (rest := []) S w hl.1 (c_L_up l D Z x 12 (by omega) (by omega)) gL_isStep_L_up rfl hdS_L_up ⟨(Nat.le_of_ble_eq_true rfl), (Nat.le_of_ble_eq_true rfl)⟩ rfl rfl (Nat.le_of_ble_eq_true rfl) ⟨(by show _ ≤ 6; omega), (by show _ ≤ 36; omega)⟩ dL_isStep_33 (fun H locs w => ?_)
  refine W.eq (g2 := F0 m 36 ls [vI u27]) (by rw [eu27]) ?_
  by_cases h_6 : u27 = 0
  · skip
    refine nv_tableIn S (by omega) dL_isStep_36 (by rw [h_6]; decide) (by rw [h_6]; decide) (off := 60) (by rw [h_6]; rfl) (tgt := 96) (by decide) ?_
    exact k_L_isStep_96 l hst D Z z y X o n Y P M a b B Q x hL hT S hr hlocks X9 (x >>> (nI 4 &&& 31)) u25 u26 ch (by omega) (by omega) (by omega) _ _ _ (lv_sub hl [4, 5, 6, 3, 2, 1, 0] rfl) w
  · skip
    by_cases h_7 : u27 = 1
    · skip
      refine nv_tableIn S (by omega) dL_isStep_36 (by rw [h_7]; decide) (by rw [h_7]; decide) (off := 60) (by rw [h_7]; rfl) (tgt := 96) (by decide) ?_
      exact k_L_isStep_96 l hst D Z z y X o n Y P M a b B Q x hL hT S hr hlocks X9 (x >>> (nI 4 &&& 31)) u25 u26 ch (by omega) (by omega) (by omega) _ _ _ (lv_sub hl [4, 5, 6, 3, 2, 1, 0] rfl) w
    · skip
      by_cases h_8 : u27 = 2
      · skip
        refine nv_tableIn S (by omega) dL_isStep_36 (by rw [h_8]; decide) (by rw [h_8]; decide) (off := 60) (by rw [h_8]; rfl) (tgt := 96) (by decide) ?_
        exact k_L_isStep_96 l hst D Z z y X o n Y P M a b B Q x hL hT S hr hlocks X9 (x >>> (nI 4 &&& 31)) u25 u26 ch (by omega) (by omega) (by omega) _ _ _ (lv_sub hl [4, 5, 6, 3, 2, 1, 0] rfl) w
      · skip
        by_cases h_9 : u27 = 3
        · skip
          refine nv_tableIn S (by omega) dL_isStep_36 (by rw [h_9]; decide) (by rw [h_9]; decide) (off := 127) (by rw [h_9]; rfl) (tgt := 163) (by decide) ?_
          exact k_L_isStep_163 l hst D Z z y X o n Y P M a b B Q x hL hT S hr hlocks X9 (x >>> (nI 4 &&& 31)) u25 u26 ch (by omega) (by omega) (by omega) _ _ _ (lv_sub hl [4, 5, 6, 3, 2, 1, 0] rfl) w
        · skip
          by_cases h_10 : u27 = 4
          · skip
            refine nv_tableIn S (by omega) dL_isStep_36 (by rw [h_10]; decide) (by rw [h_10]; decide) (off := 127) (by rw [h_10]; rfl) (tgt := 163) (by decide) ?_
            exact k_L_isStep_163 l hst D Z z y X o n Y P M a b B Q x hL hT S hr hlocks X9 (x >>> (nI 4 &&& 31)) u25 u26 ch (by omega) (by omega) (by omega) _ _ _ (lv_sub hl [4, 5, 6, 3, 2, 1, 0] rfl) w
          · skip
            by_cases h_11 : u27 = 5
            · skip
              refine nv_tableIn S (by omega) dL_isStep_36 (by rw [h_11]; decide) (by rw [h_11]; decide) (off := 127) (by rw [h_11]; rfl) (tgt := 163) (by decide) ?_
              exact k_L_isStep_163 l hst D Z z y X o n Y P M a b B Q x hL hT S hr hlocks X9 (x >>> (nI 4 &&& 31)) u25 u26 ch (by omega) (by omega) (by omega) _ _ _ (lv_sub hl [4, 5, 6, 3, 2, 1, 0] rfl) w
            · skip
              by_cases h_12 : u27 = 6
              · skip
                refine nv_tableIn S (by omega) dL_isStep_36 (by rw [h_12]; decide) (by rw [h_12]; decide) (off := 201) (by rw [h_12]; rfl) (tgt := 237) (by decide) ?_
                exact k_L_isStep_237 l hst D Z z y X o n Y P M a b B Q x hL hT S hr hlocks X9 (x >>> (nI 4 &&& 31)) u25 u26 ch (by omega) (by omega) (by omega) _ _ _ (lv_sub hl [4, 5, 6, 3, 2, 1, 0] rfl) w
              · skip
                by_cases h_13 : u27 = 7
                · skip
                  refine nv_tableIn S (by omega) dL_isStep_36 (by rw [h_13]; decide) (by rw [h_13]; decide) (off := 242) (by rw [h_13]; rfl) (tgt := 278) (by decide) ?_
                  exact k_L_isStep_278 l hst D Z z y X o n Y P M a b B Q x hL hT S hr hlocks X9 (x >>> (nI 4 &&& 31)) u25 u26 ch (by omega) (by omega) (by omega) _ _ _ (lv_sub hl [4, 5, 6, 3, 2, 1, 0] rfl) w
                · skip
                  by_cases h_14 : u27 = 8
                  · skip
                    refine nv_tableIn S (by omega) dL_isStep_36 (by rw [h_14]; decide) (by rw [h_14]; decide) (off := 299) (by rw [h_14]; rfl) (tgt := 335) (by decide) ?_
                    exact k_L_isStep_335 l hst D Z z y X o n Y P M a b B Q x hL hT S hr hlocks X9 (x >>> (nI 4 &&& 31)) u25 u26 ch (by omega) (by omega) (by omega) _ _ _ (lv_sub hl [4, 5, 6, 3, 2, 1, 0] rfl) w
                  · skip
                    by_cases h_15 : u27 = 9
                    · skip
                      refine nv_tableIn S (by omega) dL_isStep_36 (by rw [h_15]; decide) (by rw [h_15]; decide) (off := 366) (by rw [h_15]; rfl) (tgt := 402) (by decide) ?_
                      exact k_L_isStep_402 l hst D Z z y X o n Y P M a b B Q x hL hT S hr hlocks X9 (x >>> (nI 4 &&& 31)) u25 u26 ch (by omega) (by omega) (by omega) _ _ _ (lv_sub hl [4, 5, 6, 3, 2, 1, 0] rfl) w
                    · skip
                      by_cases h_16 : u27 = 10
                      · skip
                        refine nv_tableIn S (by omega) dL_isStep_36 (by rw [h_16]; decide) (by rw [h_16]; decide) (off := 397) (by rw [h_16]; rfl) (tgt := 433) (by decide) ?_
                        exact k_L_isStep_433 l hst D Z z y X o n Y P M a b B Q x hL hT S hr hlocks X9 (x >>> (nI 4 &&& 31)) u25 u26 ch (by omega) (by omega) (by omega) _ _ _ (lv_sub hl [4, 5, 6, 3, 2, 1, 0] rfl) w
                      · skip
                        refine nv_tableOut S (by omega) dL_isStep_36 (by omega) (tgt := 476) (by decide) ?_
                        exact k_L_isStep_476 l hst D Z z y X o n Y P M a b B Q x hL hT S hr hlocks X9 (x >>> (nI 4 &&& 31)) u25 u26 ch (by omega) (by omega) (by omega) _ _ _ (lv_sub hl [4, 5, 6, 3, 2, 1, 0] rfl) w
