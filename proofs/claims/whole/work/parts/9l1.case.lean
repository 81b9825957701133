theorem hdS_L_shorten : yL_shorten.cls ≠ "java/lang/invoke/MethodHandle" ∧ yL_shorten.cls ≠ "java/lang/invoke/VarHandle" ∧ (parseMethodDescriptor yL_shorten.desc).map (fun d => d.parameters.length) = some 2 := by decide +kernel
theorem hdV_X8_shorten : yX8_shorten.cls = RX8 ∧ yX8_shorten.cls ≠ "java/lang/invoke/MethodHandle" ∧ yX8_shorten.cls ≠ "java/lang/invoke/VarHandle" ∧ (parseMethodDescriptor yX8_shorten.desc).map (fun d => d.parameters.length) = some 0 := by decide +kernel
set_option maxRecDepth 100000 in
set_option maxHeartbeats 4000000 in
theorem cs_4 (l : Launch) (hst : l.stackTraces = false) (D : va_G) (Z : Nat → ClassId) (z : Nat → Nat → Nat) (b : Nat → Nat) (qo bs L : Nat) (xs : Nat → Int32) {p : Program} {e : Env} {s : State} {m : MethodId} {args : Array Value} {below : List Frame} {meth : Method} {c : Code} {A : Nat → Prop} {Q : State → Prop} (S : CallFix p m c cL_law 9 s args wsL_law RL) (X9 : XT A s s.heap) (hnc : NC s) (hscr : Scr bs L xs A s) (i : Nat) (hi : i + 6 ≤ L) (T : LawS) (hI : LI T) (H : Heap) (locs : List Loc) (ls : Array Slot) (cells slots : Nat) (hcl : cells + 3 ≤ 601024) (hsl : slots + 18 ≤ 7293034) (hl : lv_has ls 9 [(0, .ref bs), (1, .ref (z 0 0)), (2, .ref (b 0)), (3, .ref qo), (4, vI i)]) (w : Wd D Z A s (czW Z z T ++ joW Z qo T.fo ++ mdW Z b T) H locs) (kk : ∀ (T2 : LawS) (H2 : Heap) (locs2 : List Loc) (ls2 : Array Slot), LI T2 → lv_has ls2 9 [(0, .ref bs), (1, .ref (z 0 0)), (2, .ref (b 0)), (3, .ref qo), (4, vI i)] → Wd D Z A s (czW Z z T2 ++ joW Z qo T2.fo ++ mdW Z b T2) H2 locs2 → W p l e room_1 s m args below meth c H2 locs2 (cells + 3) (slots + 18) Q (F0 m 1543 ls2 [])) : W p l e room_1 s m args below meth c H locs cells slots Q (F0 m 500 ls []) := by
  refine lv_aload_n S.1 S.2.1 dL_law_500 rfl (lv_at hl 1 rfl) ?_
  refine lv_aload_n S.1 S.2.1 dL_law_501 rfl (lv_at hl 3 rfl) ?_
  obtain ⟨K, N, T2, hI2, hth, hK2, hfo, hc, hm⟩ := pr_shorten l hst D Z z b qo T hI 
  refine nl_h (rest := []) S w X9 hnc hl.1 hc adr_jo gL_law_L_shorten rfl hdS_L_shorten ⟨(Nat.le_of_ble_eq_true rfl), (Nat.le_of_ble_eq_true rfl)⟩ rfl rfl (Nat.le_of_ble_eq_true rfl) ⟨Nat.le_trans (show cells + 1 ≤ cells + 3 by omega) hcl, Nat.le_trans (show slots + 6 ≤ slots + 18 by omega) hsl⟩ dL_law_502 (fun H locs w => ?_)
  refine lv_istore (lv' := [(5, vI K), (0, .ref bs), (1, .ref (z 0 0)), (2, .ref (b 0)), (3, .ref qo), (4, vI i)]) S.1 S.2.1 dL_law_505 hl (by decide) rfl (fun ls hl => ?_)
  refine lv_aload_n S.1 S.2.1 dL_law_507 rfl (lv_at hl 3 rfl) ?_
  refine nv_fVi (czW Z z T2 ++ joW Z qo T2.fo) [] (ws' := czW Z z T2 ++ joW Z qo T2.fo ++ mdW Z b T2) (rest := []) S w hl.1 hm (by simp only [List.append_nil]) adr_md (by simp only [List.append_nil]) gL_law_X8_shorten rfl hdV_X8_shorten ⟨(Nat.le_of_ble_eq_true rfl), (Nat.le_of_ble_eq_true rfl)⟩ (q0 := 0) rfl rfl rfl rfl (Nat.le_of_ble_eq_true rfl) ⟨Nat.le_trans (show cells + 1 ≤ cells + 3 by omega) hcl, Nat.le_trans (show slots + 6 ≤ slots + 18 by omega) hsl⟩ dL_law_508 (fun H locs w => ?_)
  refine lv_istore (lv' := [(6, .int N), (5, vI K), (0, .ref bs), (1, .ref (z 0 0)), (2, .ref (b 0)), (3, .ref qo), (4, vI i)]) S.1 S.2.1 dL_law_511 hl (by decide) rfl (fun ls hl => ?_)
  refine lv_aload_n S.1 S.2.1 dL_law_513 rfl (lv_at hl 4 rfl) ?_
  refine nv_gVi (wc := mdW Z b T2) (czW Z z T2 ++ joW Z qo T2.fo) [] (rest := []) S w hl.1 (c_X8_thrown l D Z b T2.M T2.sv T2.sd T2.n T2.th T2.tl T2.pl T2.ro T2.nu T2.t T2.r) (by simp only [List.append_nil]) gL_law_X8_thrown rfl hdV_X8_thrown ⟨(Nat.le_of_ble_eq_true rfl), (Nat.le_of_ble_eq_true rfl)⟩ (q0 := 0) rfl rfl rfl rfl (Nat.le_of_ble_eq_true rfl) ⟨Nat.le_trans (show cells + 1 ≤ cells + 3 by omega) hcl, Nat.le_trans (show slots + 6 ≤ slots + 18 by omega) hsl⟩ dL_law_514 (fun H locs w => ?_)
  refine W.eq (g2 := F0 m 517 ls [vI K]) (by rw [hth]) ?_
  refine lv_iload S.1 S.2.1 dL_law_517 (lv_at hl 1 rfl) ?_
  refine lv_icmp_eq (tgt := 524) S.1 S.2.1 dL_law_519 (by decide) (fun _ => ?_) (fun h9 => absurd rfl h9)
  refine lv_iload S.1 S.2.1 dL_law_524 (lv_at hl 1 rfl) ?_
  refine nv_if_ne S (by omega) (tgt := 541) dL_law_526 (by decide) (fun h_1 => ?_) (fun h_1 => ?_)
  · skip
    refine lv_goto (tgt := 1543) S.1 S.2.1 dL_law_541 (by decide) ?_
    refine W.widen (k := cells + 3) (n := slots + 18) (by omega) (by omega) ?_
    exact kk T2 _ _ _ hI2 (lv_sub hl [2, 3, 4, 5, 6] rfl) w
  · skip
    refine lv_aload_n S.1 S.2.1 dL_law_529 rfl (lv_at hl 5 rfl) ?_
    refine lv_iconst (v := nI 0) S.1 S.2.1 dL_law_530 (ofInt_nI 0) ?_
    refine nl_lald (czW Z z T2) (mdW Z b T2) S w dL_law_531 ?_
    refine W.eq (g2 := F0 m 532 ls [.long (N.toInt64)]) (by rw [hfo h_1]) ?_
    refine lv_iload S.1 S.2.1 dL_law_532 (lv_at hl 0 rfl) ?_
    refine lv_i2l (v := N.toInt64) S.1 S.2.1 dL_law_534 rfl ?_
    refine W.lcmp S.1 S.2.1 dL_law_535 ?_
    refine W.eq (g2 := F0 m 536 ls [.int 0]) (by rw [lg_cmp_self]) ?_
    refine lv_if_eq (tgt := 541) S.1 S.2.1 dL_law_536 (by decide) (fun _ => ?_) (fun h9 => absurd rfl h9)
    refine lv_goto (tgt := 1543) S.1 S.2.1 dL_law_541 (by decide) ?_
    refine W.widen (k := cells + 3) (n := slots + 18) (by omega) (by omega) ?_
    exact kk T2 _ _ _ hI2 (lv_sub hl [2, 3, 4, 5, 6] rfl) w

theorem hdS_L_cell : yL_cell.cls ≠ "java/lang/invoke/MethodHandle" ∧ yL_cell.cls ≠ "java/lang/invoke/VarHandle" ∧ (parseMethodDescriptor yL_cell.desc).map (fun d => d.parameters.length) = some 6 := by decide +kernel
theorem hdV_X8_cell : yX8_cell.cls = RX8 ∧ yX8_cell.cls ≠ "java/lang/invoke/MethodHandle" ∧ yX8_cell.cls ≠ "java/lang/invoke/VarHandle" ∧ (parseMethodDescriptor yX8_cell.desc).map (fun d => d.parameters.length) = some 4 := by decide +kernel
set_option maxRecDepth 100000 in
set_option maxHeartbeats 4000000 in
theorem cs_5 (l : Launch) (hst : l.stackTraces = false) (D : va_G) (Z : Nat → ClassId) (z : Nat → Nat → Nat) (b : Nat → Nat) (qo bs L : Nat) (xs : Nat → Int32) {p : Program} {e : Env} {s : State} {m : MethodId} {args : Array Value} {below : List Frame} {meth : Method} {c : Code} {A : Nat → Prop} {Q : State → Prop} (S : CallFix p m c cL_law 9 s args wsL_law RL) (X9 : XT A s s.heap) (hnc : NC s) (hscr : Scr bs L xs A s) (i : Nat) (hi : i + 6 ≤ L) (T : LawS) (hI : LI T) (H : Heap) (locs : List Loc) (ls : Array Slot) (cells slots : Nat) (hcl : cells + 3 ≤ 601024) (hsl : slots + 18 ≤ 7293034) (hl : lv_has ls 9 [(0, .ref bs), (1, .ref (z 0 0)), (2, .ref (b 0)), (3, .ref qo), (4, vI i)]) (w : Wd D Z A s (czW Z z T ++ joW Z qo T.fo ++ mdW Z b T) H locs) (kk : ∀ (T2 : LawS) (H2 : Heap) (locs2 : List Loc) (ls2 : Array Slot), LI T2 → lv_has ls2 9 [(0, .ref bs), (1, .ref (z 0 0)), (2, .ref (b 0)), (3, .ref qo), (4, vI i)] → Wd D Z A s (czW Z z T2 ++ joW Z qo T2.fo ++ mdW Z b T2) H2 locs2 → W p l e room_1 s m args below meth c H2 locs2 (cells + 3) (slots + 18) Q (F0 m 1543 ls2 [])) : W p l e room_1 s m args below meth c H locs cells slots Q (F0 m 544 ls []) := by
  refine lv_aload_n S.1 S.2.1 dL_law_544 rfl (lv_at hl 1 rfl) ?_
  refine lv_aload_n S.1 S.2.1 dL_law_545 rfl (lv_at hl 0 rfl) ?_
  refine lv_iload S.1 S.2.1 dL_law_546 (lv_at hl 4 rfl) ?_
  refine lv_iconst (v := nI 1) S.1 S.2.1 dL_law_548 (ofInt_nI 1) ?_
  refine nv_iadd S dL_law_549 ?_
  refine nl_sld S w hscr (i := (i + 1)) (by omega) dL_law_550 ?_
  refine lv_aload_n S.1 S.2.1 dL_law_551 rfl (lv_at hl 0 rfl) ?_
  refine lv_iload S.1 S.2.1 dL_law_552 (lv_at hl 4 rfl) ?_
  refine lv_iconst (v := nI 2) S.1 S.2.1 dL_law_554 (ofInt_nI 2) ?_
  refine nv_iadd S dL_law_555 ?_
  refine nl_sld S w hscr (i := (i + 2)) (by omega) dL_law_556 ?_
  refine lv_aload_n S.1 S.2.1 dL_law_557 rfl (lv_at hl 0 rfl) ?_
  refine lv_iload S.1 S.2.1 dL_law_558 (lv_at hl 4 rfl) ?_
  refine lv_iconst (v := nI 3) S.1 S.2.1 dL_law_560 (ofInt_nI 3) ?_
  refine nv_iadd S dL_law_561 ?_
  refine nl_sld S w hscr (i := (i + 3)) (by omega) dL_law_562 ?_
  refine lv_aload_n S.1 S.2.1 dL_law_563 rfl (lv_at hl 0 rfl) ?_
  refine lv_iload S.1 S.2.1 dL_law_564 (lv_at hl 4 rfl) ?_
  refine lv_iconst (v := nI 4) S.1 S.2.1 dL_law_566 (ofInt_nI 4) ?_
  refine nv_iadd S dL_law_567 ?_
  refine nl_sld S w hscr (i := (i + 4)) (by omega) dL_law_568 ?_
  refine lv_aload_n S.1 S.2.1 dL_law_569 rfl (lv_at hl 3 rfl) ?_
  obtain ⟨K, N, T2, hI2, hth, hK2, hfo, hc, hm⟩ := pr_cell l hst D Z z b qo T hI (xs (i + 1)) (xs (i + 2)) (xs (i + 3)) (xs (i + 4))
  refine nl_h (rest := []) S w X9 hnc hl.1 hc adr_jo gL_law_L_cell rfl hdS_L_cell ⟨(Nat.le_of_ble_eq_true rfl), (Nat.le_of_ble_eq_true rfl)⟩ rfl rfl (Nat.le_of_ble_eq_true rfl) ⟨Nat.le_trans (show cells + 2 ≤ cells + 3 by omega) hcl, Nat.le_trans (show slots + 12 ≤ slots + 18 by omega) hsl⟩ dL_law_570 (fun H locs w => ?_)
  refine lv_istore (lv' := [(5, vI K), (0, .ref bs), (1, .ref (z 0 0)), (2, .ref (b 0)), (3, .ref qo), (4, vI i)]) S.1 S.2.1 dL_law_573 hl (by decide) rfl (fun ls hl => ?_)
  refine lv_aload_n S.1 S.2.1 dL_law_575 rfl (lv_at hl 3 rfl) ?_
  refine lv_aload_n S.1 S.2.1 dL_law_576 rfl (lv_at hl 1 rfl) ?_
  refine lv_iload S.1 S.2.1 dL_law_577 (lv_at hl 5 rfl) ?_
  refine lv_iconst (v := nI 1) S.1 S.2.1 dL_law_579 (ofInt_nI 1) ?_
  refine nv_iadd S dL_law_580 ?_
  refine nl_sld S w hscr (i := (i + 1)) (by omega) dL_law_581 ?_
  refine lv_aload_n S.1 S.2.1 dL_law_582 rfl (lv_at hl 1 rfl) ?_
  refine lv_iload S.1 S.2.1 dL_law_583 (lv_at hl 5 rfl) ?_
  refine lv_iconst (v := nI 2) S.1 S.2.1 dL_law_585 (ofInt_nI 2) ?_
  refine nv_iadd S dL_law_586 ?_
  refine nl_sld S w hscr (i := (i + 2)) (by omega) dL_law_587 ?_
  refine lv_aload_n S.1 S.2.1 dL_law_588 rfl (lv_at hl 1 rfl) ?_
  refine lv_iload S.1 S.2.1 dL_law_589 (lv_at hl 5 rfl) ?_
  refine lv_iconst (v := nI 3) S.1 S.2.1 dL_law_591 (ofInt_nI 3) ?_
  refine nv_iadd S dL_law_592 ?_
  refine nl_sld S w hscr (i := (i + 3)) (by omega) dL_law_593 ?_
  refine lv_aload_n S.1 S.2.1 dL_law_594 rfl (lv_at hl 1 rfl) ?_
  refine lv_iload S.1 S.2.1 dL_law_595 (lv_at hl 5 rfl) ?_
  refine lv_iconst (v := nI 4) S.1 S.2.1 dL_law_597 (ofInt_nI 4) ?_
  refine nv_iadd S dL_law_598 ?_
  refine nl_sld S w hscr (i := (i + 4)) (by omega) dL_law_599 ?_
  refine nv_fVi (czW Z z T2 ++ joW Z qo T2.fo) [] (ws' := czW Z z T2 ++ joW Z qo T2.fo ++ mdW Z b T2) (rest := []) S w hl.1 hm (by simp only [List.append_nil]) adr_md (by simp only [List.append_nil]) gL_law_X8_cell rfl hdV_X8_cell ⟨(Nat.le_of_ble_eq_true rfl), (Nat.le_of_ble_eq_true rfl)⟩ (q0 := 0) rfl rfl rfl rfl (Nat.le_of_ble_eq_true rfl) ⟨Nat.le_trans (show cells + 2 ≤ cells + 3 by omega) hcl, Nat.le_trans (show slots + 12 ≤ slots + 18 by omega) hsl⟩ dL_law_600 (fun H locs w => ?_)
  refine lv_istore (lv' := [(6, .int N), (5, vI K), (0, .ref bs), (1, .ref (z 0 0)), (2, .ref (b 0)), (3, .ref qo), (4, vI i)]) S.1 S.2.1 dL_law_603 hl (by decide) rfl (fun ls hl => ?_)
  refine lv_aload_n S.1 S.2.1 dL_law_605 rfl (lv_at hl 4 rfl) ?_
  refine nv_gVi (wc := mdW Z b T2) (czW Z z T2 ++ joW Z qo T2.fo) [] (rest := []) S w hl.1 (c_X8_thrown l D Z b T2.M T2.sv T2.sd T2.n T2.th T2.tl T2.pl T2.ro T2.nu T2.t T2.r) (by simp only [List.append_nil]) gL_law_X8_thrown rfl hdV_X8_thrown ⟨(Nat.le_of_ble_eq_true rfl), (Nat.le_of_ble_eq_true rfl)⟩ (q0 := 0) rfl rfl rfl rfl (Nat.le_of_ble_eq_true rfl) ⟨Nat.le_trans (show cells + 2 ≤ cells + 3 by omega) hcl, Nat.le_trans (show slots + 12 ≤ slots + 18 by omega) hsl⟩ dL_law_606 (fun H locs w => ?_)
  refine W.eq (g2 := F0 m 609 ls [vI K]) (by rw [hth]) ?_
  refine lv_iload S.1 S.2.1 dL_law_609 (lv_at hl 1 rfl) ?_
  refine lv_icmp_eq (tgt := 616) S.1 S.2.1 dL_law_611 (by decide) (fun _ => ?_) (fun h9 => absurd rfl h9)
  refine lv_iload S.1 S.2.1 dL_law_616 (lv_at hl 1 rfl) ?_
  refine nv_if_ne S (by omega) (tgt := 633) dL_law_618 (by decide) (fun h_1 => ?_) (fun h_1 => ?_)
  · skip
    refine lv_goto (tgt := 1543) S.1 S.2.1 dL_law_633 (by decide) ?_
    refine W.widen (k := cells + 3) (n := slots + 18) (by omega) (by omega) ?_
    exact kk T2 _ _ _ hI2 (lv_sub hl [2, 3, 4, 5, 6] rfl) w
  · skip
    refine lv_aload_n S.1 S.2.1 dL_law_621 rfl (lv_at hl 5 rfl) ?_
    refine lv_iconst (v := nI 0) S.1 S.2.1 dL_law_622 (ofInt_nI 0) ?_
    refine nl_lald (czW Z z T2) (mdW Z b T2) S w dL_law_623 ?_
    refine W.eq (g2 := F0 m 624 ls [.long (N.toInt64)]) (by rw [hfo h_1]) ?_
    refine lv_iload S.1 S.2.1 dL_law_624 (lv_at hl 0 rfl) ?_
    refine lv_i2l (v := N.toInt64) S.1 S.2.1 dL_law_626 rfl ?_
    refine W.lcmp S.1 S.2.1 dL_law_627 ?_
    refine W.eq (g2 := F0 m 628 ls [.int 0]) (by rw [lg_cmp_self]) ?_
    refine lv_if_eq (tgt := 633) S.1 S.2.1 dL_law_628 (by decide) (fun _ => ?_) (fun h9 => absurd rfl h9)
    refine lv_goto (tgt := 1543) S.1 S.2.1 dL_law_633 (by decide) ?_
    refine W.widen (k := cells + 3) (n := slots + 18) (by omega) (by omega) ?_
    exact kk T2 _ _ _ hI2 (lv_sub hl [2, 3, 4, 5, 6] rfl) w

theorem hdS_L_pattern : yL_pattern.cls ≠ "java/lang/invoke/MethodHandle" ∧ yL_pattern.cls ≠ "java/lang/invoke/VarHandle" ∧ (parseMethodDescriptor yL_pattern.desc).map (fun d => d.parameters.length) = some 4 := by decide +kernel
theorem hdV_X8_pattern : yX8_pattern.cls = RX8 ∧ yX8_pattern.cls ≠ "java/lang/invoke/MethodHandle" ∧ yX8_pattern.cls ≠ "java/lang/invoke/VarHandle" ∧ (parseMethodDescriptor yX8_pattern.desc).map (fun d => d.parameters.length) = some 2 := by decide +kernel
set_option maxRecDepth 100000 in
set_option maxHeartbeats 4000000 in
theorem cs_6 (l : Launch) (hst : l.stackTraces = false) (D : va_G) (Z : Nat → ClassId) (z : Nat → Nat → Nat) (b : Nat → Nat) (qo bs L : Nat) (xs : Nat → Int32) {p : Program} {e : Env} {s : State} {m : MethodId} {args : Array Value} {below : List Frame} {meth : Method} {c : Code} {A : Nat → Prop} {Q : State → Prop} (S : CallFix p m c cL_law 9 s args wsL_law RL) (X9 : XT A s s.heap) (hnc : NC s) (hscr : Scr bs L xs A s) (i : Nat) (hi : i + 6 ≤ L) (T : LawS) (hI : LI T) (H : Heap) (locs : List Loc) (ls : Array Slot) (cells slots : Nat) (hcl : cells + 3 ≤ 601024) (hsl : slots + 18 ≤ 7293034) (hl : lv_has ls 9 [(0, .ref bs), (1, .ref (z 0 0)), (2, .ref (b 0)), (3, .ref qo), (4, vI i)]) (w : Wd D Z A s (czW Z z T ++ joW Z qo T.fo ++ mdW Z b T) H locs) (kk : ∀ (T2 : LawS) (H2 : Heap) (locs2 : List Loc) (ls2 : Array Slot), LI T2 → lv_has ls2 9 [(0, .ref bs), (1, .ref (z 0 0)), (2, .ref (b 0)), (3, .ref qo), (4, vI i)] → Wd D Z A s (czW Z z T2 ++ joW Z qo T2.fo ++ mdW Z b T2) H2 locs2 → W p l e room_1 s m args below meth c H2 locs2 (cells + 3) (slots + 18) Q (F0 m 1543 ls2 [])) : W p l e room_1 s m args below meth c H locs cells slots Q (F0 m 636 ls []) := by
  refine lv_aload_n S.1 S.2.1 dL_law_636 rfl (lv_at hl 1 rfl) ?_
  refine lv_aload_n S.1 S.2.1 dL_law_637 rfl (lv_at hl 0 rfl) ?_
  refine lv_iload S.1 S.2.1 dL_law_638 (lv_at hl 4 rfl) ?_
  refine lv_iconst (v := nI 1) S.1 S.2.1 dL_law_640 (ofInt_nI 1) ?_
  refine nv_iadd S dL_law_641 ?_
  refine nl_sld S w hscr (i := (i + 1)) (by omega) dL_law_642 ?_
  refine lv_aload_n S.1 S.2.1 dL_law_643 rfl (lv_at hl 0 rfl) ?_
  refine lv_iload S.1 S.2.1 dL_law_644 (lv_at hl 4 rfl) ?_
  refine lv_iconst (v := nI 2) S.1 S.2.1 dL_law_646 (ofInt_nI 2) ?_
  refine nv_iadd S dL_law_647 ?_
  refine nl_sld S w hscr (i := (i + 2)) (by omega) dL_law_648 ?_
  refine lv_aload_n S.1 S.2.1 dL_law_649 rfl (lv_at hl 3 rfl) ?_
  obtain ⟨K, N, T2, hI2, hth, hK2, hfo, hc, hm⟩ := pr_pattern l hst D Z z b qo T hI (xs (i + 1)) (xs (i + 2))
  refine nl_h (rest := []) S w X9 hnc hl.1 hc adr_jo gL_law_L_pattern rfl hdS_L_pattern ⟨(Nat.le_of_ble_eq_true rfl), (Nat.le_of_ble_eq_true rfl)⟩ rfl rfl (Nat.le_of_ble_eq_true rfl) ⟨Nat.le_trans (show cells + 2 ≤ cells + 3 by omega) hcl, Nat.le_trans (show slots + 12 ≤ slots + 18 by omega) hsl⟩ dL_law_650 (fun H locs w => ?_)
  refine lv_istore (lv' := [(5, vI K), (0, .ref bs), (1, .ref (z 0 0)), (2, .ref (b 0)), (3, .ref qo), (4, vI i)]) S.1 S.2.1 dL_law_653 hl (by decide) rfl (fun ls hl => ?_)
  refine lv_aload_n S.1 S.2.1 dL_law_655 rfl (lv_at hl 3 rfl) ?_
  refine lv_aload_n S.1 S.2.1 dL_law_656 rfl (lv_at hl 1 rfl) ?_
  refine lv_iload S.1 S.2.1 dL_law_657 (lv_at hl 5 rfl) ?_
  refine lv_iconst (v := nI 1) S.1 S.2.1 dL_law_659 (ofInt_nI 1) ?_
  refine nv_iadd S dL_law_660 ?_
  refine nl_sld S w hscr (i := (i + 1)) (by omega) dL_law_661 ?_
  refine lv_aload_n S.1 S.2.1 dL_law_662 rfl (lv_at hl 1 rfl) ?_
  refine lv_iload S.1 S.2.1 dL_law_663 (lv_at hl 5 rfl) ?_
  refine lv_iconst (v := nI 2) S.1 S.2.1 dL_law_665 (ofInt_nI 2) ?_
  refine nv_iadd S dL_law_666 ?_
  refine nl_sld S w hscr (i := (i + 2)) (by omega) dL_law_667 ?_
  refine nv_fVi (czW Z z T2 ++ joW Z qo T2.fo) [] (ws' := czW Z z T2 ++ joW Z qo T2.fo ++ mdW Z b T2) (rest := []) S w hl.1 hm (by simp only [List.append_nil]) adr_md (by simp only [List.append_nil]) gL_law_X8_pattern rfl hdV_X8_pattern ⟨(Nat.le_of_ble_eq_true rfl), (Nat.le_of_ble_eq_true rfl)⟩ (q0 := 0) rfl rfl rfl rfl (Nat.le_of_ble_eq_true rfl) ⟨Nat.le_trans (show cells + 2 ≤ cells + 3 by omega) hcl, Nat.le_trans (show slots + 12 ≤ slots + 18 by omega) hsl⟩ dL_law_668 (fun H locs w => ?_)
  refine lv_istore (lv' := [(6, .int N), (5, vI K), (0, .ref bs), (1, .ref (z 0 0)), (2, .ref (b 0)), (3, .ref qo), (4, vI i)]) S.1 S.2.1 dL_law_671 hl (by decide) rfl (fun ls hl => ?_)
  refine lv_aload_n S.1 S.2.1 dL_law_673 rfl (lv_at hl 4 rfl) ?_
  refine nv_gVi (wc := mdW Z b T2) (czW Z z T2 ++ joW Z qo T2.fo) [] (rest := []) S w hl.1 (c_X8_thrown l D Z b T2.M T2.sv T2.sd T2.n T2.th T2.tl T2.pl T2.ro T2.nu T2.t T2.r) (by simp only [List.append_nil]) gL_law_X8_thrown rfl hdV_X8_thrown ⟨(Nat.le_of_ble_eq_true rfl), (Nat.le_of_ble_eq_true rfl)⟩ (q0 := 0) rfl rfl rfl rfl (Nat.le_of_ble_eq_true rfl) ⟨Nat.le_trans (show cells + 2 ≤ cells + 3 by omega) hcl, Nat.le_trans (show slots + 12 ≤ slots + 18 by omega) hsl⟩ dL_law_674 (fun H locs w => ?_)
  refine W.eq (g2 := F0 m 677 ls [vI K]) (by rw [hth]) ?_
  refine lv_iload S.1 S.2.1 dL_law_677 (lv_at hl 1 rfl) ?_
  refine lv_icmp_eq (tgt := 684) S.1 S.2.1 dL_law_679 (by decide) (fun _ => ?_) (fun h9 => absurd rfl h9)
  refine lv_iload S.1 S.2.1 dL_law_684 (lv_at hl 1 rfl) ?_
  refine nv_if_ne S (by omega) (tgt := 701) dL_law_686 (by decide) (fun h_1 => ?_) (fun h_1 => ?_)
  · skip
    refine lv_goto (tgt := 1543) S.1 S.2.1 dL_law_701 (by decide) ?_
    refine W.widen (k := cells + 3) (n := slots + 18) (by omega) (by omega) ?_
    exact kk T2 _ _ _ hI2 (lv_sub hl [2, 3, 4, 5, 6] rfl) w
  · skip
    refine lv_aload_n S.1 S.2.1 dL_law_689 rfl (lv_at hl 5 rfl) ?_
    refine lv_iconst (v := nI 0) S.1 S.2.1 dL_law_690 (ofInt_nI 0) ?_
    refine nl_lald (czW Z z T2) (mdW Z b T2) S w dL_law_691 ?_
    refine W.eq (g2 := F0 m 692 ls [.long (N.toInt64)]) (by rw [hfo h_1]) ?_
    refine lv_iload S.1 S.2.1 dL_law_692 (lv_at hl 0 rfl) ?_
    refine lv_i2l (v := N.toInt64) S.1 S.2.1 dL_law_694 rfl ?_
    refine W.lcmp S.1 S.2.1 dL_law_695 ?_
    refine W.eq (g2 := F0 m 696 ls [.int 0]) (by rw [lg_cmp_self]) ?_
    refine lv_if_eq (tgt := 701) S.1 S.2.1 dL_law_696 (by decide) (fun _ => ?_) (fun h9 => absurd rfl h9)
    refine lv_goto (tgt := 1543) S.1 S.2.1 dL_law_701 (by decide) ?_
    refine W.widen (k := cells + 3) (n := slots + 18) (by omega) (by omega) ?_
    exact kk T2 _ _ _ hI2 (lv_sub hl [2, 3, 4, 5, 6] rfl) w

theorem hdS_L_order : yL_order.cls ≠ "java/lang/invoke/MethodHandle" ∧ yL_order.cls ≠ "java/lang/invoke/VarHandle" ∧ (parseMethodDescriptor yL_order.desc).map (fun d => d.parameters.length) = some 3 := by decide +kernel
theorem hdV_X8_order : yX8_order.cls = RX8 ∧ yX8_order.cls ≠ "java/lang/invoke/MethodHandle" ∧ yX8_order.cls ≠ "java/lang/invoke/VarHandle" ∧ (parseMethodDescriptor yX8_order.desc).map (fun d => d.parameters.length) = some 1 := by decide +kernel
set_option maxRecDepth 100000 in
set_option maxHeartbeats 4000000 in
theorem cs_7 (l : Launch) (hst : l.stackTraces = false) (D : va_G) (Z : Nat → ClassId) (z : Nat → Nat → Nat) (b : Nat → Nat) (qo bs L : Nat) (xs : Nat → Int32) {p : Program} {e : Env} {s : State} {m : MethodId} {args : Array Value} {below : List Frame} {meth : Method} {c : Code} {A : Nat → Prop} {Q : State → Prop} (S : CallFix p m c cL_law 9 s args wsL_law RL) (X9 : XT A s s.heap) (hnc : NC s) (hscr : Scr bs L xs A s) (i : Nat) (hi : i + 6 ≤ L) (T : LawS) (hI : LI T) (H : Heap) (locs : List Loc) (ls : Array Slot) (cells slots : Nat) (hcl : cells + 3 ≤ 601024) (hsl : slots + 18 ≤ 7293034) (hl : lv_has ls 9 [(0, .ref bs), (1, .ref (z 0 0)), (2, .ref (b 0)), (3, .ref qo), (4, vI i)]) (w : Wd D Z A s (czW Z z T ++ joW Z qo T.fo ++ mdW Z b T) H locs) (kk : ∀ (T2 : LawS) (H2 : Heap) (locs2 : List Loc) (ls2 : Array Slot), LI T2 → lv_has ls2 9 [(0, .ref bs), (1, .ref (z 0 0)), (2, .ref (b 0)), (3, .ref qo), (4, vI i)] → Wd D Z A s (czW Z z T2 ++ joW Z qo T2.fo ++ mdW Z b T2) H2 locs2 → W p l e room_1 s m args below meth c H2 locs2 (cells + 3) (slots + 18) Q (F0 m 1543 ls2 [])) : W p l e room_1 s m args below meth c H locs cells slots Q (F0 m 704 ls []) := by
  refine lv_aload_n S.1 S.2.1 dL_law_704 rfl (lv_at hl 1 rfl) ?_
  refine lv_aload_n S.1 S.2.1 dL_law_705 rfl (lv_at hl 0 rfl) ?_
  refine lv_iload S.1 S.2.1 dL_law_706 (lv_at hl 4 rfl) ?_
  refine lv_iconst (v := nI 1) S.1 S.2.1 dL_law_708 (ofInt_nI 1) ?_
  refine nv_iadd S dL_law_709 ?_
  refine nl_sld S w hscr (i := (i + 1)) (by omega) dL_law_710 ?_
  refine lv_aload_n S.1 S.2.1 dL_law_711 rfl (lv_at hl 3 rfl) ?_
  obtain ⟨K, N, T2, hI2, hth, hK2, hfo, hc, hm⟩ := pr_order l hst D Z z b qo T hI (xs (i + 1))
  refine nl_h (rest := []) S w X9 hnc hl.1 hc adr_jo gL_law_L_order rfl hdS_L_order ⟨(Nat.le_of_ble_eq_true rfl), (Nat.le_of_ble_eq_true rfl)⟩ rfl rfl (Nat.le_of_ble_eq_true rfl) ⟨Nat.le_trans (show cells + 1 ≤ cells + 3 by omega) hcl, Nat.le_trans (show slots + 6 ≤ slots + 18 by omega) hsl⟩ dL_law_712 (fun H locs w => ?_)
  refine lv_istore (lv' := [(5, vI K), (0, .ref bs), (1, .ref (z 0 0)), (2, .ref (b 0)), (3, .ref qo), (4, vI i)]) S.1 S.2.1 dL_law_715 hl (by decide) rfl (fun ls hl => ?_)
  refine lv_aload_n S.1 S.2.1 dL_law_717 rfl (lv_at hl 3 rfl) ?_
  refine lv_aload_n S.1 S.2.1 dL_law_718 rfl (lv_at hl 1 rfl) ?_
  refine lv_iload S.1 S.2.1 dL_law_719 (lv_at hl 5 rfl) ?_
  refine lv_iconst (v := nI 1) S.1 S.2.1 dL_law_721 (ofInt_nI 1) ?_
  refine nv_iadd S dL_law_722 ?_
  refine nl_sld S w hscr (i := (i + 1)) (by omega) dL_law_723 ?_
  refine nv_fVi (czW Z z T2 ++ joW Z qo T2.fo) [] (ws' := czW Z z T2 ++ joW Z qo T2.fo ++ mdW Z b T2) (rest := []) S w hl.1 hm (by simp only [List.append_nil]) adr_md (by simp only [List.append_nil]) gL_law_X8_order rfl hdV_X8_order ⟨(Nat.le_of_ble_eq_true rfl), (Nat.le_of_ble_eq_true rfl)⟩ (q0 := 0) rfl rfl rfl rfl (Nat.le_of_ble_eq_true rfl) ⟨Nat.le_trans (show cells + 1 ≤ cells + 3 by omega) hcl, Nat.le_trans (show slots + 6 ≤ slots + 18 by omega) hsl⟩ dL_law_724 (fun H locs w => ?_)
  refine lv_istore (lv' := [(6, .int N), (5, vI K), (0, .ref bs), (1, .ref (z 0 0)), (2, .ref (b 0)), (3, .ref qo), (4, vI i)]) S.1 S.2.1 dL_law_727 hl (by decide) rfl (fun ls hl => ?_)
  refine lv_aload_n S.1 S.2.1 dL_law_729 rfl (lv_at hl 4 rfl) ?_
  refine nv_gVi (wc := mdW Z b T2) (czW Z z T2 ++ joW Z qo T2.fo) [] (rest := []) S w hl.1 (c_X8_thrown l D Z b T2.M T2.sv T2.sd T2.n T2.th T2.tl T2.pl T2.ro T2.nu T2.t T2.r) (by simp only [List.append_nil]) gL_law_X8_thrown rfl hdV_X8_thrown ⟨(Nat.le_of_ble_eq_true rfl), (Nat.le_of_ble_eq_true rfl)⟩ (q0 := 0) rfl rfl rfl rfl (Nat.le_of_ble_eq_true rfl) ⟨Nat.le_trans (show cells + 1 ≤ cells + 3 by omega) hcl, Nat.le_trans (show slots + 6 ≤ slots + 18 by omega) hsl⟩ dL_law_730 (fun H locs w => ?_)
  refine W.eq (g2 := F0 m 733 ls [vI K]) (by rw [hth]) ?_
  refine lv_iload S.1 S.2.1 dL_law_733 (lv_at hl 1 rfl) ?_
  refine lv_icmp_eq (tgt := 740) S.1 S.2.1 dL_law_735 (by decide) (fun _ => ?_) (fun h9 => absurd rfl h9)
  refine lv_iload S.1 S.2.1 dL_law_740 (lv_at hl 1 rfl) ?_
  refine nv_if_ne S (by omega) (tgt := 757) dL_law_742 (by decide) (fun h_1 => ?_) (fun h_1 => ?_)
  · skip
    refine lv_goto (tgt := 1543) S.1 S.2.1 dL_law_757 (by decide) ?_
    refine W.widen (k := cells + 3) (n := slots + 18) (by omega) (by omega) ?_
    exact kk T2 _ _ _ hI2 (lv_sub hl [2, 3, 4, 5, 6] rfl) w
  · skip
    refine lv_aload_n S.1 S.2.1 dL_law_745 rfl (lv_at hl 5 rfl) ?_
    refine lv_iconst (v := nI 0) S.1 S.2.1 dL_law_746 (ofInt_nI 0) ?_
    refine nl_lald (czW Z z T2) (mdW Z b T2) S w dL_law_747 ?_
    refine W.eq (g2 := F0 m 748 ls [.long (N.toInt64)]) (by rw [hfo h_1]) ?_
    refine lv_iload S.1 S.2.1 dL_law_748 (lv_at hl 0 rfl) ?_
    refine lv_i2l (v := N.toInt64) S.1 S.2.1 dL_law_750 rfl ?_
    refine W.lcmp S.1 S.2.1 dL_law_751 ?_
    refine W.eq (g2 := F0 m 752 ls [.int 0]) (by rw [lg_cmp_self]) ?_
    refine lv_if_eq (tgt := 757) S.1 S.2.1 dL_law_752 (by decide) (fun _ => ?_) (fun h9 => absurd rfl h9)
    refine lv_goto (tgt := 1543) S.1 S.2.1 dL_law_757 (by decide) ?_
    refine W.widen (k := cells + 3) (n := slots + 18) (by omega) (by omega) ?_
    exact kk T2 _ _ _ hI2 (lv_sub hl [2, 3, 4, 5, 6] rfl) w
