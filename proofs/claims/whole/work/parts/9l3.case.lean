theorem hdS_L_channel : yL_channel.cls ≠ "java/lang/invoke/MethodHandle" ∧ yL_channel.cls ≠ "java/lang/invoke/VarHandle" ∧ (parseMethodDescriptor yL_channel.desc).map (fun d => d.parameters.length) = some 4 := by decide +kernel
theorem hdV_X8_channel : yX8_channel.cls = RX8 ∧ yX8_channel.cls ≠ "java/lang/invoke/MethodHandle" ∧ yX8_channel.cls ≠ "java/lang/invoke/VarHandle" ∧ (parseMethodDescriptor yX8_channel.desc).map (fun d => d.parameters.length) = some 2 := by decide +kernel
set_option maxRecDepth 100000 in
set_option maxHeartbeats 4000000 in
theorem cs_12 (l : Launch) (hst : l.stackTraces = false) (D : va_G) (Z : Nat → ClassId) (z : Nat → Nat → Nat) (b : Nat → Nat) (qo bs L : Nat) (xs : Nat → Int32) {p : Program} {e : Env} {s : State} {m : MethodId} {args : Array Value} {below : List Frame} {meth : Method} {c : Code} {A : Nat → Prop} {Q : State → Prop} (S : CallFix p m c cL_law 9 s args wsL_law RL) (X9 : XT A s s.heap) (hnc : NC s) (hscr : Scr bs L xs A s) (i : Nat) (hi : i + 6 ≤ L) (T : LawS) (hI : LI T) (H : Heap) (locs : List Loc) (ls : Array Slot) (cells slots : Nat) (hcl : cells + 3 ≤ 601024) (hsl : slots + 18 ≤ 7293034) (hl : lv_has ls 9 [(0, .ref bs), (1, .ref (z 0 0)), (2, .ref (b 0)), (3, .ref qo), (4, vI i)]) (w : Wd D Z A s (czW Z z T ++ joW Z qo T.fo ++ mdW Z b T) H locs) (kk : ∀ (T2 : LawS) (H2 : Heap) (locs2 : List Loc) (ls2 : Array Slot), LI T2 → lv_has ls2 9 [(0, .ref bs), (1, .ref (z 0 0)), (2, .ref (b 0)), (3, .ref qo), (4, vI i)] → Wd D Z A s (czW Z z T2 ++ joW Z qo T2.fo ++ mdW Z b T2) H2 locs2 → W p l e room_1 s m args below meth c H2 locs2 (cells + 3) (slots + 18) Q (F0 m 1543 ls2 [])) : W p l e room_1 s m args below meth c H locs cells slots Q (F0 m 965 ls []) := by
  refine lv_aload_n S.1 S.2.1 dL_law_965 rfl (lv_at hl 1 rfl) ?_
  refine lv_aload_n S.1 S.2.1 dL_law_966 rfl (lv_at hl 0 rfl) ?_
  refine lv_iload S.1 S.2.1 dL_law_967 (lv_at hl 4 rfl) ?_
  refine lv_iconst (v := nI 1) S.1 S.2.1 dL_law_969 (ofInt_nI 1) ?_
  refine nv_iadd S dL_law_970 ?_
  refine nl_sld S w hscr (i := (i + 1)) (by omega) dL_law_971 ?_
  refine lv_aload_n S.1 S.2.1 dL_law_972 rfl (lv_at hl 0 rfl) ?_
  refine lv_iload S.1 S.2.1 dL_law_973 (lv_at hl 4 rfl) ?_
  refine lv_iconst (v := nI 2) S.1 S.2.1 dL_law_975 (ofInt_nI 2) ?_
  refine nv_iadd S dL_law_976 ?_
  refine nl_sld S w hscr (i := (i + 2)) (by omega) dL_law_977 ?_
  refine lv_aload_n S.1 S.2.1 dL_law_978 rfl (lv_at hl 3 rfl) ?_
  obtain ⟨K, N, T2, hI2, hth, hK2, hfo, hc, hm⟩ := pr_channel l hst D Z z b qo T hI (xs (i + 1)) (xs (i + 2))
  refine nl_h (rest := []) S w X9 hnc hl.1 hc adr_jo gL_law_L_channel rfl hdS_L_channel ⟨(Nat.le_of_ble_eq_true rfl), (Nat.le_of_ble_eq_true rfl)⟩ rfl rfl (Nat.le_of_ble_eq_true rfl) ⟨Nat.le_trans (show cells + 2 ≤ cells + 3 by omega) hcl, Nat.le_trans (show slots + 12 ≤ slots + 18 by omega) hsl⟩ dL_law_979 (fun H locs w => ?_)
  refine lv_istore (lv' := [(5, vI K), (0, .ref bs), (1, .ref (z 0 0)), (2, .ref (b 0)), (3, .ref qo), (4, vI i)]) S.1 S.2.1 dL_law_982 hl (by decide) rfl (fun ls hl => ?_)
  refine lv_aload_n S.1 S.2.1 dL_law_984 rfl (lv_at hl 3 rfl) ?_
  refine lv_aload_n S.1 S.2.1 dL_law_985 rfl (lv_at hl 1 rfl) ?_
  refine lv_iload S.1 S.2.1 dL_law_986 (lv_at hl 5 rfl) ?_
  refine lv_iconst (v := nI 1) S.1 S.2.1 dL_law_988 (ofInt_nI 1) ?_
  refine nv_iadd S dL_law_989 ?_
  refine nl_sld S w hscr (i := (i + 1)) (by omega) dL_law_990 ?_
  refine lv_aload_n S.1 S.2.1 dL_law_991 rfl (lv_at hl 1 rfl) ?_
  refine lv_iload S.1 S.2.1 dL_law_992 (lv_at hl 5 rfl) ?_
  refine lv_iconst (v := nI 2) S.1 S.2.1 dL_law_994 (ofInt_nI 2) ?_
  refine nv_iadd S dL_law_995 ?_
  refine nl_sld S w hscr (i := (i + 2)) (by omega) dL_law_996 ?_
  refine nv_fVi (czW Z z T2 ++ joW Z qo T2.fo) [] (ws' := czW Z z T2 ++ joW Z qo T2.fo ++ mdW Z b T2) (rest := []) S w hl.1 hm (by simp only [List.append_nil]) adr_md (by simp only [List.append_nil]) gL_law_X8_channel rfl hdV_X8_channel ⟨(Nat.le_of_ble_eq_true rfl), (Nat.le_of_ble_eq_true rfl)⟩ (q0 := 0) rfl rfl rfl rfl (Nat.le_of_ble_eq_true rfl) ⟨Nat.le_trans (show cells + 2 ≤ cells + 3 by omega) hcl, Nat.le_trans (show slots + 12 ≤ slots + 18 by omega) hsl⟩ dL_law_997 (fun H locs w => ?_)
  refine lv_istore (lv' := [(6, .int N), (5, vI K), (0, .ref bs), (1, .ref (z 0 0)), (2, .ref (b 0)), (3, .ref qo), (4, vI i)]) S.1 S.2.1 dL_law_1000 hl (by decide) rfl (fun ls hl => ?_)
  refine lv_aload_n S.1 S.2.1 dL_law_1002 rfl (lv_at hl 4 rfl) ?_
  refine nv_gVi (wc := mdW Z b T2) (czW Z z T2 ++ joW Z qo T2.fo) [] (rest := []) S w hl.1 (c_X8_thrown l D Z b T2.M T2.sv T2.sd T2.n T2.th T2.tl T2.pl T2.ro T2.nu T2.t T2.r) (by simp only [List.append_nil]) gL_law_X8_thrown rfl hdV_X8_thrown ⟨(Nat.le_of_ble_eq_true rfl), (Nat.le_of_ble_eq_true rfl)⟩ (q0 := 0) rfl rfl rfl rfl (Nat.le_of_ble_eq_true rfl) ⟨Nat.le_trans (show cells + 2 ≤ cells + 3 by omega) hcl, Nat.le_trans (show slots + 12 ≤ slots + 18 by omega) hsl⟩ dL_law_1003 (fun H locs w => ?_)
  refine W.eq (g2 := F0 m 1006 ls [vI K]) (by rw [hth]) ?_
  refine lv_iload S.1 S.2.1 dL_law_1006 (lv_at hl 1 rfl) ?_
  refine lv_icmp_eq (tgt := 1013) S.1 S.2.1 dL_law_1008 (by decide) (fun _ => ?_) (fun h9 => absurd rfl h9)
  refine lv_iload S.1 S.2.1 dL_law_1013 (lv_at hl 1 rfl) ?_
  refine nv_if_ne S (by omega) (tgt := 1030) dL_law_1015 (by decide) (fun h_1 => ?_) (fun h_1 => ?_)
  · skip
    refine lv_goto (tgt := 1543) S.1 S.2.1 dL_law_1030 (by decide) ?_
    refine W.widen (k := cells + 3) (n := slots + 18) (by omega) (by omega) ?_
    exact kk T2 _ _ _ hI2 (lv_sub hl [2, 3, 4, 5, 6] rfl) w
  · skip
    refine lv_aload_n S.1 S.2.1 dL_law_1018 rfl (lv_at hl 5 rfl) ?_
    refine lv_iconst (v := nI 0) S.1 S.2.1 dL_law_1019 (ofInt_nI 0) ?_
    refine nl_lald (czW Z z T2) (mdW Z b T2) S w dL_law_1020 ?_
    refine W.eq (g2 := F0 m 1021 ls [.long (N.toInt64)]) (by rw [hfo h_1]) ?_
    refine lv_iload S.1 S.2.1 dL_law_1021 (lv_at hl 0 rfl) ?_
    refine lv_i2l (v := N.toInt64) S.1 S.2.1 dL_law_1023 rfl ?_
    refine W.lcmp S.1 S.2.1 dL_law_1024 ?_
    refine W.eq (g2 := F0 m 1025 ls [.int 0]) (by rw [lg_cmp_self]) ?_
    refine lv_if_eq (tgt := 1030) S.1 S.2.1 dL_law_1025 (by decide) (fun _ => ?_) (fun h9 => absurd rfl h9)
    refine lv_goto (tgt := 1543) S.1 S.2.1 dL_law_1030 (by decide) ?_
    refine W.widen (k := cells + 3) (n := slots + 18) (by omega) (by omega) ?_
    exact kk T2 _ _ _ hI2 (lv_sub hl [2, 3, 4, 5, 6] rfl) w

theorem hdS_L_value : yL_value.cls ≠ "java/lang/invoke/MethodHandle" ∧ yL_value.cls ≠ "java/lang/invoke/VarHandle" ∧ (parseMethodDescriptor yL_value.desc).map (fun d => d.parameters.length) = some 3 := by decide +kernel
theorem hdV_X8_value : yX8_value.cls = RX8 ∧ yX8_value.cls ≠ "java/lang/invoke/MethodHandle" ∧ yX8_value.cls ≠ "java/lang/invoke/VarHandle" ∧ (parseMethodDescriptor yX8_value.desc).map (fun d => d.parameters.length) = some 1 := by decide +kernel
set_option maxRecDepth 100000 in
set_option maxHeartbeats 4000000 in
theorem cs_13 (l : Launch) (hst : l.stackTraces = false) (D : va_G) (Z : Nat → ClassId) (z : Nat → Nat → Nat) (b : Nat → Nat) (qo bs L : Nat) (xs : Nat → Int32) {p : Program} {e : Env} {s : State} {m : MethodId} {args : Array Value} {below : List Frame} {meth : Method} {c : Code} {A : Nat → Prop} {Q : State → Prop} (S : CallFix p m c cL_law 9 s args wsL_law RL) (X9 : XT A s s.heap) (hnc : NC s) (hscr : Scr bs L xs A s) (i : Nat) (hi : i + 6 ≤ L) (T : LawS) (hI : LI T) (H : Heap) (locs : List Loc) (ls : Array Slot) (cells slots : Nat) (hcl : cells + 3 ≤ 601024) (hsl : slots + 18 ≤ 7293034) (hl : lv_has ls 9 [(0, .ref bs), (1, .ref (z 0 0)), (2, .ref (b 0)), (3, .ref qo), (4, vI i)]) (w : Wd D Z A s (czW Z z T ++ joW Z qo T.fo ++ mdW Z b T) H locs) (kk : ∀ (T2 : LawS) (H2 : Heap) (locs2 : List Loc) (ls2 : Array Slot), LI T2 → lv_has ls2 9 [(0, .ref bs), (1, .ref (z 0 0)), (2, .ref (b 0)), (3, .ref qo), (4, vI i)] → Wd D Z A s (czW Z z T2 ++ joW Z qo T2.fo ++ mdW Z b T2) H2 locs2 → W p l e room_1 s m args below meth c H2 locs2 (cells + 3) (slots + 18) Q (F0 m 1543 ls2 [])) : W p l e room_1 s m args below meth c H locs cells slots Q (F0 m 1033 ls []) := by
  refine lv_aload_n S.1 S.2.1 dL_law_1033 rfl (lv_at hl 1 rfl) ?_
  refine lv_aload_n S.1 S.2.1 dL_law_1034 rfl (lv_at hl 0 rfl) ?_
  refine lv_iload S.1 S.2.1 dL_law_1035 (lv_at hl 4 rfl) ?_
  refine lv_iconst (v := nI 1) S.1 S.2.1 dL_law_1037 (ofInt_nI 1) ?_
  refine nv_iadd S dL_law_1038 ?_
  refine nl_sld S w hscr (i := (i + 1)) (by omega) dL_law_1039 ?_
  refine lv_aload_n S.1 S.2.1 dL_law_1040 rfl (lv_at hl 3 rfl) ?_
  obtain ⟨K, N, T2, hI2, hth, hK2, hfo, hc, hm⟩ := pr_value l hst D Z z b qo T hI (xs (i + 1))
  refine nl_h (rest := []) S w X9 hnc hl.1 hc adr_jo gL_law_L_value rfl hdS_L_value ⟨(Nat.le_of_ble_eq_true rfl), (Nat.le_of_ble_eq_true rfl)⟩ rfl rfl (Nat.le_of_ble_eq_true rfl) ⟨Nat.le_trans (show cells + 1 ≤ cells + 3 by omega) hcl, Nat.le_trans (show slots + 6 ≤ slots + 18 by omega) hsl⟩ dL_law_1041 (fun H locs w => ?_)
  refine lv_istore (lv' := [(5, vI K), (0, .ref bs), (1, .ref (z 0 0)), (2, .ref (b 0)), (3, .ref qo), (4, vI i)]) S.1 S.2.1 dL_law_1044 hl (by decide) rfl (fun ls hl => ?_)
  refine lv_aload_n S.1 S.2.1 dL_law_1046 rfl (lv_at hl 3 rfl) ?_
  refine lv_aload_n S.1 S.2.1 dL_law_1047 rfl (lv_at hl 1 rfl) ?_
  refine lv_iload S.1 S.2.1 dL_law_1048 (lv_at hl 5 rfl) ?_
  refine lv_iconst (v := nI 1) S.1 S.2.1 dL_law_1050 (ofInt_nI 1) ?_
  refine nv_iadd S dL_law_1051 ?_
  refine nl_sld S w hscr (i := (i + 1)) (by omega) dL_law_1052 ?_
  refine nv_fVi (czW Z z T2 ++ joW Z qo T2.fo) [] (ws' := czW Z z T2 ++ joW Z qo T2.fo ++ mdW Z b T2) (rest := []) S w hl.1 hm (by simp only [List.append_nil]) adr_md (by simp only [List.append_nil]) gL_law_X8_value rfl hdV_X8_value ⟨(Nat.le_of_ble_eq_true rfl), (Nat.le_of_ble_eq_true rfl)⟩ (q0 := 0) rfl rfl rfl rfl (Nat.le_of_ble_eq_true rfl) ⟨Nat.le_trans (show cells + 1 ≤ cells + 3 by omega) hcl, Nat.le_trans (show slots + 6 ≤ slots + 18 by omega) hsl⟩ dL_law_1053 (fun H locs w => ?_)
  refine lv_istore (lv' := [(6, .int N), (5, vI K), (0, .ref bs), (1, .ref (z 0 0)), (2, .ref (b 0)), (3, .ref qo), (4, vI i)]) S.1 S.2.1 dL_law_1056 hl (by decide) rfl (fun ls hl => ?_)
  refine lv_aload_n S.1 S.2.1 dL_law_1058 rfl (lv_at hl 4 rfl) ?_
  refine nv_gVi (wc := mdW Z b T2) (czW Z z T2 ++ joW Z qo T2.fo) [] (rest := []) S w hl.1 (c_X8_thrown l D Z b T2.M T2.sv T2.sd T2.n T2.th T2.tl T2.pl T2.ro T2.nu T2.t T2.r) (by simp only [List.append_nil]) gL_law_X8_thrown rfl hdV_X8_thrown ⟨(Nat.le_of_ble_eq_true rfl), (Nat.le_of_ble_eq_true rfl)⟩ (q0 := 0) rfl rfl rfl rfl (Nat.le_of_ble_eq_true rfl) ⟨Nat.le_trans (show cells + 1 ≤ cells + 3 by omega) hcl, Nat.le_trans (show slots + 6 ≤ slots + 18 by omega) hsl⟩ dL_law_1059 (fun H locs w => ?_)
  refine W.eq (g2 := F0 m 1062 ls [vI K]) (by rw [hth]) ?_
  refine lv_iload S.1 S.2.1 dL_law_1062 (lv_at hl 1 rfl) ?_
  refine lv_icmp_eq (tgt := 1069) S.1 S.2.1 dL_law_1064 (by decide) (fun _ => ?_) (fun h9 => absurd rfl h9)
  refine lv_iload S.1 S.2.1 dL_law_1069 (lv_at hl 1 rfl) ?_
  refine nv_if_ne S (by omega) (tgt := 1086) dL_law_1071 (by decide) (fun h_1 => ?_) (fun h_1 => ?_)
  · skip
    refine lv_goto (tgt := 1543) S.1 S.2.1 dL_law_1086 (by decide) ?_
    refine W.widen (k := cells + 3) (n := slots + 18) (by omega) (by omega) ?_
    exact kk T2 _ _ _ hI2 (lv_sub hl [2, 3, 4, 5, 6] rfl) w
  · skip
    refine lv_aload_n S.1 S.2.1 dL_law_1074 rfl (lv_at hl 5 rfl) ?_
    refine lv_iconst (v := nI 0) S.1 S.2.1 dL_law_1075 (ofInt_nI 0) ?_
    refine nl_lald (czW Z z T2) (mdW Z b T2) S w dL_law_1076 ?_
    refine W.eq (g2 := F0 m 1077 ls [.long (N.toInt64)]) (by rw [hfo h_1]) ?_
    refine lv_iload S.1 S.2.1 dL_law_1077 (lv_at hl 0 rfl) ?_
    refine lv_i2l (v := N.toInt64) S.1 S.2.1 dL_law_1079 rfl ?_
    refine W.lcmp S.1 S.2.1 dL_law_1080 ?_
    refine W.eq (g2 := F0 m 1081 ls [.int 0]) (by rw [lg_cmp_self]) ?_
    refine lv_if_eq (tgt := 1086) S.1 S.2.1 dL_law_1081 (by decide) (fun _ => ?_) (fun h9 => absurd rfl h9)
    refine lv_goto (tgt := 1543) S.1 S.2.1 dL_law_1086 (by decide) ?_
    refine W.widen (k := cells + 3) (n := slots + 18) (by omega) (by omega) ?_
    exact kk T2 _ _ _ hI2 (lv_sub hl [2, 3, 4, 5, 6] rfl) w

theorem hdS_L_hashOf : yL_hashOf.cls ≠ "java/lang/invoke/MethodHandle" ∧ yL_hashOf.cls ≠ "java/lang/invoke/VarHandle" ∧ (parseMethodDescriptor yL_hashOf.desc).map (fun d => d.parameters.length) = some 3 := by decide +kernel
theorem hdV_X8_hashOf : yX8_hashOf.cls = RX8 ∧ yX8_hashOf.cls ≠ "java/lang/invoke/MethodHandle" ∧ yX8_hashOf.cls ≠ "java/lang/invoke/VarHandle" ∧ (parseMethodDescriptor yX8_hashOf.desc).map (fun d => d.parameters.length) = some 1 := by decide +kernel
set_option maxRecDepth 100000 in
set_option maxHeartbeats 4000000 in
theorem cs_14 (l : Launch) (hst : l.stackTraces = false) (D : va_G) (Z : Nat → ClassId) (z : Nat → Nat → Nat) (b : Nat → Nat) (qo bs L : Nat) (xs : Nat → Int32) {p : Program} {e : Env} {s : State} {m : MethodId} {args : Array Value} {below : List Frame} {meth : Method} {c : Code} {A : Nat → Prop} {Q : State → Prop} (S : CallFix p m c cL_law 9 s args wsL_law RL) (X9 : XT A s s.heap) (hnc : NC s) (hscr : Scr bs L xs A s) (i : Nat) (hi : i + 6 ≤ L) (T : LawS) (hI : LI T) (H : Heap) (locs : List Loc) (ls : Array Slot) (cells slots : Nat) (hcl : cells + 3 ≤ 601024) (hsl : slots + 18 ≤ 7293034) (hl : lv_has ls 9 [(0, .ref bs), (1, .ref (z 0 0)), (2, .ref (b 0)), (3, .ref qo), (4, vI i)]) (w : Wd D Z A s (czW Z z T ++ joW Z qo T.fo ++ mdW Z b T) H locs) (kk : ∀ (T2 : LawS) (H2 : Heap) (locs2 : List Loc) (ls2 : Array Slot), LI T2 → lv_has ls2 9 [(0, .ref bs), (1, .ref (z 0 0)), (2, .ref (b 0)), (3, .ref qo), (4, vI i)] → Wd D Z A s (czW Z z T2 ++ joW Z qo T2.fo ++ mdW Z b T2) H2 locs2 → W p l e room_1 s m args below meth c H2 locs2 (cells + 3) (slots + 18) Q (F0 m 1543 ls2 [])) : W p l e room_1 s m args below meth c H locs cells slots Q (F0 m 1089 ls []) := by
  refine lv_aload_n S.1 S.2.1 dL_law_1089 rfl (lv_at hl 1 rfl) ?_
  refine lv_aload_n S.1 S.2.1 dL_law_1090 rfl (lv_at hl 0 rfl) ?_
  refine lv_iload S.1 S.2.1 dL_law_1091 (lv_at hl 4 rfl) ?_
  refine lv_iconst (v := nI 1) S.1 S.2.1 dL_law_1093 (ofInt_nI 1) ?_
  refine nv_iadd S dL_law_1094 ?_
  refine nl_sld S w hscr (i := (i + 1)) (by omega) dL_law_1095 ?_
  refine lv_aload_n S.1 S.2.1 dL_law_1096 rfl (lv_at hl 3 rfl) ?_
  obtain ⟨K, N, T2, hI2, hth, hK2, hfo, hc, hm⟩ := pr_hashOf l hst D Z z b qo T hI (xs (i + 1))
  refine nl_h (rest := []) S w X9 hnc hl.1 hc adr_jo gL_law_L_hashOf rfl hdS_L_hashOf ⟨(Nat.le_of_ble_eq_true rfl), (Nat.le_of_ble_eq_true rfl)⟩ rfl rfl (Nat.le_of_ble_eq_true rfl) ⟨Nat.le_trans (show cells + 1 ≤ cells + 3 by omega) hcl, Nat.le_trans (show slots + 6 ≤ slots + 18 by omega) hsl⟩ dL_law_1097 (fun H locs w => ?_)
  refine lv_istore (lv' := [(5, vI K), (0, .ref bs), (1, .ref (z 0 0)), (2, .ref (b 0)), (3, .ref qo), (4, vI i)]) S.1 S.2.1 dL_law_1100 hl (by decide) rfl (fun ls hl => ?_)
  refine lv_aload_n S.1 S.2.1 dL_law_1102 rfl (lv_at hl 3 rfl) ?_
  refine lv_aload_n S.1 S.2.1 dL_law_1103 rfl (lv_at hl 1 rfl) ?_
  refine lv_iload S.1 S.2.1 dL_law_1104 (lv_at hl 5 rfl) ?_
  refine lv_iconst (v := nI 1) S.1 S.2.1 dL_law_1106 (ofInt_nI 1) ?_
  refine nv_iadd S dL_law_1107 ?_
  refine nl_sld S w hscr (i := (i + 1)) (by omega) dL_law_1108 ?_
  refine nv_fVi (czW Z z T2 ++ joW Z qo T2.fo) [] (ws' := czW Z z T2 ++ joW Z qo T2.fo ++ mdW Z b T2) (rest := []) S w hl.1 hm (by simp only [List.append_nil]) adr_md (by simp only [List.append_nil]) gL_law_X8_hashOf rfl hdV_X8_hashOf ⟨(Nat.le_of_ble_eq_true rfl), (Nat.le_of_ble_eq_true rfl)⟩ (q0 := 0) rfl rfl rfl rfl (Nat.le_of_ble_eq_true rfl) ⟨Nat.le_trans (show cells + 1 ≤ cells + 3 by omega) hcl, Nat.le_trans (show slots + 6 ≤ slots + 18 by omega) hsl⟩ dL_law_1109 (fun H locs w => ?_)
  refine lv_istore (lv' := [(6, .int N), (5, vI K), (0, .ref bs), (1, .ref (z 0 0)), (2, .ref (b 0)), (3, .ref qo), (4, vI i)]) S.1 S.2.1 dL_law_1112 hl (by decide) rfl (fun ls hl => ?_)
  refine lv_aload_n S.1 S.2.1 dL_law_1114 rfl (lv_at hl 4 rfl) ?_
  refine nv_gVi (wc := mdW Z b T2) (czW Z z T2 ++ joW Z qo T2.fo) [] (rest := []) S w hl.1 (c_X8_thrown l D Z b T2.M T2.sv T2.sd T2.n T2.th T2.tl T2.pl T2.ro T2.nu T2.t T2.r) (by simp only [List.append_nil]) gL_law_X8_thrown rfl hdV_X8_thrown ⟨(Nat.le_of_ble_eq_true rfl), (Nat.le_of_ble_eq_true rfl)⟩ (q0 := 0) rfl rfl rfl rfl (Nat.le_of_ble_eq_true rfl) ⟨Nat.le_trans (show cells + 1 ≤ cells + 3 by omega) hcl, Nat.le_trans (show slots + 6 ≤ slots + 18 by omega) hsl⟩ dL_law_1115 (fun H locs w => ?_)
  refine W.eq (g2 := F0 m 1118 ls [vI K]) (by rw [hth]) ?_
  refine lv_iload S.1 S.2.1 dL_law_1118 (lv_at hl 1 rfl) ?_
  refine lv_icmp_eq (tgt := 1125) S.1 S.2.1 dL_law_1120 (by decide) (fun _ => ?_) (fun h9 => absurd rfl h9)
  refine lv_iload S.1 S.2.1 dL_law_1125 (lv_at hl 1 rfl) ?_
  refine nv_if_ne S (by omega) (tgt := 1142) dL_law_1127 (by decide) (fun h_1 => ?_) (fun h_1 => ?_)
  · skip
    refine lv_goto (tgt := 1543) S.1 S.2.1 dL_law_1142 (by decide) ?_
    refine W.widen (k := cells + 3) (n := slots + 18) (by omega) (by omega) ?_
    exact kk T2 _ _ _ hI2 (lv_sub hl [2, 3, 4, 5, 6] rfl) w
  · skip
    refine lv_aload_n S.1 S.2.1 dL_law_1130 rfl (lv_at hl 5 rfl) ?_
    refine lv_iconst (v := nI 0) S.1 S.2.1 dL_law_1131 (ofInt_nI 0) ?_
    refine nl_lald (czW Z z T2) (mdW Z b T2) S w dL_law_1132 ?_
    refine W.eq (g2 := F0 m 1133 ls [.long (N.toInt64)]) (by rw [hfo h_1]) ?_
    refine lv_iload S.1 S.2.1 dL_law_1133 (lv_at hl 0 rfl) ?_
    refine lv_i2l (v := N.toInt64) S.1 S.2.1 dL_law_1135 rfl ?_
    refine W.lcmp S.1 S.2.1 dL_law_1136 ?_
    refine W.eq (g2 := F0 m 1137 ls [.int 0]) (by rw [lg_cmp_self]) ?_
    refine lv_if_eq (tgt := 1142) S.1 S.2.1 dL_law_1137 (by decide) (fun _ => ?_) (fun h9 => absurd rfl h9)
    refine lv_goto (tgt := 1543) S.1 S.2.1 dL_law_1142 (by decide) ?_
    refine W.widen (k := cells + 3) (n := slots + 18) (by omega) (by omega) ?_
    exact kk T2 _ _ _ hI2 (lv_sub hl [2, 3, 4, 5, 6] rfl) w

theorem hdV_X7_ticksToRound : yX7_ticksToRound.cls = RX7 ∧ yX7_ticksToRound.cls ≠ "java/lang/invoke/MethodHandle" ∧ yX7_ticksToRound.cls ≠ "java/lang/invoke/VarHandle" ∧ (parseMethodDescriptor yX7_ticksToRound.desc).map (fun d => d.parameters.length) = some 0 := by decide +kernel
theorem hdV_X8_ticksToRound : yX8_ticksToRound.cls = RX8 ∧ yX8_ticksToRound.cls ≠ "java/lang/invoke/MethodHandle" ∧ yX8_ticksToRound.cls ≠ "java/lang/invoke/VarHandle" ∧ (parseMethodDescriptor yX8_ticksToRound.desc).map (fun d => d.parameters.length) = some 0 := by decide +kernel
set_option maxRecDepth 100000 in
set_option maxHeartbeats 4000000 in
theorem cs_15 (l : Launch) (hst : l.stackTraces = false) (D : va_G) (Z : Nat → ClassId) (z : Nat → Nat → Nat) (b : Nat → Nat) (qo bs L : Nat) (xs : Nat → Int32) {p : Program} {e : Env} {s : State} {m : MethodId} {args : Array Value} {below : List Frame} {meth : Method} {c : Code} {A : Nat → Prop} {Q : State → Prop} (S : CallFix p m c cL_law 9 s args wsL_law RL) (X9 : XT A s s.heap) (hnc : NC s) (hscr : Scr bs L xs A s) (i : Nat) (hi : i + 6 ≤ L) (T : LawS) (hI : LI T) (H : Heap) (locs : List Loc) (ls : Array Slot) (cells slots : Nat) (hcl : cells + 3 ≤ 601024) (hsl : slots + 18 ≤ 7293034) (hl : lv_has ls 9 [(0, .ref bs), (1, .ref (z 0 0)), (2, .ref (b 0)), (3, .ref qo), (4, vI i)]) (w : Wd D Z A s (czW Z z T ++ joW Z qo T.fo ++ mdW Z b T) H locs) (kk : ∀ (T2 : LawS) (H2 : Heap) (locs2 : List Loc) (ls2 : Array Slot), LI T2 → lv_has ls2 9 [(0, .ref bs), (1, .ref (z 0 0)), (2, .ref (b 0)), (3, .ref qo), (4, vI i)] → Wd D Z A s (czW Z z T2 ++ joW Z qo T2.fo ++ mdW Z b T2) H2 locs2 → W p l e room_1 s m args below meth c H2 locs2 (cells + 3) (slots + 18) Q (F0 m 1543 ls2 [])) : W p l e room_1 s m args below meth c H locs cells slots Q (F0 m 1145 ls []) := by
  refine lv_aload_n S.1 S.2.1 dL_law_1145 rfl (lv_at hl 1 rfl) ?_
  obtain ⟨N, T2, hI2, hfo, h7, hm⟩ := pd_ticksToRound l D Z z b T hI
  refine nv_fVi [] (joW Z qo T.fo ++ mdW Z b T) (ws' := czW Z z T2 ++ joW Z qo T.fo ++ mdW Z b T) (rest := []) S w hl.1 h7 (by simp only [List.nil_append, List.append_assoc]) adr_cz (by simp only [List.nil_append, List.append_assoc]) gL_law_X7_ticksToRound rfl hdV_X7_ticksToRound ⟨(Nat.le_of_ble_eq_true rfl), (Nat.le_of_ble_eq_true rfl)⟩ (q0 := 0) rfl rfl rfl rfl (Nat.le_of_ble_eq_true rfl) ⟨Nat.le_trans (show cells ≤ cells + 3 by omega) hcl, Nat.le_trans (show slots ≤ slots + 18 by omega) hsl⟩ dL_law_1146 (fun H locs w => ?_)
  refine lv_aload_n S.1 S.2.1 dL_law_1149 rfl (lv_at hl 2 rfl) ?_
  refine nv_fVi (czW Z z T2 ++ joW Z qo T.fo) [] (ws' := czW Z z T2 ++ joW Z qo T2.fo ++ mdW Z b T2) (rest := [.int N]) S w hl.1 hm (by simp only [List.append_nil]) adr_md (by simp only [List.append_nil, hfo]) gL_law_X8_ticksToRound rfl hdV_X8_ticksToRound ⟨(Nat.le_of_ble_eq_true rfl), (Nat.le_of_ble_eq_true rfl)⟩ (q0 := 0) rfl rfl rfl rfl (Nat.le_of_ble_eq_true rfl) ⟨Nat.le_trans (show cells ≤ cells + 3 by omega) hcl, Nat.le_trans (show slots ≤ slots + 18 by omega) hsl⟩ dL_law_1150 (fun H locs w => ?_)
  refine lv_icmp_eq (tgt := 1543) S.1 S.2.1 dL_law_1153 (by decide) (fun _ => ?_) (fun h9 => absurd rfl h9)
  refine W.widen (k := cells + 3) (n := slots + 18) (by omega) (by omega) ?_
  exact kk T2 _ _ _ hI2 (lv_sub hl [0, 1, 2, 3, 4] rfl) w
