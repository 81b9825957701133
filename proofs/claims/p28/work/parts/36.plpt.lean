theorem hn_X3_passTick_3 : ∀ w ∈ wsX30, w ∈ wsX3_passTick := by decide +kernel
theorem hdV_X3_endRow : yX3_endRow.cls = RX3 ∧ yX3_endRow.cls ≠ "java/lang/invoke/MethodHandle" ∧ yX3_endRow.cls ≠ "java/lang/invoke/VarHandle" ∧ (parseMethodDescriptor yX3_endRow.desc).map (fun d => d.parameters.length) = some 1 := by decide +kernel
theorem hdV_X6_hear : yX6_hear.cls = RX6 ∧ yX6_hear.cls ≠ "java/lang/invoke/MethodHandle" ∧ yX6_hear.cls ≠ "java/lang/invoke/VarHandle" ∧ (parseMethodDescriptor yX6_hear.desc).map (fun d => d.parameters.length) = some 0 := by decide +kernel
theorem hdV_X3_goOn : yX3_goOn.cls = RX3 ∧ yX3_goOn.cls ≠ "java/lang/invoke/MethodHandle" ∧ yX3_goOn.cls ≠ "java/lang/invoke/VarHandle" ∧ (parseMethodDescriptor yX3_goOn.desc).map (fun d => d.parameters.length) = some 0 := by decide +kernel
theorem hdV_X3_beginRow : yX3_beginRow.cls = RX3 ∧ yX3_beginRow.cls ≠ "java/lang/invoke/MethodHandle" ∧ yX3_beginRow.cls ≠ "java/lang/invoke/VarHandle" ∧ (parseMethodDescriptor yX3_beginRow.desc).map (fun d => d.parameters.length) = some 1 := by decide +kernel
set_option maxRecDepth 100000 in
set_option maxHeartbeats 4000000 in
theorem k_X3_passTick (l : Launch) (D : va_G) (Z : Nat → ClassId) (a : Nat → Nat) (P : PG) (q9 qc qw qo : Nat) (G : SG) (hs : SB G) (hp : PB G P) {p : Program} {e : Env} {s : State} {m : MethodId} {args : Array Value} {below : List Frame} {meth : Method} {c : Code} {A : Nat → Prop} (S : CallFix p m c cX3_passTick 6 s args wsX3_passTick RX3) (hr : meth.sig.returnType = none) (hlocks : meth.locks = false) : ∀ (n9 : Nat), (∀ (i : Nat) (hi4 : i ≤ 4) (hm : 4 - i < n9), ∀ (H : Heap) (locs : List Loc) (ls : Array Slot) (hl : lv_has ls 6 [(0, .ref (a 0)), (1, .ref q9), (2, .ref (a 1)), (3, vI 4), (4, vI i)]) (w : Wd D Z A s (plB Z a (hrP (t1P G P) i) ++ songB Z q9 qc qw qo G) H locs), W p l e (rmO 4 92) s m args below meth c H locs 0 0 (Qv below D Z A args s (plB Z a (tkP G P) ++ songB Z q9 qc qw qo G)) (F0 m 30 ls [])) := by
  intro n9
  have ht1 := t1P_PB hs hp
  have ht2 := t2P_PB hs hp
  obtain ⟨hp0, hp1, hp2, hp3, hp4, hv⟩ := id hp
  induction n9 with
  | zero => intro i hi4 hm; exact absurd hm (Nat.not_lt_zero _)
  | succ n9 ih =>
    skip
    · intro i hi4 hm H locs ls hl w
      refine lv_iload S.1 S.2.1 dX3_passTick_30 (lv_at hl 4 rfl) ?_
      refine lv_iload_n S.1 S.2.1 dX3_passTick_32 rfl (lv_at hl 3 rfl) ?_
      refine nv_icmp_ge S (by omega) (by omega) (tgt := 53) dX3_passTick_33 (by decide) (fun h_1 => ?_) (fun h_1 => ?_)
      · skip
        have w := w.as (ws' := plB Z a ((t1P G P).1, (hrP (t1P G P) 4).2) ++ songB Z q9 qc qw qo G) (by rw [show i = 4 by omega]; rw [show hrP (t1P G P) 4 = ((t1P G P).1, (hrP (t1P G P) 4).2) from Prod.ext (hrP_1 4) rfl])
        obtain ⟨f1, hf1⟩ : ∃ z, z = (t1P G P).1 := ⟨_, rfl⟩
        obtain ⟨Vs, hVs⟩ : ∃ z, z = (hrP (t1P G P) 4).2 := ⟨_, rfl⟩
        rw [← hVs, ← hf1] at w
        have ht1 := ht1
        unfold PB at ht1
        rw [← hf1] at ht1
        have w := w.as (ws' := plO Z (a 0) (a 1) f1 ++ plA Z a ++ voiceB Z (a 2) (a 3) (a 4) (Vs 0) ++ voiceB Z (a 5) (a 6) (a 7) (Vs 1) ++ voiceB Z (a 8) (a 9) (a 10) (Vs 2) ++ voiceB Z (a 11) (a 12) (a 13) (Vs 3) ++ songB Z q9 qc qw qo G) rfl
        refine lv_aload_n S.1 S.2.1 dX3_passTick_53 rfl (lv_at hl 0 rfl) ?_
        refine lv_dup S.1 S.2.1 dX3_passTick_54 rfl ?_
        refine nv_get S w (C := RX3) (T := TX3) (N := 7) hn_X3_passTick_3 0 rfl rfl 4 (by decide) (List.mem_of_getElem? (i := 3) rfl) (v := vI (f1 4)) rfl dX3_passTick_55 ?_
        refine lv_iconst (v := nI 1) S.1 S.2.1 dX3_passTick_58 (ofInt_nI 1) ?_
        refine nv_iadd S dX3_passTick_59 ?_
        refine nv_put S w (C := RX3) (T := TX3) (N := 7) hn_X3_passTick_3 tyX3_ok nmX3 0 rfl rfl 4 (by decide) (List.mem_of_getElem? (i := 3) rfl) rfl rfl (Nat.le_of_ble_eq_true rfl) (ws' := [(a 0, .inr (2, [vI (f1 0), vI (f1 1), vI (f1 2), vI (f1 3), vI ((f1 4) + 1), vI (f1 5), .ref (a 1)]))] ++ plA Z a ++ voiceB Z (a 2) (a 3) (a 4) (Vs 0) ++ voiceB Z (a 5) (a 6) (a 7) (Vs 1) ++ voiceB Z (a 8) (a 9) (a 10) (Vs 2) ++ voiceB Z (a 11) (a 12) (a 13) (Vs 3) ++ songB Z q9 qc qw qo G) rfl dX3_passTick_60 (fun H locs w => ?_)
        refine lv_aload_n S.1 S.2.1 dX3_passTick_63 rfl (lv_at hl 0 rfl) ?_
        refine lv_dup S.1 S.2.1 dX3_passTick_64 rfl ?_
        refine nv_get S w (C := RX3) (T := TX3) (N := 7) hn_X3_passTick_3 0 rfl rfl 2 (by decide) (List.mem_of_getElem? (i := 1) rfl) (v := vI (f1 2)) rfl dX3_passTick_65 ?_
        refine lv_iconst (v := nI 1) S.1 S.2.1 dX3_passTick_68 (ofInt_nI 1) ?_
        refine nv_iadd S dX3_passTick_69 ?_
        refine nv_put S w (C := RX3) (T := TX3) (N := 7) hn_X3_passTick_3 tyX3_ok nmX3 0 rfl rfl 2 (by decide) (List.mem_of_getElem? (i := 1) rfl) rfl rfl (Nat.le_of_ble_eq_true rfl) (ws' := [(a 0, .inr (2, [vI (f1 0), vI (f1 1), vI ((f1 2) + 1), vI (f1 3), vI ((f1 4) + 1), vI (f1 5), .ref (a 1)]))] ++ plA Z a ++ voiceB Z (a 2) (a 3) (a 4) (Vs 0) ++ voiceB Z (a 5) (a 6) (a 7) (Vs 1) ++ voiceB Z (a 8) (a 9) (a 10) (Vs 2) ++ voiceB Z (a 11) (a 12) (a 13) (Vs 3) ++ songB Z q9 qc qw qo G) rfl dX3_passTick_70 (fun H locs w => ?_)
        refine lv_aload_n S.1 S.2.1 dX3_passTick_73 rfl (lv_at hl 0 rfl) ?_
        refine nv_get S w (C := RX3) (T := TX3) (N := 7) hn_X3_passTick_3 0 rfl rfl 2 (by decide) (List.mem_of_getElem? (i := 1) rfl) (v := vI ((f1 2) + 1)) rfl dX3_passTick_74 ?_
        refine lv_aload_n S.1 S.2.1 dX3_passTick_77 rfl (lv_at hl 0 rfl) ?_
        refine nv_get S w (C := RX3) (T := TX3) (N := 7) hn_X3_passTick_3 0 rfl rfl 3 (by decide) (List.mem_of_getElem? (i := 4) rfl) (v := vI (f1 3)) rfl dX3_passTick_78 ?_
        have hta : f1 2 + 1 ≤ 8 := by have := ht1.2.2.1; omega
        have htb := ht1.2.2.2.2.1
        refine nv_icmp_lt S (by omega) (by omega) (tgt := 89) dX3_passTick_81 (by decide) (fun h_2 => ?_) (fun h_2 => ?_)
        · skip
          exact nv_vret S w hr hlocks (by rw [show tkP G P = t2P G P from if_neg (Nat.not_le.mpr (by unfold t2P; rw [← hf1]; exact h_2))]; unfold t2P; rw [← hVs, ← hf1]; rfl) dX3_passTick_89
        · skip
          refine lv_aload_n S.1 S.2.1 dX3_passTick_84 rfl (lv_at hl 0 rfl) ?_
          refine lv_aload_n S.1 S.2.1 dX3_passTick_85 rfl (lv_at hl 1 rfl) ?_
          have w := w.as (ws' := plB Z a (t2P G P) ++ songB Z q9 qc qw qo G) (by unfold t2P; rw [← hVs, ← hf1]; rfl)
          refine nv_fVv (rest := []) ([]) ([]) (ws' := plB Z a (erP G (t2P G P)) ++ songB Z q9 qc qw qo G) S w hl.1 (c_X3_endRow l D Z a (t2P G P) q9 qc qw qo G hs ht2) (by simp only [List.append_assoc, List.nil_append, List.append_nil]) rfl (by simp only [List.append_assoc, List.nil_append, List.append_nil]) gX3_passTick_X3_endRow rfl hdV_X3_endRow ⟨Nat.le_of_ble_eq_true rfl, Nat.le_of_ble_eq_true rfl⟩ (q0 := 0) rfl rfl rfl rfl (Nat.le_of_ble_eq_true rfl) ⟨Nat.zero_le _, Nat.zero_le _⟩ dX3_passTick_86 (fun H locs w => ?_)
          exact nv_vret S w hr hlocks (by rw [show tkP G P = erP G (t2P G P) from if_pos (by unfold t2P; rw [← hf1]; exact h_2)]) dX3_passTick_89
      · skip
        rcases (show i = 0 ∨ i = 1 ∨ i = 2 ∨ i = 3 by omega) with rfl | rfl | rfl | rfl
        · skip
          refine lv_aload_n S.1 S.2.1 dX3_passTick_36 rfl (lv_at hl 2 rfl) ?_
          have w := w.as (ws' := plO Z (a 0) (a 1) ((hrP (t1P G P) 0).1) ++ plA Z a ++ voiceB Z (a 2) (a 3) (a 4) (((hrP (t1P G P) 0).2) 0) ++ voiceB Z (a 5) (a 6) (a 7) (((hrP (t1P G P) 0).2) 1) ++ voiceB Z (a 8) (a 9) (a 10) (((hrP (t1P G P) 0).2) 2) ++ voiceB Z (a 11) (a 12) (a 13) (((hrP (t1P G P) 0).2) 3) ++ songB Z q9 qc qw qo G) rfl
          refine lv_iload S.1 S.2.1 dX3_passTick_37 (lv_at hl 4 rfl) ?_
          refine nv_aald S w (i := 0) (q := (a 2)) 1 3 rfl rfl (by omega) (by decide) rfl dX3_passTick_39 ?_
          refine lv_astore (lv' := [(5, .ref (a 2)), (0, .ref (a 0)), (1, .ref q9), (2, .ref (a 1)), (3, vI 4), (4, vI 0)]) S.1 S.2.1 dX3_passTick_40 hl (by decide) rfl (fun ls hl => ?_)
          refine lv_aload S.1 S.2.1 dX3_passTick_42 (lv_at hl 0 rfl) ?_
          refine nv_cVv (rest := []) (ws' := plO Z (a 0) (a 1) ((hrP (t1P G P) 0).1) ++ plA Z a ++ voiceB Z (a 2) (a 3) (a 4) (hearV (((hrP (t1P G P) 0).2) 0)) ++ voiceB Z (a 5) (a 6) (a 7) (((hrP (t1P G P) 0).2) 1) ++ voiceB Z (a 8) (a 9) (a 10) (((hrP (t1P G P) 0).2) 2) ++ voiceB Z (a 11) (a 12) (a 13) (((hrP (t1P G P) 0).2) 3) ++ songB Z q9 qc qw qo G) S w hl.1 (c_X6_hear l D Z (a 2) (a 3) (a 4) (((hrP (t1P G P) 0).2) 0) (hrP_VS ht1.2.2.2.2.2 0 (by decide) 0 (by decide)).1) [2, 3, 4] rfl rfl rfl rfl gX3_passTick_X6_hear rfl hdV_X6_hear ⟨Nat.le_of_ble_eq_true rfl, Nat.le_of_ble_eq_true rfl⟩ (q0 := 0) rfl rfl rfl rfl (Nat.le_of_ble_eq_true rfl) ⟨Nat.zero_le _, Nat.zero_le _⟩ dX3_passTick_44 (fun H locs w => ?_)
          have w := w.as (ws' := plB Z a (hrP (t1P G P) 1) ++ songB Z q9 qc qw qo G) (by rw [show hrP (t1P G P) 1 = ((hrP (t1P G P) 0).1, uv (hrP (t1P G P) 0).2 0 (hearV ((hrP (t1P G P) 0).2 0))) from rfl]; exact congrArg (· ++ songB Z q9 qc qw qo G) plB_s0)
          refine lv_iinc (v := nI 1) (lv' := [(4, vI 1), (5, .ref (a 2)), (0, .ref (a 0)), (1, .ref q9), (2, .ref (a 1)), (3, vI 4)]) S.1 S.2.1 dX3_passTick_47 hl (k := 5) rfl (nI_incI 0 1) (by decide) rfl (fun ls hl => ?_)
          refine lv_goto (tgt := 30) S.1 S.2.1 dX3_passTick_50 (by decide) ?_
          exact ih 1 (by omega) (by omega) _ _ _ (lv_sub hl [2, 3, 4, 5, 0] rfl) w
        · skip
          refine lv_aload_n S.1 S.2.1 dX3_passTick_36 rfl (lv_at hl 2 rfl) ?_
          have w := w.as (ws' := plO Z (a 0) (a 1) ((hrP (t1P G P) 1).1) ++ plA Z a ++ voiceB Z (a 2) (a 3) (a 4) (((hrP (t1P G P) 1).2) 0) ++ voiceB Z (a 5) (a 6) (a 7) (((hrP (t1P G P) 1).2) 1) ++ voiceB Z (a 8) (a 9) (a 10) (((hrP (t1P G P) 1).2) 2) ++ voiceB Z (a 11) (a 12) (a 13) (((hrP (t1P G P) 1).2) 3) ++ songB Z q9 qc qw qo G) rfl
          refine lv_iload S.1 S.2.1 dX3_passTick_37 (lv_at hl 4 rfl) ?_
          refine nv_aald S w (i := 1) (q := (a 5)) 1 3 rfl rfl (by omega) (by decide) rfl dX3_passTick_39 ?_
          refine lv_astore (lv' := [(5, .ref (a 5)), (0, .ref (a 0)), (1, .ref q9), (2, .ref (a 1)), (3, vI 4), (4, vI 1)]) S.1 S.2.1 dX3_passTick_40 hl (by decide) rfl (fun ls hl => ?_)
          refine lv_aload S.1 S.2.1 dX3_passTick_42 (lv_at hl 0 rfl) ?_
          refine nv_cVv (rest := []) (ws' := plO Z (a 0) (a 1) ((hrP (t1P G P) 1).1) ++ plA Z a ++ voiceB Z (a 2) (a 3) (a 4) (((hrP (t1P G P) 1).2) 0) ++ voiceB Z (a 5) (a 6) (a 7) (hearV (((hrP (t1P G P) 1).2) 1)) ++ voiceB Z (a 8) (a 9) (a 10) (((hrP (t1P G P) 1).2) 2) ++ voiceB Z (a 11) (a 12) (a 13) (((hrP (t1P G P) 1).2) 3) ++ songB Z q9 qc qw qo G) S w hl.1 (c_X6_hear l D Z (a 5) (a 6) (a 7) (((hrP (t1P G P) 1).2) 1) (hrP_VS ht1.2.2.2.2.2 1 (by decide) 1 (by decide)).1) [5, 6, 7] rfl rfl rfl rfl gX3_passTick_X6_hear rfl hdV_X6_hear ⟨Nat.le_of_ble_eq_true rfl, Nat.le_of_ble_eq_true rfl⟩ (q0 := 0) rfl rfl rfl rfl (Nat.le_of_ble_eq_true rfl) ⟨Nat.zero_le _, Nat.zero_le _⟩ dX3_passTick_44 (fun H locs w => ?_)
          have w := w.as (ws' := plB Z a (hrP (t1P G P) 2) ++ songB Z q9 qc qw qo G) (by rw [show hrP (t1P G P) 2 = ((hrP (t1P G P) 1).1, uv (hrP (t1P G P) 1).2 1 (hearV ((hrP (t1P G P) 1).2 1))) from rfl]; exact congrArg (· ++ songB Z q9 qc qw qo G) plB_s1)
          refine lv_iinc (v := nI 2) (lv' := [(4, vI 2), (5, .ref (a 5)), (0, .ref (a 0)), (1, .ref q9), (2, .ref (a 1)), (3, vI 4)]) S.1 S.2.1 dX3_passTick_47 hl (k := 5) rfl (nI_incI 1 1) (by decide) rfl (fun ls hl => ?_)
          refine lv_goto (tgt := 30) S.1 S.2.1 dX3_passTick_50 (by decide) ?_
          exact ih 2 (by omega) (by omega) _ _ _ (lv_sub hl [2, 3, 4, 5, 0] rfl) w
        · skip
          refine lv_aload_n S.1 S.2.1 dX3_passTick_36 rfl (lv_at hl 2 rfl) ?_
          have w := w.as (ws' := plO Z (a 0) (a 1) ((hrP (t1P G P) 2).1) ++ plA Z a ++ voiceB Z (a 2) (a 3) (a 4) (((hrP (t1P G P) 2).2) 0) ++ voiceB Z (a 5) (a 6) (a 7) (((hrP (t1P G P) 2).2) 1) ++ voiceB Z (a 8) (a 9) (a 10) (((hrP (t1P G P) 2).2) 2) ++ voiceB Z (a 11) (a 12) (a 13) (((hrP (t1P G P) 2).2) 3) ++ songB Z q9 qc qw qo G) rfl
          refine lv_iload S.1 S.2.1 dX3_passTick_37 (lv_at hl 4 rfl) ?_
          refine nv_aald S w (i := 2) (q := (a 8)) 1 3 rfl rfl (by omega) (by decide) rfl dX3_passTick_39 ?_
          refine lv_astore (lv' := [(5, .ref (a 8)), (0, .ref (a 0)), (1, .ref q9), (2, .ref (a 1)), (3, vI 4), (4, vI 2)]) S.1 S.2.1 dX3_passTick_40 hl (by decide) rfl (fun ls hl => ?_)
          refine lv_aload S.1 S.2.1 dX3_passTick_42 (lv_at hl 0 rfl) ?_
          refine nv_cVv (rest := []) (ws' := plO Z (a 0) (a 1) ((hrP (t1P G P) 2).1) ++ plA Z a ++ voiceB Z (a 2) (a 3) (a 4) (((hrP (t1P G P) 2).2) 0) ++ voiceB Z (a 5) (a 6) (a 7) (((hrP (t1P G P) 2).2) 1) ++ voiceB Z (a 8) (a 9) (a 10) (hearV (((hrP (t1P G P) 2).2) 2)) ++ voiceB Z (a 11) (a 12) (a 13) (((hrP (t1P G P) 2).2) 3) ++ songB Z q9 qc qw qo G) S w hl.1 (c_X6_hear l D Z (a 8) (a 9) (a 10) (((hrP (t1P G P) 2).2) 2) (hrP_VS ht1.2.2.2.2.2 2 (by decide) 2 (by decide)).1) [8, 9, 10] rfl rfl rfl rfl gX3_passTick_X6_hear rfl hdV_X6_hear ⟨Nat.le_of_ble_eq_true rfl, Nat.le_of_ble_eq_true rfl⟩ (q0 := 0) rfl rfl rfl rfl (Nat.le_of_ble_eq_true rfl) ⟨Nat.zero_le _, Nat.zero_le _⟩ dX3_passTick_44 (fun H locs w => ?_)
          have w := w.as (ws' := plB Z a (hrP (t1P G P) 3) ++ songB Z q9 qc qw qo G) (by rw [show hrP (t1P G P) 3 = ((hrP (t1P G P) 2).1, uv (hrP (t1P G P) 2).2 2 (hearV ((hrP (t1P G P) 2).2 2))) from rfl]; exact congrArg (· ++ songB Z q9 qc qw qo G) plB_s2)
          refine lv_iinc (v := nI 3) (lv' := [(4, vI 3), (5, .ref (a 8)), (0, .ref (a 0)), (1, .ref q9), (2, .ref (a 1)), (3, vI 4)]) S.1 S.2.1 dX3_passTick_47 hl (k := 5) rfl (nI_incI 2 1) (by decide) rfl (fun ls hl => ?_)
          refine lv_goto (tgt := 30) S.1 S.2.1 dX3_passTick_50 (by decide) ?_
          exact ih 3 (by omega) (by omega) _ _ _ (lv_sub hl [2, 3, 4, 5, 0] rfl) w
        · skip
          refine lv_aload_n S.1 S.2.1 dX3_passTick_36 rfl (lv_at hl 2 rfl) ?_
          have w := w.as (ws' := plO Z (a 0) (a 1) ((hrP (t1P G P) 3).1) ++ plA Z a ++ voiceB Z (a 2) (a 3) (a 4) (((hrP (t1P G P) 3).2) 0) ++ voiceB Z (a 5) (a 6) (a 7) (((hrP (t1P G P) 3).2) 1) ++ voiceB Z (a 8) (a 9) (a 10) (((hrP (t1P G P) 3).2) 2) ++ voiceB Z (a 11) (a 12) (a 13) (((hrP (t1P G P) 3).2) 3) ++ songB Z q9 qc qw qo G) rfl
          refine lv_iload S.1 S.2.1 dX3_passTick_37 (lv_at hl 4 rfl) ?_
          refine nv_aald S w (i := 3) (q := (a 11)) 1 3 rfl rfl (by omega) (by decide) rfl dX3_passTick_39 ?_
          refine lv_astore (lv' := [(5, .ref (a 11)), (0, .ref (a 0)), (1, .ref q9), (2, .ref (a 1)), (3, vI 4), (4, vI 3)]) S.1 S.2.1 dX3_passTick_40 hl (by decide) rfl (fun ls hl => ?_)
          refine lv_aload S.1 S.2.1 dX3_passTick_42 (lv_at hl 0 rfl) ?_
          refine nv_cVv (rest := []) (ws' := plO Z (a 0) (a 1) ((hrP (t1P G P) 3).1) ++ plA Z a ++ voiceB Z (a 2) (a 3) (a 4) (((hrP (t1P G P) 3).2) 0) ++ voiceB Z (a 5) (a 6) (a 7) (((hrP (t1P G P) 3).2) 1) ++ voiceB Z (a 8) (a 9) (a 10) (((hrP (t1P G P) 3).2) 2) ++ voiceB Z (a 11) (a 12) (a 13) (hearV (((hrP (t1P G P) 3).2) 3)) ++ songB Z q9 qc qw qo G) S w hl.1 (c_X6_hear l D Z (a 11) (a 12) (a 13) (((hrP (t1P G P) 3).2) 3) (hrP_VS ht1.2.2.2.2.2 3 (by decide) 3 (by decide)).1) [11, 12, 13] rfl rfl rfl rfl gX3_passTick_X6_hear rfl hdV_X6_hear ⟨Nat.le_of_ble_eq_true rfl, Nat.le_of_ble_eq_true rfl⟩ (q0 := 0) rfl rfl rfl rfl (Nat.le_of_ble_eq_true rfl) ⟨Nat.zero_le _, Nat.zero_le _⟩ dX3_passTick_44 (fun H locs w => ?_)
          have w := w.as (ws' := plB Z a (hrP (t1P G P) 4) ++ songB Z q9 qc qw qo G) (by rw [show hrP (t1P G P) 4 = ((hrP (t1P G P) 3).1, uv (hrP (t1P G P) 3).2 3 (hearV ((hrP (t1P G P) 3).2 3))) from rfl]; exact congrArg (· ++ songB Z q9 qc qw qo G) plB_s3)
          refine lv_iinc (v := nI 4) (lv' := [(4, vI 4), (5, .ref (a 11)), (0, .ref (a 0)), (1, .ref q9), (2, .ref (a 1)), (3, vI 4)]) S.1 S.2.1 dX3_passTick_47 hl (k := 5) rfl (nI_incI 3 1) (by decide) rfl (fun ls hl => ?_)
          refine lv_goto (tgt := 30) S.1 S.2.1 dX3_passTick_50 (by decide) ?_
          exact ih 4 (by omega) (by omega) _ _ _ (lv_sub hl [2, 3, 4, 5, 0] rfl) w
set_option maxRecDepth 100000 in
set_option maxHeartbeats 4000000 in
theorem k_X3_passTick_19 (l : Launch) (D : va_G) (Z : Nat → ClassId) (a : Nat → Nat) (P : PG) (q9 qc qw qo : Nat) (G : SG) (hs : SB G) (hp : PB G P) {p : Program} {e : Env} {s : State} {m : MethodId} {args : Array Value} {below : List Frame} {meth : Method} {c : Code} {A : Nat → Prop} (S : CallFix p m c cX3_passTick 6 s args wsX3_passTick RX3) (hr : meth.sig.returnType = none) (hlocks : meth.locks = false)   : ∀ (H : Heap) (locs : List Loc) (ls : Array Slot) (hl : lv_has ls 6 [(0, .ref (a 0)), (1, .ref q9)]) (w : Wd D Z A s (plB Z a (t1P G P) ++ songB Z q9 qc qw qo G) H locs), W p l e (rmO 4 92) s m args below meth c H locs 0 0 (Qv below D Z A args s (plB Z a (tkP G P) ++ songB Z q9 qc qw qo G)) (F0 m 19 ls []) := by
  intro H locs ls hl w
  have ht1 := t1P_PB hs hp
  have ht2 := t2P_PB hs hp
  obtain ⟨hp0, hp1, hp2, hp3, hp4, hv⟩ := id hp
  refine lv_aload_n S.1 S.2.1 dX3_passTick_19 rfl (lv_at hl 0 rfl) ?_
  refine nv_get S w (C := RX3) (T := TX3) (N := 7) hn_X3_passTick_3 0 rfl rfl 6 (by decide) (List.mem_of_getElem? (i := 2) rfl) (v := .ref (a 1)) rfl dX3_passTick_20 ?_
  refine lv_astore_n (lv' := [(2, .ref (a 1)), (0, .ref (a 0)), (1, .ref q9)]) S.1 S.2.1 dX3_passTick_23 rfl hl (by decide) rfl (fun ls hl => ?_)
  refine lv_aload_n S.1 S.2.1 dX3_passTick_24 rfl (lv_at hl 0 rfl) ?_
  refine nv_alen S w 1 3 rfl rfl (n := 4) rfl dX3_passTick_25 ?_
  refine lv_istore_n (lv' := [(3, vI 4), (2, .ref (a 1)), (0, .ref (a 0)), (1, .ref q9)]) S.1 S.2.1 dX3_passTick_26 rfl hl (by decide) rfl (fun ls hl => ?_)
  refine lv_iconst (v := nI 0) S.1 S.2.1 dX3_passTick_27 (ofInt_nI 0) ?_
  refine lv_istore (lv' := [(4, vI 0), (3, vI 4), (2, .ref (a 1)), (0, .ref (a 0)), (1, .ref q9)]) S.1 S.2.1 dX3_passTick_28 hl (by decide) rfl (fun ls hl => ?_)
  exact k_X3_passTick l D Z a P q9 qc qw qo G hs hp S hr hlocks _ 0 (by omega) (Nat.lt_succ_self _) _ _ _ (lv_sub hl [3, 4, 2, 1, 0] rfl) w
set_option maxRecDepth 100000 in
set_option maxHeartbeats 4000000 in
theorem c_X3_passTick (l : Launch) (D : va_G) (Z : Nat → ClassId) (a : Nat → Nat) (P : PG) (q9 qc qw qo : Nat) (G : SG) (hs : SB G) (hp : PB G P) : Cv l yX3_passTick wsX3_passTick 4 92 D Z [.ref (a 0), .ref q9] (plB Z a P ++ songB Z q9 qc qw qo G)  (plB Z a (tkP G P) ++ songB Z q9 qc qw qo G) := by
  refine ne_v (cc := cX3_passTick) (maxL := 6) (by decide +kernel) rfl (Nat.le_of_ble_eq_true rfl) (fun p e s m args below meth c A ls (S : CallFix p m c cX3_passTick 6 s args wsX3_passTick RX3) hr hlocks hl w => ?_)
  have ht1 := t1P_PB hs hp
  have ht2 := t2P_PB hs hp
  obtain ⟨hp0, hp1, hp2, hp3, hp4, hv⟩ := id hp
  have hl : lv_has ls 6 [(0, .ref (a 0)), (1, .ref q9)] := hl
  refine lv_aload_n S.1 S.2.1 dX3_passTick_0 rfl (lv_at hl 0 rfl) ?_
  refine nv_get S w (C := RX3) (T := TX3) (N := 7) hn_X3_passTick_3 0 rfl rfl 2 (by decide) (List.mem_of_getElem? (i := 1) rfl) (v := vI (P.1 2)) rfl dX3_passTick_1 ?_
  refine nv_if_ne S (by omega) (tgt := 15) dX3_passTick_4 (by decide) (fun h_3 => ?_) (fun h_3 => ?_)
  · skip
    refine lv_aload_n S.1 S.2.1 dX3_passTick_15 rfl (lv_at hl 0 rfl) ?_
    refine nv_fVv (rest := []) ([]) (songB Z q9 qc qw qo G) (ws' := plB Z a (P.1, (goP (P.1 2) P 4).2) ++ songB Z q9 qc qw qo G) S w hl.1 (c_X3_goOn l D Z a P hv (by omega)) (by simp only [List.append_assoc, List.nil_append, List.append_nil]) rfl (by simp only [List.append_assoc, List.nil_append, List.append_nil]) gX3_passTick_X3_goOn rfl hdV_X3_goOn ⟨Nat.le_of_ble_eq_true rfl, Nat.le_of_ble_eq_true rfl⟩ (q0 := 0) rfl rfl rfl rfl (Nat.le_of_ble_eq_true rfl) ⟨Nat.zero_le _, Nat.zero_le _⟩ dX3_passTick_16 (fun H locs w => ?_)
    exact k_X3_passTick_19 l D Z a P q9 qc qw qo G hs hp S hr hlocks   _ _ _ (lv_sub hl [0, 1] rfl) (w.as (by unfold t1P; rw [if_neg h_3, show goP (P.1 2) P 4 = (P.1, (goP (P.1 2) P 4).2) from Prod.ext (goP_1 4) rfl]))
  · skip
    refine lv_aload_n S.1 S.2.1 dX3_passTick_7 rfl (lv_at hl 0 rfl) ?_
    refine lv_aload_n S.1 S.2.1 dX3_passTick_8 rfl (lv_at hl 1 rfl) ?_
    refine nv_fVv (rest := []) ([]) ([]) (ws' := plB Z a (rdP G P 4) ++ songB Z q9 qc qw qo G) S w hl.1 (c_X3_beginRow l D Z a P q9 qc qw qo G hs hp) (by simp only [List.append_assoc, List.nil_append, List.append_nil]) rfl (by simp only [List.append_assoc, List.nil_append, List.append_nil]) gX3_passTick_X3_beginRow rfl hdV_X3_beginRow ⟨Nat.le_of_ble_eq_true rfl, Nat.le_of_ble_eq_true rfl⟩ (q0 := 0) rfl rfl rfl rfl (Nat.le_of_ble_eq_true rfl) ⟨Nat.zero_le _, Nat.zero_le _⟩ dX3_passTick_9 (fun H locs w => ?_)
    refine lv_goto (tgt := 19) S.1 S.2.1 dX3_passTick_12 (by decide) ?_
    exact k_X3_passTick_19 l D Z a P q9 qc qw qo G hs hp S hr hlocks   _ _ _ (lv_sub hl [0, 1] rfl) (w.as (by unfold t1P; rw [if_pos h_3]))
