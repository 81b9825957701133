theorem hdV_X6_goToBeginning : yX6_goToBeginning.cls = RX6 ∧ yX6_goToBeginning.cls ≠ "java/lang/invoke/MethodHandle" ∧ yX6_goToBeginning.cls ≠ "java/lang/invoke/VarHandle" ∧ (parseMethodDescriptor yX6_goToBeginning.desc).map (fun d => d.parameters.length) = some 0 := by decide +kernel
theorem hn_X3_goToBeginning_3 : ∀ w ∈ wsX30, w ∈ wsX3_goToBeginning := by decide +kernel
set_option maxRecDepth 100000 in
set_option maxHeartbeats 4000000 in
theorem k_X3_goToBeginning (l : Launch) (D : va_G) (Z : Nat → ClassId) (a : Nat → Nat) (P : PG) (hv : VS P.2) {p : Program} {e : Env} {s : State} {m : MethodId} {args : Array Value} {below : List Frame} {meth : Method} {c : Code} {A : Nat → Prop} (S : CallFix p m c cX3_goToBeginning 5 s args wsX3_goToBeginning RX3) (hr : meth.sig.returnType = none) (hlocks : meth.locks = false) : ∀ (n9 : Nat), (∀ (i : Nat) (hi4 : i ≤ 4) (hm : 4 - i < n9), ∀ (H : Heap) (locs : List Loc) (ls : Array Slot) (hl : lv_has ls 5 [(0, .ref (a 0)), (1, .ref (a 1)), (2, vI 4), (3, vI i)]) (w : Wd D Z A s (plB Z a ((gbP P).1, gbW P.2 i)) H locs), W p l e (rmO 2 43) s m args below meth c H locs 0 0 (Qv below D Z A args s (plB Z a (gbP P))) (F0 m 40 ls [])) := by
  intro n9
  induction n9 with
  | zero => intro i hi4 hm; exact absurd hm (Nat.not_lt_zero _)
  | succ n9 ih =>
    skip
    · intro i hi4 hm H locs ls hl w
      refine lv_iload_n S.1 S.2.1 dX3_goToBeginning_40 rfl (lv_at hl 3 rfl) ?_
      refine lv_iload_n S.1 S.2.1 dX3_goToBeginning_41 rfl (lv_at hl 2 rfl) ?_
      refine nv_icmp_ge S (by omega) (by omega) (tgt := 61) dX3_goToBeginning_42 (by decide) (fun h_1 => ?_) (fun h_1 => ?_)
      · skip
        exact nv_vret S w hr hlocks (by rw [show i = 4 by omega]; rfl) dX3_goToBeginning_61
      · skip
        rcases (show i = 0 ∨ i = 1 ∨ i = 2 ∨ i = 3 by omega) with rfl | rfl | rfl | rfl
        · skip
          refine lv_aload_n S.1 S.2.1 dX3_goToBeginning_45 rfl (lv_at hl 1 rfl) ?_
          have w := w.as (ws' := plO Z (a 0) (a 1) ((gbP P).1) ++ plA Z a ++ voiceB Z (a 2) (a 3) (a 4) ((gbW P.2 0) 0) ++ voiceB Z (a 5) (a 6) (a 7) ((gbW P.2 0) 1) ++ voiceB Z (a 8) (a 9) (a 10) ((gbW P.2 0) 2) ++ voiceB Z (a 11) (a 12) (a 13) ((gbW P.2 0) 3)) rfl
          refine lv_iload_n S.1 S.2.1 dX3_goToBeginning_46 rfl (lv_at hl 3 rfl) ?_
          refine nv_aald S w (i := 0) (q := (a 2)) 1 3 rfl rfl (by omega) (by decide) rfl dX3_goToBeginning_47 ?_
          refine lv_astore (lv' := [(4, .ref (a 2)), (0, .ref (a 0)), (1, .ref (a 1)), (2, vI 4), (3, vI 0)]) S.1 S.2.1 dX3_goToBeginning_48 hl (by decide) rfl (fun ls hl => ?_)
          refine lv_aload S.1 S.2.1 dX3_goToBeginning_50 (lv_at hl 0 rfl) ?_
          refine nv_cVv (rest := []) (ws' := plO Z (a 0) (a 1) ((gbP P).1) ++ plA Z a ++ voiceB Z (a 2) (a 3) (a 4) (gbV ((gbW P.2 0) 0)) ++ voiceB Z (a 5) (a 6) (a 7) ((gbW P.2 0) 1) ++ voiceB Z (a 8) (a 9) (a 10) ((gbW P.2 0) 2) ++ voiceB Z (a 11) (a 12) (a 13) ((gbW P.2 0) 3)) S w hl.1 (c_X6_goToBeginning l D Z (a 2) (a 3) (a 4) ((gbW P.2 0) 0) (gbW_VS hv 0 (by decide) 0 (by decide)).1) [2, 3, 4] rfl rfl rfl rfl gX3_goToBeginning_X6_goToBeginning rfl hdV_X6_goToBeginning ⟨Nat.le_of_ble_eq_true rfl, Nat.le_of_ble_eq_true rfl⟩ (q0 := 0) rfl rfl rfl rfl (Nat.le_of_ble_eq_true rfl) ⟨Nat.zero_le _, Nat.zero_le _⟩ dX3_goToBeginning_52 (fun H locs w => ?_)
          have w := w.as (ws' := plB Z a ((gbP P).1, gbW P.2 1)) (by exact plB_s0)
          refine lv_iinc (v := nI 1) (lv' := [(3, vI 1), (4, .ref (a 2)), (0, .ref (a 0)), (1, .ref (a 1)), (2, vI 4)]) S.1 S.2.1 dX3_goToBeginning_55 hl (k := 4) rfl (nI_incI 0 1) (by decide) rfl (fun ls hl => ?_)
          refine lv_goto (tgt := 40) S.1 S.2.1 dX3_goToBeginning_58 (by decide) ?_
          exact ih 1 (by omega) (by omega) _ _ _ (lv_sub hl [2, 3, 4, 0] rfl) w
        · skip
          refine lv_aload_n S.1 S.2.1 dX3_goToBeginning_45 rfl (lv_at hl 1 rfl) ?_
          have w := w.as (ws' := plO Z (a 0) (a 1) ((gbP P).1) ++ plA Z a ++ voiceB Z (a 2) (a 3) (a 4) ((gbW P.2 1) 0) ++ voiceB Z (a 5) (a 6) (a 7) ((gbW P.2 1) 1) ++ voiceB Z (a 8) (a 9) (a 10) ((gbW P.2 1) 2) ++ voiceB Z (a 11) (a 12) (a 13) ((gbW P.2 1) 3)) rfl
          refine lv_iload_n S.1 S.2.1 dX3_goToBeginning_46 rfl (lv_at hl 3 rfl) ?_
          refine nv_aald S w (i := 1) (q := (a 5)) 1 3 rfl rfl (by omega) (by decide) rfl dX3_goToBeginning_47 ?_
          refine lv_astore (lv' := [(4, .ref (a 5)), (0, .ref (a 0)), (1, .ref (a 1)), (2, vI 4), (3, vI 1)]) S.1 S.2.1 dX3_goToBeginning_48 hl (by decide) rfl (fun ls hl => ?_)
          refine lv_aload S.1 S.2.1 dX3_goToBeginning_50 (lv_at hl 0 rfl) ?_
          refine nv_cVv (rest := []) (ws' := plO Z (a 0) (a 1) ((gbP P).1) ++ plA Z a ++ voiceB Z (a 2) (a 3) (a 4) ((gbW P.2 1) 0) ++ voiceB Z (a 5) (a 6) (a 7) (gbV ((gbW P.2 1) 1)) ++ voiceB Z (a 8) (a 9) (a 10) ((gbW P.2 1) 2) ++ voiceB Z (a 11) (a 12) (a 13) ((gbW P.2 1) 3)) S w hl.1 (c_X6_goToBeginning l D Z (a 5) (a 6) (a 7) ((gbW P.2 1) 1) (gbW_VS hv 1 (by decide) 1 (by decide)).1) [5, 6, 7] rfl rfl rfl rfl gX3_goToBeginning_X6_goToBeginning rfl hdV_X6_goToBeginning ⟨Nat.le_of_ble_eq_true rfl, Nat.le_of_ble_eq_true rfl⟩ (q0 := 0) rfl rfl rfl rfl (Nat.le_of_ble_eq_true rfl) ⟨Nat.zero_le _, Nat.zero_le _⟩ dX3_goToBeginning_52 (fun H locs w => ?_)
          have w := w.as (ws' := plB Z a ((gbP P).1, gbW P.2 2)) (by exact plB_s1)
          refine lv_iinc (v := nI 2) (lv' := [(3, vI 2), (4, .ref (a 5)), (0, .ref (a 0)), (1, .ref (a 1)), (2, vI 4)]) S.1 S.2.1 dX3_goToBeginning_55 hl (k := 4) rfl (nI_incI 1 1) (by decide) rfl (fun ls hl => ?_)
          refine lv_goto (tgt := 40) S.1 S.2.1 dX3_goToBeginning_58 (by decide) ?_
          exact ih 2 (by omega) (by omega) _ _ _ (lv_sub hl [2, 3, 4, 0] rfl) w
        · skip
          refine lv_aload_n S.1 S.2.1 dX3_goToBeginning_45 rfl (lv_at hl 1 rfl) ?_
          have w := w.as (ws' := plO Z (a 0) (a 1) ((gbP P).1) ++ plA Z a ++ voiceB Z (a 2) (a 3) (a 4) ((gbW P.2 2) 0) ++ voiceB Z (a 5) (a 6) (a 7) ((gbW P.2 2) 1) ++ voiceB Z (a 8) (a 9) (a 10) ((gbW P.2 2) 2) ++ voiceB Z (a 11) (a 12) (a 13) ((gbW P.2 2) 3)) rfl
          refine lv_iload_n S.1 S.2.1 dX3_goToBeginning_46 rfl (lv_at hl 3 rfl) ?_
          refine nv_aald S w (i := 2) (q := (a 8)) 1 3 rfl rfl (by omega) (by decide) rfl dX3_goToBeginning_47 ?_
          refine lv_astore (lv' := [(4, .ref (a 8)), (0, .ref (a 0)), (1, .ref (a 1)), (2, vI 4), (3, vI 2)]) S.1 S.2.1 dX3_goToBeginning_48 hl (by decide) rfl (fun ls hl => ?_)
          refine lv_aload S.1 S.2.1 dX3_goToBeginning_50 (lv_at hl 0 rfl) ?_
          refine nv_cVv (rest := []) (ws' := plO Z (a 0) (a 1) ((gbP P).1) ++ plA Z a ++ voiceB Z (a 2) (a 3) (a 4) ((gbW P.2 2) 0) ++ voiceB Z (a 5) (a 6) (a 7) ((gbW P.2 2) 1) ++ voiceB Z (a 8) (a 9) (a 10) (gbV ((gbW P.2 2) 2)) ++ voiceB Z (a 11) (a 12) (a 13) ((gbW P.2 2) 3)) S w hl.1 (c_X6_goToBeginning l D Z (a 8) (a 9) (a 10) ((gbW P.2 2) 2) (gbW_VS hv 2 (by decide) 2 (by decide)).1) [8, 9, 10] rfl rfl rfl rfl gX3_goToBeginning_X6_goToBeginning rfl hdV_X6_goToBeginning ⟨Nat.le_of_ble_eq_true rfl, Nat.le_of_ble_eq_true rfl⟩ (q0 := 0) rfl rfl rfl rfl (Nat.le_of_ble_eq_true rfl) ⟨Nat.zero_le _, Nat.zero_le _⟩ dX3_goToBeginning_52 (fun H locs w => ?_)
          have w := w.as (ws' := plB Z a ((gbP P).1, gbW P.2 3)) (by exact plB_s2)
          refine lv_iinc (v := nI 3) (lv' := [(3, vI 3), (4, .ref (a 8)), (0, .ref (a 0)), (1, .ref (a 1)), (2, vI 4)]) S.1 S.2.1 dX3_goToBeginning_55 hl (k := 4) rfl (nI_incI 2 1) (by decide) rfl (fun ls hl => ?_)
          refine lv_goto (tgt := 40) S.1 S.2.1 dX3_goToBeginning_58 (by decide) ?_
          exact ih 3 (by omega) (by omega) _ _ _ (lv_sub hl [2, 3, 4, 0] rfl) w
        · skip
          refine lv_aload_n S.1 S.2.1 dX3_goToBeginning_45 rfl (lv_at hl 1 rfl) ?_
          have w := w.as (ws' := plO Z (a 0) (a 1) ((gbP P).1) ++ plA Z a ++ voiceB Z (a 2) (a 3) (a 4) ((gbW P.2 3) 0) ++ voiceB Z (a 5) (a 6) (a 7) ((gbW P.2 3) 1) ++ voiceB Z (a 8) (a 9) (a 10) ((gbW P.2 3) 2) ++ voiceB Z (a 11) (a 12) (a 13) ((gbW P.2 3) 3)) rfl
          refine lv_iload_n S.1 S.2.1 dX3_goToBeginning_46 rfl (lv_at hl 3 rfl) ?_
          refine nv_aald S w (i := 3) (q := (a 11)) 1 3 rfl rfl (by omega) (by decide) rfl dX3_goToBeginning_47 ?_
          refine lv_astore (lv' := [(4, .ref (a 11)), (0, .ref (a 0)), (1, .ref (a 1)), (2, vI 4), (3, vI 3)]) S.1 S.2.1 dX3_goToBeginning_48 hl (by decide) rfl (fun ls hl => ?_)
          refine lv_aload S.1 S.2.1 dX3_goToBeginning_50 (lv_at hl 0 rfl) ?_
          refine nv_cVv (rest := []) (ws' := plO Z (a 0) (a 1) ((gbP P).1) ++ plA Z a ++ voiceB Z (a 2) (a 3) (a 4) ((gbW P.2 3) 0) ++ voiceB Z (a 5) (a 6) (a 7) ((gbW P.2 3) 1) ++ voiceB Z (a 8) (a 9) (a 10) ((gbW P.2 3) 2) ++ voiceB Z (a 11) (a 12) (a 13) (gbV ((gbW P.2 3) 3))) S w hl.1 (c_X6_goToBeginning l D Z (a 11) (a 12) (a 13) ((gbW P.2 3) 3) (gbW_VS hv 3 (by decide) 3 (by decide)).1) [11, 12, 13] rfl rfl rfl rfl gX3_goToBeginning_X6_goToBeginning rfl hdV_X6_goToBeginning ⟨Nat.le_of_ble_eq_true rfl, Nat.le_of_ble_eq_true rfl⟩ (q0 := 0) rfl rfl rfl rfl (Nat.le_of_ble_eq_true rfl) ⟨Nat.zero_le _, Nat.zero_le _⟩ dX3_goToBeginning_52 (fun H locs w => ?_)
          have w := w.as (ws' := plB Z a ((gbP P).1, gbW P.2 4)) (by exact plB_s3)
          refine lv_iinc (v := nI 4) (lv' := [(3, vI 4), (4, .ref (a 11)), (0, .ref (a 0)), (1, .ref (a 1)), (2, vI 4)]) S.1 S.2.1 dX3_goToBeginning_55 hl (k := 4) rfl (nI_incI 3 1) (by decide) rfl (fun ls hl => ?_)
          refine lv_goto (tgt := 40) S.1 S.2.1 dX3_goToBeginning_58 (by decide) ?_
          exact ih 4 (by omega) (by omega) _ _ _ (lv_sub hl [2, 3, 4, 0] rfl) w
set_option maxRecDepth 100000 in
set_option maxHeartbeats 4000000 in
theorem c_X3_goToBeginning (l : Launch) (D : va_G) (Z : Nat → ClassId) (a : Nat → Nat) (P : PG) (hv : VS P.2) : Cv l yX3_goToBeginning wsX3_goToBeginning 2 43 D Z [.ref (a 0)] (plB Z a P)  (plB Z a (gbP P)) := by
  refine ne_v (cc := cX3_goToBeginning) (maxL := 5) (by decide +kernel) rfl (Nat.le_of_ble_eq_true rfl) (fun p e s m args below meth c A ls (S : CallFix p m c cX3_goToBeginning 5 s args wsX3_goToBeginning RX3) hr hlocks hl w => ?_)
  have hl : lv_has ls 5 [(0, .ref (a 0))] := hl
  have w := w.as (ws' := plO Z (a 0) (a 1) P.1 ++ plA Z a ++ voiceB Z (a 2) (a 3) (a 4) (P.2 0) ++ voiceB Z (a 5) (a 6) (a 7) (P.2 1) ++ voiceB Z (a 8) (a 9) (a 10) (P.2 2) ++ voiceB Z (a 11) (a 12) (a 13) (P.2 3)) rfl
  refine lv_aload_n S.1 S.2.1 dX3_goToBeginning_0 rfl (lv_at hl 0 rfl) ?_
  refine lv_iconst (v := nI 0) S.1 S.2.1 dX3_goToBeginning_1 (ofInt_nI 0) ?_
  refine nv_put S w (C := RX3) (T := TX3) (N := 7) hn_X3_goToBeginning_3 tyX3_ok nmX3 0 rfl rfl 0 (by decide) (List.mem_of_getElem? (i := 1) rfl) rfl rfl (Nat.le_of_ble_eq_true rfl) (ws' := [(a 0, .inr (2, [vI 0, vI (P.1 1), vI (P.1 2), vI (P.1 3), vI (P.1 4), vI (P.1 5), .ref (a 1)]))] ++ plA Z a ++ voiceB Z (a 2) (a 3) (a 4) (P.2 0) ++ voiceB Z (a 5) (a 6) (a 7) (P.2 1) ++ voiceB Z (a 8) (a 9) (a 10) (P.2 2) ++ voiceB Z (a 11) (a 12) (a 13) (P.2 3)) rfl dX3_goToBeginning_2 (fun H locs w => ?_)
  refine lv_aload_n S.1 S.2.1 dX3_goToBeginning_5 rfl (lv_at hl 0 rfl) ?_
  refine lv_iconst (v := nI 0) S.1 S.2.1 dX3_goToBeginning_6 (ofInt_nI 0) ?_
  refine nv_put S w (C := RX3) (T := TX3) (N := 7) hn_X3_goToBeginning_3 tyX3_ok nmX3 0 rfl rfl 1 (by decide) (List.mem_of_getElem? (i := 2) rfl) rfl rfl (Nat.le_of_ble_eq_true rfl) (ws' := [(a 0, .inr (2, [vI 0, vI 0, vI (P.1 2), vI (P.1 3), vI (P.1 4), vI (P.1 5), .ref (a 1)]))] ++ plA Z a ++ voiceB Z (a 2) (a 3) (a 4) (P.2 0) ++ voiceB Z (a 5) (a 6) (a 7) (P.2 1) ++ voiceB Z (a 8) (a 9) (a 10) (P.2 2) ++ voiceB Z (a 11) (a 12) (a 13) (P.2 3)) rfl dX3_goToBeginning_7 (fun H locs w => ?_)
  refine lv_aload_n S.1 S.2.1 dX3_goToBeginning_10 rfl (lv_at hl 0 rfl) ?_
  refine lv_iconst (v := nI 0) S.1 S.2.1 dX3_goToBeginning_11 (ofInt_nI 0) ?_
  refine nv_put S w (C := RX3) (T := TX3) (N := 7) hn_X3_goToBeginning_3 tyX3_ok nmX3 0 rfl rfl 2 (by decide) (List.mem_of_getElem? (i := 3) rfl) rfl rfl (Nat.le_of_ble_eq_true rfl) (ws' := [(a 0, .inr (2, [vI 0, vI 0, vI 0, vI (P.1 3), vI (P.1 4), vI (P.1 5), .ref (a 1)]))] ++ plA Z a ++ voiceB Z (a 2) (a 3) (a 4) (P.2 0) ++ voiceB Z (a 5) (a 6) (a 7) (P.2 1) ++ voiceB Z (a 8) (a 9) (a 10) (P.2 2) ++ voiceB Z (a 11) (a 12) (a 13) (P.2 3)) rfl dX3_goToBeginning_12 (fun H locs w => ?_)
  refine lv_aload_n S.1 S.2.1 dX3_goToBeginning_15 rfl (lv_at hl 0 rfl) ?_
  refine lv_iconst (v := nI 3) S.1 S.2.1 dX3_goToBeginning_16 (ofInt_nI 3) ?_
  refine nv_put S w (C := RX3) (T := TX3) (N := 7) hn_X3_goToBeginning_3 tyX3_ok nmX3 0 rfl rfl 3 (by decide) (List.mem_of_getElem? (i := 4) rfl) rfl rfl (Nat.le_of_ble_eq_true rfl) (ws' := [(a 0, .inr (2, [vI 0, vI 0, vI 0, vI 3, vI (P.1 4), vI (P.1 5), .ref (a 1)]))] ++ plA Z a ++ voiceB Z (a 2) (a 3) (a 4) (P.2 0) ++ voiceB Z (a 5) (a 6) (a 7) (P.2 1) ++ voiceB Z (a 8) (a 9) (a 10) (P.2 2) ++ voiceB Z (a 11) (a 12) (a 13) (P.2 3)) rfl dX3_goToBeginning_17 (fun H locs w => ?_)
  refine lv_aload_n S.1 S.2.1 dX3_goToBeginning_20 rfl (lv_at hl 0 rfl) ?_
  refine lv_iconst (v := nI 0) S.1 S.2.1 dX3_goToBeginning_21 (ofInt_nI 0) ?_
  refine nv_put S w (C := RX3) (T := TX3) (N := 7) hn_X3_goToBeginning_3 tyX3_ok nmX3 0 rfl rfl 4 (by decide) (List.mem_of_getElem? (i := 5) rfl) rfl rfl (Nat.le_of_ble_eq_true rfl) (ws' := [(a 0, .inr (2, [vI 0, vI 0, vI 0, vI 3, vI 0, vI (P.1 5), .ref (a 1)]))] ++ plA Z a ++ voiceB Z (a 2) (a 3) (a 4) (P.2 0) ++ voiceB Z (a 5) (a 6) (a 7) (P.2 1) ++ voiceB Z (a 8) (a 9) (a 10) (P.2 2) ++ voiceB Z (a 11) (a 12) (a 13) (P.2 3)) rfl dX3_goToBeginning_22 (fun H locs w => ?_)
  refine lv_aload_n S.1 S.2.1 dX3_goToBeginning_25 rfl (lv_at hl 0 rfl) ?_
  refine lv_iconst (v := nI 0) S.1 S.2.1 dX3_goToBeginning_26 (ofInt_nI 0) ?_
  refine nv_put S w (C := RX3) (T := TX3) (N := 7) hn_X3_goToBeginning_3 tyX3_ok nmX3 0 rfl rfl 5 (by decide) (List.mem_of_getElem? (i := 6) rfl) rfl rfl (Nat.le_of_ble_eq_true rfl) (ws' := [(a 0, .inr (2, [vI 0, vI 0, vI 0, vI 3, vI 0, vI 0, .ref (a 1)]))] ++ plA Z a ++ voiceB Z (a 2) (a 3) (a 4) (P.2 0) ++ voiceB Z (a 5) (a 6) (a 7) (P.2 1) ++ voiceB Z (a 8) (a 9) (a 10) (P.2 2) ++ voiceB Z (a 11) (a 12) (a 13) (P.2 3)) rfl dX3_goToBeginning_27 (fun H locs w => ?_)
  have w := w.as (ws' := plB Z a ((gbP P).1, gbW P.2 0)) (rfl)
  refine lv_aload_n S.1 S.2.1 dX3_goToBeginning_30 rfl (lv_at hl 0 rfl) ?_
  refine nv_get S w (C := RX3) (T := TX3) (N := 7) hn_X3_goToBeginning_3 0 rfl rfl 6 (by decide) (List.mem_of_getElem? (i := 7) rfl) (v := .ref (a 1)) rfl dX3_goToBeginning_31 ?_
  refine lv_astore_n (lv' := [(1, .ref (a 1)), (0, .ref (a 0))]) S.1 S.2.1 dX3_goToBeginning_34 rfl hl (by decide) rfl (fun ls hl => ?_)
  refine lv_aload_n S.1 S.2.1 dX3_goToBeginning_35 rfl (lv_at hl 0 rfl) ?_
  refine nv_alen S w 1 3 rfl rfl (n := 4) rfl dX3_goToBeginning_36 ?_
  refine lv_istore_n (lv' := [(2, vI 4), (1, .ref (a 1)), (0, .ref (a 0))]) S.1 S.2.1 dX3_goToBeginning_37 rfl hl (by decide) rfl (fun ls hl => ?_)
  refine lv_iconst (v := nI 0) S.1 S.2.1 dX3_goToBeginning_38 (ofInt_nI 0) ?_
  refine lv_istore_n (lv' := [(3, vI 0), (2, vI 4), (1, .ref (a 1)), (0, .ref (a 0))]) S.1 S.2.1 dX3_goToBeginning_39 rfl hl (by decide) rfl (fun ls hl => ?_)
  exact k_X3_goToBeginning l D Z a P hv S hr hlocks _ 0 (by omega) (Nat.lt_succ_self _) _ _ _ (lv_sub hl [3, 2, 1, 0] rfl) w
