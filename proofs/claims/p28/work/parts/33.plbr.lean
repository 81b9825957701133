theorem hn_X3_beginRow_3 : ∀ w ∈ wsX30, w ∈ wsX3_beginRow := by decide +kernel
theorem hdV_X3_cellFor : yX3_cellFor.cls = RX3 ∧ yX3_cellFor.cls ≠ "java/lang/invoke/MethodHandle" ∧ yX3_cellFor.cls ≠ "java/lang/invoke/VarHandle" ∧ (parseMethodDescriptor yX3_cellFor.desc).map (fun d => d.parameters.length) = some 3 := by decide +kernel
theorem hdS_X0_isSpeed : yX0_isSpeed.cls ≠ "java/lang/invoke/MethodHandle" ∧ yX0_isSpeed.cls ≠ "java/lang/invoke/VarHandle" ∧ (parseMethodDescriptor yX0_isSpeed.desc).map (fun d => d.parameters.length) = some 1 := by decide +kernel
theorem hdV_X6_beginRow : yX6_beginRow.cls = RX6 ∧ yX6_beginRow.cls ≠ "java/lang/invoke/MethodHandle" ∧ yX6_beginRow.cls ≠ "java/lang/invoke/VarHandle" ∧ (parseMethodDescriptor yX6_beginRow.desc).map (fun d => d.parameters.length) = some 1 := by decide +kernel
set_option maxRecDepth 100000 in
set_option maxHeartbeats 4000000 in
theorem k_X3_beginRow (l : Launch) (D : va_G) (Z : Nat → ClassId) (a : Nat → Nat) (P : PG) (q9 qc qw qo : Nat) (G : SG) (hs : SB G) (hp : PB G P) {p : Program} {e : Env} {s : State} {m : MethodId} {args : Array Value} {below : List Frame} {meth : Method} {c : Code} {A : Nat → Prop} (S : CallFix p m c cX3_beginRow 5 s args wsX3_beginRow RX3) (hr : meth.sig.returnType = none) (hlocks : meth.locks = false) : ∀ (n9 : Nat), (∀ (i : Nat) (hi4 : i ≤ 4) (hm : 4 - i < n9), ∀ (H : Heap) (locs : List Loc) (ls : Array Slot) (hl : lv_has ls 5 [(0, .ref (a 0)), (1, .ref q9), (2, vI i)]) (w : Wd D Z A s (plB Z a (rdP G P i) ++ songB Z q9 qc qw qo G) H locs), W p l e (rmO 3 68) s m args below meth c H locs 0 0 (Qv below D Z A args s (plB Z a (rdP G P 4) ++ songB Z q9 qc qw qo G)) (F0 m 2 ls [])) := by
  intro n9
  induction n9 with
  | zero => intro i hi4 hm; exact absurd hm (Nat.not_lt_zero _)
  | succ n9 ih =>
    skip
    · intro i hi4 hm H locs ls hl w
      refine lv_iload_n S.1 S.2.1 dX3_beginRow_2 rfl (lv_at hl 2 rfl) ?_
      refine lv_aload_n S.1 S.2.1 dX3_beginRow_3 rfl (lv_at hl 0 rfl) ?_
      refine nv_get S w (C := RX3) (T := TX3) (N := 7) hn_X3_beginRow_3 0 rfl rfl 6 (by decide) (List.mem_of_getElem? (i := 1) rfl) (v := .ref (a 1)) rfl dX3_beginRow_4 ?_
      refine nv_alen S w 1 3 rfl rfl (n := 4) rfl dX3_beginRow_7 ?_
      refine nv_icmp_ge S (by omega) (by omega) (tgt := 56) dX3_beginRow_8 (by decide) (fun h_1 => ?_) (fun h_1 => ?_)
      · skip
        exact nv_vret S w hr hlocks (by rw [show i = 4 by omega]) dX3_beginRow_56
      · skip
        rcases (show i = 0 ∨ i = 1 ∨ i = 2 ∨ i = 3 by omega) with rfl | rfl | rfl | rfl
        · skip
          refine lv_aload_n S.1 S.2.1 dX3_beginRow_11 rfl (lv_at hl 0 rfl) ?_
          have w := w.as (ws' := plO Z (a 0) (a 1) ((rdP G P 0).1) ++ plA Z a ++ voiceB Z (a 2) (a 3) (a 4) (((rdP G P 0).2) 0) ++ voiceB Z (a 5) (a 6) (a 7) (((rdP G P 0).2) 1) ++ voiceB Z (a 8) (a 9) (a 10) (((rdP G P 0).2) 2) ++ voiceB Z (a 11) (a 12) (a 13) (((rdP G P 0).2) 3) ++ songB Z q9 qc qw qo G) rfl
          have hpi := rdP_PB hs hp 0 (by decide)
          have hrb := rdc_rb hs (hpi.2.2.2.2.2 0 (by decide)) hpi.1 hpi.2.1 (show 0 < 4 by decide)
          refine nv_get S w (C := RX3) (T := TX3) (N := 7) hn_X3_beginRow_3 0 rfl rfl 6 (by decide) (List.mem_of_getElem? (i := 1) rfl) (v := .ref (a 1)) rfl dX3_beginRow_12 ?_
          refine lv_iload_n S.1 S.2.1 dX3_beginRow_15 rfl (lv_at hl 2 rfl) ?_
          refine nv_aald S w (i := 0) (q := (a 2)) 1 3 rfl rfl (by omega) (by decide) rfl dX3_beginRow_16 ?_
          refine lv_astore_n (lv' := [(3, .ref (a 2)), (0, .ref (a 0)), (1, .ref q9), (2, vI 0)]) S.1 S.2.1 dX3_beginRow_17 rfl hl (by decide) rfl (fun ls hl => ?_)
          refine lv_aload_n S.1 S.2.1 dX3_beginRow_18 rfl (lv_at hl 1 rfl) ?_
          refine lv_aload_n S.1 S.2.1 dX3_beginRow_19 rfl (lv_at hl 2 rfl) ?_
          refine lv_aload_n S.1 S.2.1 dX3_beginRow_20 rfl (lv_at hl 0 rfl) ?_
          refine lv_iload_n S.1 S.2.1 dX3_beginRow_21 rfl (lv_at hl 3 rfl) ?_
          refine nv_rVi (rest := []) S w hl.1 (c_X3_cellFor l D Z (a 0) (a 1) ((rdP G P 0).1) q9 qc qw qo G (a 2) (a 3) (a 4) (((rdP G P 0).2) 0) 0 hs (hpi.2.2.2.2.2 0 (by decide)).1 (hpi.2.2.2.2.2 0 (by decide)).2 (by decide) hpi.1 hpi.2.1) [0, 14, 15, 16, 17, 2, 3, 4] rfl rfl gX3_beginRow_X3_cellFor rfl hdV_X3_cellFor ⟨Nat.le_of_ble_eq_true rfl, Nat.le_of_ble_eq_true rfl⟩ (q0 := 0) rfl rfl rfl rfl (Nat.le_of_ble_eq_true rfl) ⟨Nat.zero_le _, Nat.zero_le _⟩ dX3_beginRow_22 (fun H locs w => ?_)
          refine lv_istore (lv' := [(4, vI (pk (rdc G ((rdP G P 0).1) (((rdP G P 0).2) 0) 0))), (3, .ref (a 2)), (0, .ref (a 0)), (1, .ref q9), (2, vI 0)]) S.1 S.2.1 dX3_beginRow_25 hl (by decide) rfl (fun ls hl => ?_)
          refine lv_iload S.1 S.2.1 dX3_beginRow_27 (lv_at hl 0 rfl) ?_
          refine nv_pSi (rest := []) S w hl.1 (c_X0_isSpeed l D Z (rdc G ((rdP G P 0).1) (((rdP G P 0).2) 0) 0) hrb) gX3_beginRow_X0_isSpeed rfl hdS_X0_isSpeed ⟨Nat.le_of_ble_eq_true rfl, Nat.le_of_ble_eq_true rfl⟩ rfl rfl (Nat.le_of_ble_eq_true rfl) ⟨Nat.zero_le _, Nat.zero_le _⟩ dX3_beginRow_29 (fun H locs w => ?_)
          refine nv_if_eqB S (tgt := 44) dX3_beginRow_32 (by decide) (fun h_2 => ?_) (fun h_2 => ?_)
          · skip
            refine lv_aload_n S.1 S.2.1 dX3_beginRow_44 rfl (lv_at hl 1 rfl) ?_
            refine lv_iload S.1 S.2.1 dX3_beginRow_45 (lv_at hl 0 rfl) ?_
            refine nv_cVv (rest := []) (ws' := plO Z (a 0) (a 1) ((rdP G P 0).1) ++ plA Z a ++ voiceB Z (a 2) (a 3) (a 4) (brV (((rdP G P 0).2) 0) (rdc G ((rdP G P 0).1) (((rdP G P 0).2) 0) 0)) ++ voiceB Z (a 5) (a 6) (a 7) (((rdP G P 0).2) 1) ++ voiceB Z (a 8) (a 9) (a 10) (((rdP G P 0).2) 2) ++ voiceB Z (a 11) (a 12) (a 13) (((rdP G P 0).2) 3) ++ songB Z q9 qc qw qo G) S w hl.1 (c_X6_beginRow l D Z (a 2) (a 3) (a 4) (((rdP G P 0).2) 0) (rdc G ((rdP G P 0).1) (((rdP G P 0).2) 0) 0) (hpi.2.2.2.2.2 0 (by decide)).1 hrb) [2, 3, 4] rfl rfl rfl rfl gX3_beginRow_X6_beginRow rfl hdV_X6_beginRow ⟨Nat.le_of_ble_eq_true rfl, Nat.le_of_ble_eq_true rfl⟩ (q0 := 0) rfl rfl rfl rfl (Nat.le_of_ble_eq_true rfl) ⟨Nat.zero_le _, Nat.zero_le _⟩ dX3_beginRow_47 (fun H locs w => ?_)
            have w := w.as (ws' := plB Z a (rdP G P 1) ++ songB Z q9 qc qw qo G) (by show _ = plB Z a (rdS G 0 (rdP G P 0)) ++ songB Z q9 qc qw qo G; unfold rdS; rw [if_neg h_2]; rfl)
            refine lv_iinc (v := nI 1) (lv' := [(2, vI 1), (4, vI (pk (rdc G ((rdP G P 0).1) (((rdP G P 0).2) 0) 0))), (3, .ref (a 2)), (0, .ref (a 0)), (1, .ref q9)]) S.1 S.2.1 dX3_beginRow_50 hl (k := 4) rfl (nI_incI 0 1) (by decide) rfl (fun ls hl => ?_)
            refine lv_goto (tgt := 2) S.1 S.2.1 dX3_beginRow_53 (by decide) ?_
            exact ih 1 (by omega) (by omega) _ _ _ (lv_sub hl [3, 4, 0] rfl) w
          · skip
            refine lv_aload_n S.1 S.2.1 dX3_beginRow_35 rfl (lv_at hl 2 rfl) ?_
            refine lv_iload S.1 S.2.1 dX3_beginRow_36 (lv_at hl 0 rfl) ?_
            refine nv_pSi (rest := [.ref (a 0)]) S w hl.1 (c_X0_numberOf l D Z (rdc G ((rdP G P 0).1) (((rdP G P 0).2) 0) 0) hrb) gX3_beginRow_X0_numberOf rfl hdS_X0_numberOf ⟨Nat.le_of_ble_eq_true rfl, Nat.le_of_ble_eq_true rfl⟩ rfl rfl (Nat.le_of_ble_eq_true rfl) ⟨Nat.zero_le _, Nat.zero_le _⟩ dX3_beginRow_38 (fun H locs w => ?_)
            refine nv_put S w (C := RX3) (T := TX3) (N := 7) hn_X3_beginRow_3 tyX3_ok nmX3 0 rfl rfl 3 (by decide) (List.mem_of_getElem? (i := 2) rfl) rfl rfl (Nat.le_of_ble_eq_true rfl) (ws' := [(a 0, .inr (2, [vI (((rdP G P 0).1) 0), vI (((rdP G P 0).1) 1), vI (((rdP G P 0).1) 2), vI ((rdc G ((rdP G P 0).1) (((rdP G P 0).2) 0) 0) 3), vI (((rdP G P 0).1) 4), vI (((rdP G P 0).1) 5), .ref (a 1)]))] ++ plA Z a ++ voiceB Z (a 2) (a 3) (a 4) (((rdP G P 0).2) 0) ++ voiceB Z (a 5) (a 6) (a 7) (((rdP G P 0).2) 1) ++ voiceB Z (a 8) (a 9) (a 10) (((rdP G P 0).2) 2) ++ voiceB Z (a 11) (a 12) (a 13) (((rdP G P 0).2) 3) ++ songB Z q9 qc qw qo G) rfl dX3_beginRow_41 (fun H locs w => ?_)
            refine lv_aload_n S.1 S.2.1 dX3_beginRow_44 rfl (lv_at hl 1 rfl) ?_
            refine lv_iload S.1 S.2.1 dX3_beginRow_45 (lv_at hl 0 rfl) ?_
            refine nv_cVv (rest := []) (ws' := [(a 0, .inr (2, [vI (((rdP G P 0).1) 0), vI (((rdP G P 0).1) 1), vI (((rdP G P 0).1) 2), vI ((rdc G ((rdP G P 0).1) (((rdP G P 0).2) 0) 0) 3), vI (((rdP G P 0).1) 4), vI (((rdP G P 0).1) 5), .ref (a 1)]))] ++ plA Z a ++ voiceB Z (a 2) (a 3) (a 4) (brV (((rdP G P 0).2) 0) (rdc G ((rdP G P 0).1) (((rdP G P 0).2) 0) 0)) ++ voiceB Z (a 5) (a 6) (a 7) (((rdP G P 0).2) 1) ++ voiceB Z (a 8) (a 9) (a 10) (((rdP G P 0).2) 2) ++ voiceB Z (a 11) (a 12) (a 13) (((rdP G P 0).2) 3) ++ songB Z q9 qc qw qo G) S w hl.1 (c_X6_beginRow l D Z (a 2) (a 3) (a 4) (((rdP G P 0).2) 0) (rdc G ((rdP G P 0).1) (((rdP G P 0).2) 0) 0) (hpi.2.2.2.2.2 0 (by decide)).1 hrb) [2, 3, 4] rfl rfl rfl rfl gX3_beginRow_X6_beginRow rfl hdV_X6_beginRow ⟨Nat.le_of_ble_eq_true rfl, Nat.le_of_ble_eq_true rfl⟩ (q0 := 0) rfl rfl rfl rfl (Nat.le_of_ble_eq_true rfl) ⟨Nat.zero_le _, Nat.zero_le _⟩ dX3_beginRow_47 (fun H locs w => ?_)
            have w := w.as (ws' := plB Z a (rdP G P 1) ++ songB Z q9 qc qw qo G) (by show _ = plB Z a (rdS G 0 (rdP G P 0)) ++ songB Z q9 qc qw qo G; unfold rdS; rw [if_pos h_2]; rfl)
            refine lv_iinc (v := nI 1) (lv' := [(2, vI 1), (4, vI (pk (rdc G ((rdP G P 0).1) (((rdP G P 0).2) 0) 0))), (3, .ref (a 2)), (0, .ref (a 0)), (1, .ref q9)]) S.1 S.2.1 dX3_beginRow_50 hl (k := 4) rfl (nI_incI 0 1) (by decide) rfl (fun ls hl => ?_)
            refine lv_goto (tgt := 2) S.1 S.2.1 dX3_beginRow_53 (by decide) ?_
            exact ih 1 (by omega) (by omega) _ _ _ (lv_sub hl [3, 4, 0] rfl) w
        · skip
          refine lv_aload_n S.1 S.2.1 dX3_beginRow_11 rfl (lv_at hl 0 rfl) ?_
          have w := w.as (ws' := plO Z (a 0) (a 1) ((rdP G P 1).1) ++ plA Z a ++ voiceB Z (a 2) (a 3) (a 4) (((rdP G P 1).2) 0) ++ voiceB Z (a 5) (a 6) (a 7) (((rdP G P 1).2) 1) ++ voiceB Z (a 8) (a 9) (a 10) (((rdP G P 1).2) 2) ++ voiceB Z (a 11) (a 12) (a 13) (((rdP G P 1).2) 3) ++ songB Z q9 qc qw qo G) rfl
          have hpi := rdP_PB hs hp 1 (by decide)
          have hrb := rdc_rb hs (hpi.2.2.2.2.2 1 (by decide)) hpi.1 hpi.2.1 (show 1 < 4 by decide)
          refine nv_get S w (C := RX3) (T := TX3) (N := 7) hn_X3_beginRow_3 0 rfl rfl 6 (by decide) (List.mem_of_getElem? (i := 1) rfl) (v := .ref (a 1)) rfl dX3_beginRow_12 ?_
          refine lv_iload_n S.1 S.2.1 dX3_beginRow_15 rfl (lv_at hl 2 rfl) ?_
          refine nv_aald S w (i := 1) (q := (a 5)) 1 3 rfl rfl (by omega) (by decide) rfl dX3_beginRow_16 ?_
          refine lv_astore_n (lv' := [(3, .ref (a 5)), (0, .ref (a 0)), (1, .ref q9), (2, vI 1)]) S.1 S.2.1 dX3_beginRow_17 rfl hl (by decide) rfl (fun ls hl => ?_)
          refine lv_aload_n S.1 S.2.1 dX3_beginRow_18 rfl (lv_at hl 1 rfl) ?_
          refine lv_aload_n S.1 S.2.1 dX3_beginRow_19 rfl (lv_at hl 2 rfl) ?_
          refine lv_aload_n S.1 S.2.1 dX3_beginRow_20 rfl (lv_at hl 0 rfl) ?_
          refine lv_iload_n S.1 S.2.1 dX3_beginRow_21 rfl (lv_at hl 3 rfl) ?_
          refine nv_rVi (rest := []) S w hl.1 (c_X3_cellFor l D Z (a 0) (a 1) ((rdP G P 1).1) q9 qc qw qo G (a 5) (a 6) (a 7) (((rdP G P 1).2) 1) 1 hs (hpi.2.2.2.2.2 1 (by decide)).1 (hpi.2.2.2.2.2 1 (by decide)).2 (by decide) hpi.1 hpi.2.1) [0, 14, 15, 16, 17, 5, 6, 7] rfl rfl gX3_beginRow_X3_cellFor rfl hdV_X3_cellFor ⟨Nat.le_of_ble_eq_true rfl, Nat.le_of_ble_eq_true rfl⟩ (q0 := 0) rfl rfl rfl rfl (Nat.le_of_ble_eq_true rfl) ⟨Nat.zero_le _, Nat.zero_le _⟩ dX3_beginRow_22 (fun H locs w => ?_)
          refine lv_istore (lv' := [(4, vI (pk (rdc G ((rdP G P 1).1) (((rdP G P 1).2) 1) 1))), (3, .ref (a 5)), (0, .ref (a 0)), (1, .ref q9), (2, vI 1)]) S.1 S.2.1 dX3_beginRow_25 hl (by decide) rfl (fun ls hl => ?_)
          refine lv_iload S.1 S.2.1 dX3_beginRow_27 (lv_at hl 0 rfl) ?_
          refine nv_pSi (rest := []) S w hl.1 (c_X0_isSpeed l D Z (rdc G ((rdP G P 1).1) (((rdP G P 1).2) 1) 1) hrb) gX3_beginRow_X0_isSpeed rfl hdS_X0_isSpeed ⟨Nat.le_of_ble_eq_true rfl, Nat.le_of_ble_eq_true rfl⟩ rfl rfl (Nat.le_of_ble_eq_true rfl) ⟨Nat.zero_le _, Nat.zero_le _⟩ dX3_beginRow_29 (fun H locs w => ?_)
          refine nv_if_eqB S (tgt := 44) dX3_beginRow_32 (by decide) (fun h_3 => ?_) (fun h_3 => ?_)
          · skip
            refine lv_aload_n S.1 S.2.1 dX3_beginRow_44 rfl (lv_at hl 1 rfl) ?_
            refine lv_iload S.1 S.2.1 dX3_beginRow_45 (lv_at hl 0 rfl) ?_
            refine nv_cVv (rest := []) (ws' := plO Z (a 0) (a 1) ((rdP G P 1).1) ++ plA Z a ++ voiceB Z (a 2) (a 3) (a 4) (((rdP G P 1).2) 0) ++ voiceB Z (a 5) (a 6) (a 7) (brV (((rdP G P 1).2) 1) (rdc G ((rdP G P 1).1) (((rdP G P 1).2) 1) 1)) ++ voiceB Z (a 8) (a 9) (a 10) (((rdP G P 1).2) 2) ++ voiceB Z (a 11) (a 12) (a 13) (((rdP G P 1).2) 3) ++ songB Z q9 qc qw qo G) S w hl.1 (c_X6_beginRow l D Z (a 5) (a 6) (a 7) (((rdP G P 1).2) 1) (rdc G ((rdP G P 1).1) (((rdP G P 1).2) 1) 1) (hpi.2.2.2.2.2 1 (by decide)).1 hrb) [5, 6, 7] rfl rfl rfl rfl gX3_beginRow_X6_beginRow rfl hdV_X6_beginRow ⟨Nat.le_of_ble_eq_true rfl, Nat.le_of_ble_eq_true rfl⟩ (q0 := 0) rfl rfl rfl rfl (Nat.le_of_ble_eq_true rfl) ⟨Nat.zero_le _, Nat.zero_le _⟩ dX3_beginRow_47 (fun H locs w => ?_)
            have w := w.as (ws' := plB Z a (rdP G P 2) ++ songB Z q9 qc qw qo G) (by show _ = plB Z a (rdS G 1 (rdP G P 1)) ++ songB Z q9 qc qw qo G; unfold rdS; rw [if_neg h_3]; rfl)
            refine lv_iinc (v := nI 2) (lv' := [(2, vI 2), (4, vI (pk (rdc G ((rdP G P 1).1) (((rdP G P 1).2) 1) 1))), (3, .ref (a 5)), (0, .ref (a 0)), (1, .ref q9)]) S.1 S.2.1 dX3_beginRow_50 hl (k := 4) rfl (nI_incI 1 1) (by decide) rfl (fun ls hl => ?_)
            refine lv_goto (tgt := 2) S.1 S.2.1 dX3_beginRow_53 (by decide) ?_
            exact ih 2 (by omega) (by omega) _ _ _ (lv_sub hl [3, 4, 0] rfl) w
          · skip
            refine lv_aload_n S.1 S.2.1 dX3_beginRow_35 rfl (lv_at hl 2 rfl) ?_
            refine lv_iload S.1 S.2.1 dX3_beginRow_36 (lv_at hl 0 rfl) ?_
            refine nv_pSi (rest := [.ref (a 0)]) S w hl.1 (c_X0_numberOf l D Z (rdc G ((rdP G P 1).1) (((rdP G P 1).2) 1) 1) hrb) gX3_beginRow_X0_numberOf rfl hdS_X0_numberOf ⟨Nat.le_of_ble_eq_true rfl, Nat.le_of_ble_eq_true rfl⟩ rfl rfl (Nat.le_of_ble_eq_true rfl) ⟨Nat.zero_le _, Nat.zero_le _⟩ dX3_beginRow_38 (fun H locs w => ?_)
            refine nv_put S w (C := RX3) (T := TX3) (N := 7) hn_X3_beginRow_3 tyX3_ok nmX3 0 rfl rfl 3 (by decide) (List.mem_of_getElem? (i := 2) rfl) rfl rfl (Nat.le_of_ble_eq_true rfl) (ws' := [(a 0, .inr (2, [vI (((rdP G P 1).1) 0), vI (((rdP G P 1).1) 1), vI (((rdP G P 1).1) 2), vI ((rdc G ((rdP G P 1).1) (((rdP G P 1).2) 1) 1) 3), vI (((rdP G P 1).1) 4), vI (((rdP G P 1).1) 5), .ref (a 1)]))] ++ plA Z a ++ voiceB Z (a 2) (a 3) (a 4) (((rdP G P 1).2) 0) ++ voiceB Z (a 5) (a 6) (a 7) (((rdP G P 1).2) 1) ++ voiceB Z (a 8) (a 9) (a 10) (((rdP G P 1).2) 2) ++ voiceB Z (a 11) (a 12) (a 13) (((rdP G P 1).2) 3) ++ songB Z q9 qc qw qo G) rfl dX3_beginRow_41 (fun H locs w => ?_)
            refine lv_aload_n S.1 S.2.1 dX3_beginRow_44 rfl (lv_at hl 1 rfl) ?_
            refine lv_iload S.1 S.2.1 dX3_beginRow_45 (lv_at hl 0 rfl) ?_
            refine nv_cVv (rest := []) (ws' := [(a 0, .inr (2, [vI (((rdP G P 1).1) 0), vI (((rdP G P 1).1) 1), vI (((rdP G P 1).1) 2), vI ((rdc G ((rdP G P 1).1) (((rdP G P 1).2) 1) 1) 3), vI (((rdP G P 1).1) 4), vI (((rdP G P 1).1) 5), .ref (a 1)]))] ++ plA Z a ++ voiceB Z (a 2) (a 3) (a 4) (((rdP G P 1).2) 0) ++ voiceB Z (a 5) (a 6) (a 7) (brV (((rdP G P 1).2) 1) (rdc G ((rdP G P 1).1) (((rdP G P 1).2) 1) 1)) ++ voiceB Z (a 8) (a 9) (a 10) (((rdP G P 1).2) 2) ++ voiceB Z (a 11) (a 12) (a 13) (((rdP G P 1).2) 3) ++ songB Z q9 qc qw qo G) S w hl.1 (c_X6_beginRow l D Z (a 5) (a 6) (a 7) (((rdP G P 1).2) 1) (rdc G ((rdP G P 1).1) (((rdP G P 1).2) 1) 1) (hpi.2.2.2.2.2 1 (by decide)).1 hrb) [5, 6, 7] rfl rfl rfl rfl gX3_beginRow_X6_beginRow rfl hdV_X6_beginRow ⟨Nat.le_of_ble_eq_true rfl, Nat.le_of_ble_eq_true rfl⟩ (q0 := 0) rfl rfl rfl rfl (Nat.le_of_ble_eq_true rfl) ⟨Nat.zero_le _, Nat.zero_le _⟩ dX3_beginRow_47 (fun H locs w => ?_)
            have w := w.as (ws' := plB Z a (rdP G P 2) ++ songB Z q9 qc qw qo G) (by show _ = plB Z a (rdS G 1 (rdP G P 1)) ++ songB Z q9 qc qw qo G; unfold rdS; rw [if_pos h_3]; rfl)
            refine lv_iinc (v := nI 2) (lv' := [(2, vI 2), (4, vI (pk (rdc G ((rdP G P 1).1) (((rdP G P 1).2) 1) 1))), (3, .ref (a 5)), (0, .ref (a 0)), (1, .ref q9)]) S.1 S.2.1 dX3_beginRow_50 hl (k := 4) rfl (nI_incI 1 1) (by decide) rfl (fun ls hl => ?_)
            refine lv_goto (tgt := 2) S.1 S.2.1 dX3_beginRow_53 (by decide) ?_
            exact ih 2 (by omega) (by omega) _ _ _ (lv_sub hl [3, 4, 0] rfl) w
        · skip
          refine lv_aload_n S.1 S.2.1 dX3_beginRow_11 rfl (lv_at hl 0 rfl) ?_
          have w := w.as (ws' := plO Z (a 0) (a 1) ((rdP G P 2).1) ++ plA Z a ++ voiceB Z (a 2) (a 3) (a 4) (((rdP G P 2).2) 0) ++ voiceB Z (a 5) (a 6) (a 7) (((rdP G P 2).2) 1) ++ voiceB Z (a 8) (a 9) (a 10) (((rdP G P 2).2) 2) ++ voiceB Z (a 11) (a 12) (a 13) (((rdP G P 2).2) 3) ++ songB Z q9 qc qw qo G) rfl
          have hpi := rdP_PB hs hp 2 (by decide)
          have hrb := rdc_rb hs (hpi.2.2.2.2.2 2 (by decide)) hpi.1 hpi.2.1 (show 2 < 4 by decide)
          refine nv_get S w (C := RX3) (T := TX3) (N := 7) hn_X3_beginRow_3 0 rfl rfl 6 (by decide) (List.mem_of_getElem? (i := 1) rfl) (v := .ref (a 1)) rfl dX3_beginRow_12 ?_
          refine lv_iload_n S.1 S.2.1 dX3_beginRow_15 rfl (lv_at hl 2 rfl) ?_
          refine nv_aald S w (i := 2) (q := (a 8)) 1 3 rfl rfl (by omega) (by decide) rfl dX3_beginRow_16 ?_
          refine lv_astore_n (lv' := [(3, .ref (a 8)), (0, .ref (a 0)), (1, .ref q9), (2, vI 2)]) S.1 S.2.1 dX3_beginRow_17 rfl hl (by decide) rfl (fun ls hl => ?_)
          refine lv_aload_n S.1 S.2.1 dX3_beginRow_18 rfl (lv_at hl 1 rfl) ?_
          refine lv_aload_n S.1 S.2.1 dX3_beginRow_19 rfl (lv_at hl 2 rfl) ?_
          refine lv_aload_n S.1 S.2.1 dX3_beginRow_20 rfl (lv_at hl 0 rfl) ?_
          refine lv_iload_n S.1 S.2.1 dX3_beginRow_21 rfl (lv_at hl 3 rfl) ?_
          refine nv_rVi (rest := []) S w hl.1 (c_X3_cellFor l D Z (a 0) (a 1) ((rdP G P 2).1) q9 qc qw qo G (a 8) (a 9) (a 10) (((rdP G P 2).2) 2) 2 hs (hpi.2.2.2.2.2 2 (by decide)).1 (hpi.2.2.2.2.2 2 (by decide)).2 (by decide) hpi.1 hpi.2.1) [0, 14, 15, 16, 17, 8, 9, 10] rfl rfl gX3_beginRow_X3_cellFor rfl hdV_X3_cellFor ⟨Nat.le_of_ble_eq_true rfl, Nat.le_of_ble_eq_true rfl⟩ (q0 := 0) rfl rfl rfl rfl (Nat.le_of_ble_eq_true rfl) ⟨Nat.zero_le _, Nat.zero_le _⟩ dX3_beginRow_22 (fun H locs w => ?_)
          refine lv_istore (lv' := [(4, vI (pk (rdc G ((rdP G P 2).1) (((rdP G P 2).2) 2) 2))), (3, .ref (a 8)), (0, .ref (a 0)), (1, .ref q9), (2, vI 2)]) S.1 S.2.1 dX3_beginRow_25 hl (by decide) rfl (fun ls hl => ?_)
          refine lv_iload S.1 S.2.1 dX3_beginRow_27 (lv_at hl 0 rfl) ?_
          refine nv_pSi (rest := []) S w hl.1 (c_X0_isSpeed l D Z (rdc G ((rdP G P 2).1) (((rdP G P 2).2) 2) 2) hrb) gX3_beginRow_X0_isSpeed rfl hdS_X0_isSpeed ⟨Nat.le_of_ble_eq_true rfl, Nat.le_of_ble_eq_true rfl⟩ rfl rfl (Nat.le_of_ble_eq_true rfl) ⟨Nat.zero_le _, Nat.zero_le _⟩ dX3_beginRow_29 (fun H locs w => ?_)
          refine nv_if_eqB S (tgt := 44) dX3_beginRow_32 (by decide) (fun h_4 => ?_) (fun h_4 => ?_)
          · skip
            refine lv_aload_n S.1 S.2.1 dX3_beginRow_44 rfl (lv_at hl 1 rfl) ?_
            refine lv_iload S.1 S.2.1 dX3_beginRow_45 (lv_at hl 0 rfl) ?_
            refine nv_cVv (rest := []) (ws' := plO Z (a 0) (a 1) ((rdP G P 2).1) ++ plA Z a ++ voiceB Z (a 2) (a 3) (a 4) (((rdP G P 2).2) 0) ++ voiceB Z (a 5) (a 6) (a 7) (((rdP G P 2).2) 1) ++ voiceB Z (a 8) (a 9) (a 10) (brV (((rdP G P 2).2) 2) (rdc G ((rdP G P 2).1) (((rdP G P 2).2) 2) 2)) ++ voiceB Z (a 11) (a 12) (a 13) (((rdP G P 2).2) 3) ++ songB Z q9 qc qw qo G) S w hl.1 (c_X6_beginRow l D Z (a 8) (a 9) (a 10) (((rdP G P 2).2) 2) (rdc G ((rdP G P 2).1) (((rdP G P 2).2) 2) 2) (hpi.2.2.2.2.2 2 (by decide)).1 hrb) [8, 9, 10] rfl rfl rfl rfl gX3_beginRow_X6_beginRow rfl hdV_X6_beginRow ⟨Nat.le_of_ble_eq_true rfl, Nat.le_of_ble_eq_true rfl⟩ (q0 := 0) rfl rfl rfl rfl (Nat.le_of_ble_eq_true rfl) ⟨Nat.zero_le _, Nat.zero_le _⟩ dX3_beginRow_47 (fun H locs w => ?_)
            have w := w.as (ws' := plB Z a (rdP G P 3) ++ songB Z q9 qc qw qo G) (by show _ = plB Z a (rdS G 2 (rdP G P 2)) ++ songB Z q9 qc qw qo G; unfold rdS; rw [if_neg h_4]; rfl)
            refine lv_iinc (v := nI 3) (lv' := [(2, vI 3), (4, vI (pk (rdc G ((rdP G P 2).1) (((rdP G P 2).2) 2) 2))), (3, .ref (a 8)), (0, .ref (a 0)), (1, .ref q9)]) S.1 S.2.1 dX3_beginRow_50 hl (k := 4) rfl (nI_incI 2 1) (by decide) rfl (fun ls hl => ?_)
            refine lv_goto (tgt := 2) S.1 S.2.1 dX3_beginRow_53 (by decide) ?_
            exact ih 3 (by omega) (by omega) _ _ _ (lv_sub hl [3, 4, 0] rfl) w
          · skip
            refine lv_aload_n S.1 S.2.1 dX3_beginRow_35 rfl (lv_at hl 2 rfl) ?_
            refine lv_iload S.1 S.2.1 dX3_beginRow_36 (lv_at hl 0 rfl) ?_
            refine nv_pSi (rest := [.ref (a 0)]) S w hl.1 (c_X0_numberOf l D Z (rdc G ((rdP G P 2).1) (((rdP G P 2).2) 2) 2) hrb) gX3_beginRow_X0_numberOf rfl hdS_X0_numberOf ⟨Nat.le_of_ble_eq_true rfl, Nat.le_of_ble_eq_true rfl⟩ rfl rfl (Nat.le_of_ble_eq_true rfl) ⟨Nat.zero_le _, Nat.zero_le _⟩ dX3_beginRow_38 (fun H locs w => ?_)
            refine nv_put S w (C := RX3) (T := TX3) (N := 7) hn_X3_beginRow_3 tyX3_ok nmX3 0 rfl rfl 3 (by decide) (List.mem_of_getElem? (i := 2) rfl) rfl rfl (Nat.le_of_ble_eq_true rfl) (ws' := [(a 0, .inr (2, [vI (((rdP G P 2).1) 0), vI (((rdP G P 2).1) 1), vI (((rdP G P 2).1) 2), vI ((rdc G ((rdP G P 2).1) (((rdP G P 2).2) 2) 2) 3), vI (((rdP G P 2).1) 4), vI (((rdP G P 2).1) 5), .ref (a 1)]))] ++ plA Z a ++ voiceB Z (a 2) (a 3) (a 4) (((rdP G P 2).2) 0) ++ voiceB Z (a 5) (a 6) (a 7) (((rdP G P 2).2) 1) ++ voiceB Z (a 8) (a 9) (a 10) (((rdP G P 2).2) 2) ++ voiceB Z (a 11) (a 12) (a 13) (((rdP G P 2).2) 3) ++ songB Z q9 qc qw qo G) rfl dX3_beginRow_41 (fun H locs w => ?_)
            refine lv_aload_n S.1 S.2.1 dX3_beginRow_44 rfl (lv_at hl 1 rfl) ?_
            refine lv_iload S.1 S.2.1 dX3_beginRow_45 (lv_at hl 0 rfl) ?_
            refine nv_cVv (rest := []) (ws' := [(a 0, .inr (2, [vI (((rdP G P 2).1) 0), vI (((rdP G P 2).1) 1), vI (((rdP G P 2).1) 2), vI ((rdc G ((rdP G P 2).1) (((rdP G P 2).2) 2) 2) 3), vI (((rdP G P 2).1) 4), vI (((rdP G P 2).1) 5), .ref (a 1)]))] ++ plA Z a ++ voiceB Z (a 2) (a 3) (a 4) (((rdP G P 2).2) 0) ++ voiceB Z (a 5) (a 6) (a 7) (((rdP G P 2).2) 1) ++ voiceB Z (a 8) (a 9) (a 10) (brV (((rdP G P 2).2) 2) (rdc G ((rdP G P 2).1) (((rdP G P 2).2) 2) 2)) ++ voiceB Z (a 11) (a 12) (a 13) (((rdP G P 2).2) 3) ++ songB Z q9 qc qw qo G) S w hl.1 (c_X6_beginRow l D Z (a 8) (a 9) (a 10) (((rdP G P 2).2) 2) (rdc G ((rdP G P 2).1) (((rdP G P 2).2) 2) 2) (hpi.2.2.2.2.2 2 (by decide)).1 hrb) [8, 9, 10] rfl rfl rfl rfl gX3_beginRow_X6_beginRow rfl hdV_X6_beginRow ⟨Nat.le_of_ble_eq_true rfl, Nat.le_of_ble_eq_true rfl⟩ (q0 := 0) rfl rfl rfl rfl (Nat.le_of_ble_eq_true rfl) ⟨Nat.zero_le _, Nat.zero_le _⟩ dX3_beginRow_47 (fun H locs w => ?_)
            have w := w.as (ws' := plB Z a (rdP G P 3) ++ songB Z q9 qc qw qo G) (by show _ = plB Z a (rdS G 2 (rdP G P 2)) ++ songB Z q9 qc qw qo G; unfold rdS; rw [if_pos h_4]; rfl)
            refine lv_iinc (v := nI 3) (lv' := [(2, vI 3), (4, vI (pk (rdc G ((rdP G P 2).1) (((rdP G P 2).2) 2) 2))), (3, .ref (a 8)), (0, .ref (a 0)), (1, .ref q9)]) S.1 S.2.1 dX3_beginRow_50 hl (k := 4) rfl (nI_incI 2 1) (by decide) rfl (fun ls hl => ?_)
            refine lv_goto (tgt := 2) S.1 S.2.1 dX3_beginRow_53 (by decide) ?_
            exact ih 3 (by omega) (by omega) _ _ _ (lv_sub hl [3, 4, 0] rfl) w
        · skip
          refine lv_aload_n S.1 S.2.1 dX3_beginRow_11 rfl (lv_at hl 0 rfl) ?_
          have w := w.as (ws' := plO Z (a 0) (a 1) ((rdP G P 3).1) ++ plA Z a ++ voiceB Z (a 2) (a 3) (a 4) (((rdP G P 3).2) 0) ++ voiceB Z (a 5) (a 6) (a 7) (((rdP G P 3).2) 1) ++ voiceB Z (a 8) (a 9) (a 10) (((rdP G P 3).2) 2) ++ voiceB Z (a 11) (a 12) (a 13) (((rdP G P 3).2) 3) ++ songB Z q9 qc qw qo G) rfl
          have hpi := rdP_PB hs hp 3 (by decide)
          have hrb := rdc_rb hs (hpi.2.2.2.2.2 3 (by decide)) hpi.1 hpi.2.1 (show 3 < 4 by decide)
          refine nv_get S w (C := RX3) (T := TX3) (N := 7) hn_X3_beginRow_3 0 rfl rfl 6 (by decide) (List.mem_of_getElem? (i := 1) rfl) (v := .ref (a 1)) rfl dX3_beginRow_12 ?_
          refine lv_iload_n S.1 S.2.1 dX3_beginRow_15 rfl (lv_at hl 2 rfl) ?_
          refine nv_aald S w (i := 3) (q := (a 11)) 1 3 rfl rfl (by omega) (by decide) rfl dX3_beginRow_16 ?_
          refine lv_astore_n (lv' := [(3, .ref (a 11)), (0, .ref (a 0)), (1, .ref q9), (2, vI 3)]) S.1 S.2.1 dX3_beginRow_17 rfl hl (by decide) rfl (fun ls hl => ?_)
          refine lv_aload_n S.1 S.2.1 dX3_beginRow_18 rfl (lv_at hl 1 rfl) ?_
          refine lv_aload_n S.1 S.2.1 dX3_beginRow_19 rfl (lv_at hl 2 rfl) ?_
          refine lv_aload_n S.1 S.2.1 dX3_beginRow_20 rfl (lv_at hl 0 rfl) ?_
          refine lv_iload_n S.1 S.2.1 dX3_beginRow_21 rfl (lv_at hl 3 rfl) ?_
          refine nv_rVi (rest := []) S w hl.1 (c_X3_cellFor l D Z (a 0) (a 1) ((rdP G P 3).1) q9 qc qw qo G (a 11) (a 12) (a 13) (((rdP G P 3).2) 3) 3 hs (hpi.2.2.2.2.2 3 (by decide)).1 (hpi.2.2.2.2.2 3 (by decide)).2 (by decide) hpi.1 hpi.2.1) [0, 14, 15, 16, 17, 11, 12, 13] rfl rfl gX3_beginRow_X3_cellFor rfl hdV_X3_cellFor ⟨Nat.le_of_ble_eq_true rfl, Nat.le_of_ble_eq_true rfl⟩ (q0 := 0) rfl rfl rfl rfl (Nat.le_of_ble_eq_true rfl) ⟨Nat.zero_le _, Nat.zero_le _⟩ dX3_beginRow_22 (fun H locs w => ?_)
          refine lv_istore (lv' := [(4, vI (pk (rdc G ((rdP G P 3).1) (((rdP G P 3).2) 3) 3))), (3, .ref (a 11)), (0, .ref (a 0)), (1, .ref q9), (2, vI 3)]) S.1 S.2.1 dX3_beginRow_25 hl (by decide) rfl (fun ls hl => ?_)
          refine lv_iload S.1 S.2.1 dX3_beginRow_27 (lv_at hl 0 rfl) ?_
          refine nv_pSi (rest := []) S w hl.1 (c_X0_isSpeed l D Z (rdc G ((rdP G P 3).1) (((rdP G P 3).2) 3) 3) hrb) gX3_beginRow_X0_isSpeed rfl hdS_X0_isSpeed ⟨Nat.le_of_ble_eq_true rfl, Nat.le_of_ble_eq_true rfl⟩ rfl rfl (Nat.le_of_ble_eq_true rfl) ⟨Nat.zero_le _, Nat.zero_le _⟩ dX3_beginRow_29 (fun H locs w => ?_)
          refine nv_if_eqB S (tgt := 44) dX3_beginRow_32 (by decide) (fun h_5 => ?_) (fun h_5 => ?_)
          · skip
            refine lv_aload_n S.1 S.2.1 dX3_beginRow_44 rfl (lv_at hl 1 rfl) ?_
            refine lv_iload S.1 S.2.1 dX3_beginRow_45 (lv_at hl 0 rfl) ?_
            refine nv_cVv (rest := []) (ws' := plO Z (a 0) (a 1) ((rdP G P 3).1) ++ plA Z a ++ voiceB Z (a 2) (a 3) (a 4) (((rdP G P 3).2) 0) ++ voiceB Z (a 5) (a 6) (a 7) (((rdP G P 3).2) 1) ++ voiceB Z (a 8) (a 9) (a 10) (((rdP G P 3).2) 2) ++ voiceB Z (a 11) (a 12) (a 13) (brV (((rdP G P 3).2) 3) (rdc G ((rdP G P 3).1) (((rdP G P 3).2) 3) 3)) ++ songB Z q9 qc qw qo G) S w hl.1 (c_X6_beginRow l D Z (a 11) (a 12) (a 13) (((rdP G P 3).2) 3) (rdc G ((rdP G P 3).1) (((rdP G P 3).2) 3) 3) (hpi.2.2.2.2.2 3 (by decide)).1 hrb) [11, 12, 13] rfl rfl rfl rfl gX3_beginRow_X6_beginRow rfl hdV_X6_beginRow ⟨Nat.le_of_ble_eq_true rfl, Nat.le_of_ble_eq_true rfl⟩ (q0 := 0) rfl rfl rfl rfl (Nat.le_of_ble_eq_true rfl) ⟨Nat.zero_le _, Nat.zero_le _⟩ dX3_beginRow_47 (fun H locs w => ?_)
            have w := w.as (ws' := plB Z a (rdP G P 4) ++ songB Z q9 qc qw qo G) (by show _ = plB Z a (rdS G 3 (rdP G P 3)) ++ songB Z q9 qc qw qo G; unfold rdS; rw [if_neg h_5]; rfl)
            refine lv_iinc (v := nI 4) (lv' := [(2, vI 4), (4, vI (pk (rdc G ((rdP G P 3).1) (((rdP G P 3).2) 3) 3))), (3, .ref (a 11)), (0, .ref (a 0)), (1, .ref q9)]) S.1 S.2.1 dX3_beginRow_50 hl (k := 4) rfl (nI_incI 3 1) (by decide) rfl (fun ls hl => ?_)
            refine lv_goto (tgt := 2) S.1 S.2.1 dX3_beginRow_53 (by decide) ?_
            exact ih 4 (by omega) (by omega) _ _ _ (lv_sub hl [3, 4, 0] rfl) w
          · skip
            refine lv_aload_n S.1 S.2.1 dX3_beginRow_35 rfl (lv_at hl 2 rfl) ?_
            refine lv_iload S.1 S.2.1 dX3_beginRow_36 (lv_at hl 0 rfl) ?_
            refine nv_pSi (rest := [.ref (a 0)]) S w hl.1 (c_X0_numberOf l D Z (rdc G ((rdP G P 3).1) (((rdP G P 3).2) 3) 3) hrb) gX3_beginRow_X0_numberOf rfl hdS_X0_numberOf ⟨Nat.le_of_ble_eq_true rfl, Nat.le_of_ble_eq_true rfl⟩ rfl rfl (Nat.le_of_ble_eq_true rfl) ⟨Nat.zero_le _, Nat.zero_le _⟩ dX3_beginRow_38 (fun H locs w => ?_)
            refine nv_put S w (C := RX3) (T := TX3) (N := 7) hn_X3_beginRow_3 tyX3_ok nmX3 0 rfl rfl 3 (by decide) (List.mem_of_getElem? (i := 2) rfl) rfl rfl (Nat.le_of_ble_eq_true rfl) (ws' := [(a 0, .inr (2, [vI (((rdP G P 3).1) 0), vI (((rdP G P 3).1) 1), vI (((rdP G P 3).1) 2), vI ((rdc G ((rdP G P 3).1) (((rdP G P 3).2) 3) 3) 3), vI (((rdP G P 3).1) 4), vI (((rdP G P 3).1) 5), .ref (a 1)]))] ++ plA Z a ++ voiceB Z (a 2) (a 3) (a 4) (((rdP G P 3).2) 0) ++ voiceB Z (a 5) (a 6) (a 7) (((rdP G P 3).2) 1) ++ voiceB Z (a 8) (a 9) (a 10) (((rdP G P 3).2) 2) ++ voiceB Z (a 11) (a 12) (a 13) (((rdP G P 3).2) 3) ++ songB Z q9 qc qw qo G) rfl dX3_beginRow_41 (fun H locs w => ?_)
            refine lv_aload_n S.1 S.2.1 dX3_beginRow_44 rfl (lv_at hl 1 rfl) ?_
            refine lv_iload S.1 S.2.1 dX3_beginRow_45 (lv_at hl 0 rfl) ?_
            refine nv_cVv (rest := []) (ws' := [(a 0, .inr (2, [vI (((rdP G P 3).1) 0), vI (((rdP G P 3).1) 1), vI (((rdP G P 3).1) 2), vI ((rdc G ((rdP G P 3).1) (((rdP G P 3).2) 3) 3) 3), vI (((rdP G P 3).1) 4), vI (((rdP G P 3).1) 5), .ref (a 1)]))] ++ plA Z a ++ voiceB Z (a 2) (a 3) (a 4) (((rdP G P 3).2) 0) ++ voiceB Z (a 5) (a 6) (a 7) (((rdP G P 3).2) 1) ++ voiceB Z (a 8) (a 9) (a 10) (((rdP G P 3).2) 2) ++ voiceB Z (a 11) (a 12) (a 13) (brV (((rdP G P 3).2) 3) (rdc G ((rdP G P 3).1) (((rdP G P 3).2) 3) 3)) ++ songB Z q9 qc qw qo G) S w hl.1 (c_X6_beginRow l D Z (a 11) (a 12) (a 13) (((rdP G P 3).2) 3) (rdc G ((rdP G P 3).1) (((rdP G P 3).2) 3) 3) (hpi.2.2.2.2.2 3 (by decide)).1 hrb) [11, 12, 13] rfl rfl rfl rfl gX3_beginRow_X6_beginRow rfl hdV_X6_beginRow ⟨Nat.le_of_ble_eq_true rfl, Nat.le_of_ble_eq_true rfl⟩ (q0 := 0) rfl rfl rfl rfl (Nat.le_of_ble_eq_true rfl) ⟨Nat.zero_le _, Nat.zero_le _⟩ dX3_beginRow_47 (fun H locs w => ?_)
            have w := w.as (ws' := plB Z a (rdP G P 4) ++ songB Z q9 qc qw qo G) (by show _ = plB Z a (rdS G 3 (rdP G P 3)) ++ songB Z q9 qc qw qo G; unfold rdS; rw [if_pos h_5]; rfl)
            refine lv_iinc (v := nI 4) (lv' := [(2, vI 4), (4, vI (pk (rdc G ((rdP G P 3).1) (((rdP G P 3).2) 3) 3))), (3, .ref (a 11)), (0, .ref (a 0)), (1, .ref q9)]) S.1 S.2.1 dX3_beginRow_50 hl (k := 4) rfl (nI_incI 3 1) (by decide) rfl (fun ls hl => ?_)
            refine lv_goto (tgt := 2) S.1 S.2.1 dX3_beginRow_53 (by decide) ?_
            exact ih 4 (by omega) (by omega) _ _ _ (lv_sub hl [3, 4, 0] rfl) w
set_option maxRecDepth 100000 in
set_option maxHeartbeats 4000000 in
theorem c_X3_beginRow (l : Launch) (D : va_G) (Z : Nat → ClassId) (a : Nat → Nat) (P : PG) (q9 qc qw qo : Nat) (G : SG) (hs : SB G) (hp : PB G P) : Cv l yX3_beginRow wsX3_beginRow 3 68 D Z [.ref (a 0), .ref q9] (plB Z a P ++ songB Z q9 qc qw qo G)  (plB Z a (rdP G P 4) ++ songB Z q9 qc qw qo G) := by
  refine ne_v (cc := cX3_beginRow) (maxL := 5) (by decide +kernel) rfl (Nat.le_of_ble_eq_true rfl) (fun p e s m args below meth c A ls (S : CallFix p m c cX3_beginRow 5 s args wsX3_beginRow RX3) hr hlocks hl w => ?_)
  have hl : lv_has ls 5 [(0, .ref (a 0)), (1, .ref q9)] := hl
  refine lv_iconst (v := nI 0) S.1 S.2.1 dX3_beginRow_0 (ofInt_nI 0) ?_
  refine lv_istore_n (lv' := [(2, vI 0), (0, .ref (a 0)), (1, .ref q9)]) S.1 S.2.1 dX3_beginRow_1 rfl hl (by decide) rfl (fun ls hl => ?_)
  exact k_X3_beginRow l D Z a P q9 qc qw qo G hs hp S hr hlocks _ 0 (by omega) (Nat.lt_succ_self _) _ _ _ (lv_sub hl [1, 2, 0] rfl) w
