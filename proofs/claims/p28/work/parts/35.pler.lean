theorem hn_X3_endRow_3 : ∀ w ∈ wsX30, w ∈ wsX3_endRow := by decide +kernel
theorem hdV_X3_nextPlace : yX3_nextPlace.cls = RX3 ∧ yX3_nextPlace.cls ≠ "java/lang/invoke/MethodHandle" ∧ yX3_nextPlace.cls ≠ "java/lang/invoke/VarHandle" ∧ (parseMethodDescriptor yX3_nextPlace.desc).map (fun d => d.parameters.length) = some 1 := by decide +kernel
theorem hdV_X6_endRow : yX6_endRow.cls = RX6 ∧ yX6_endRow.cls ≠ "java/lang/invoke/MethodHandle" ∧ yX6_endRow.cls ≠ "java/lang/invoke/VarHandle" ∧ (parseMethodDescriptor yX6_endRow.desc).map (fun d => d.parameters.length) = some 1 := by decide +kernel
set_option maxRecDepth 100000 in
set_option maxHeartbeats 4000000 in
theorem k_X3_endRow (l : Launch) (D : va_G) (Z : Nat → ClassId) (a : Nat → Nat) (P : PG) (q9 qc qw qo : Nat) (G : SG) (hs : SB G) (hp : PB2 G P) {p : Program} {e : Env} {s : State} {m : MethodId} {args : Array Value} {below : List Frame} {meth : Method} {c : Code} {A : Nat → Prop} (S : CallFix p m c cX3_endRow 6 s args wsX3_endRow RX3) (hr : meth.sig.returnType = none) (hlocks : meth.locks = false) : ∀ (n9 : Nat), (∀ (i : Nat) (hi4 : i ≤ 4) (hm : 4 - i < n9), ∀ (H : Heap) (locs : List Loc) (ls : Array Slot) (hl : lv_has ls 6 [(0, .ref (a 0)), (1, .ref q9), (2, .ref (a 1)), (3, vI 4), (4, vI i)]) (w : Wd D Z A s (plB Z a (enP G.2.1 P i) ++ songB Z q9 qc qw qo G) H locs), W p l e (rmO 3 64) s m args below meth c H locs 0 0 (Qv below D Z A args s (plB Z a (erP G P) ++ songB Z q9 qc qw qo G)) (F0 m 11 ls [])) := by
  intro n9
  have hg8 : ∀ i, i < 6 → G.2.1 i ≤ 8 := fun i hi => (hs.2.1 i hi).2
  obtain ⟨hp0, hp1, hp2, hp3, hp4, hv⟩ := id hp
  have hpl := hs.2.2.2.1
  have ho := hs.2.2.2.2 (P.1 0) (by omega)
  have hrw := hs.2.1 _ (show G.2.2.1 (P.1 0) < 6 by omega)
  induction n9 with
  | zero => intro i hi4 hm; exact absurd hm (Nat.not_lt_zero _)
  | succ n9 ih =>
    skip
    · intro i hi4 hm H locs ls hl w
      refine lv_iload S.1 S.2.1 dX3_endRow_11 (lv_at hl 4 rfl) ?_
      refine lv_iload_n S.1 S.2.1 dX3_endRow_13 rfl (lv_at hl 3 rfl) ?_
      refine nv_icmp_ge S (by omega) (by omega) (tgt := 35) dX3_endRow_14 (by decide) (fun h_1 => ?_) (fun h_1 => ?_)
      · skip
        have w := w.as (ws' := plB Z a (P.1, (enP G.2.1 P 4).2) ++ songB Z q9 qc qw qo G) (by rw [show i = 4 by omega]; rw [show enP G.2.1 P 4 = (P.1, (enP G.2.1 P 4).2) from Prod.ext (enP_1 4) rfl])
        generalize hVs : (enP G.2.1 P 4).2 = Vs at w
        have w := w.as (ws' := plO Z (a 0) (a 1) P.1 ++ plA Z a ++ voiceB Z (a 2) (a 3) (a 4) (Vs 0) ++ voiceB Z (a 5) (a 6) (a 7) (Vs 1) ++ voiceB Z (a 8) (a 9) (a 10) (Vs 2) ++ voiceB Z (a 11) (a 12) (a 13) (Vs 3) ++ songB Z q9 qc qw qo G) rfl
        refine lv_aload_n S.1 S.2.1 dX3_endRow_35 rfl (lv_at hl 0 rfl) ?_
        refine lv_iconst (v := nI 0) S.1 S.2.1 dX3_endRow_36 (ofInt_nI 0) ?_
        refine nv_put S w (C := RX3) (T := TX3) (N := 7) hn_X3_endRow_3 tyX3_ok nmX3 0 rfl rfl 2 (by decide) (List.mem_of_getElem? (i := 2) rfl) rfl rfl (Nat.le_of_ble_eq_true rfl) (ws' := [(a 0, .inr (2, [vI (P.1 0), vI (P.1 1), vI 0, vI (P.1 3), vI (P.1 4), vI (P.1 5), .ref (a 1)]))] ++ plA Z a ++ voiceB Z (a 2) (a 3) (a 4) (Vs 0) ++ voiceB Z (a 5) (a 6) (a 7) (Vs 1) ++ voiceB Z (a 8) (a 9) (a 10) (Vs 2) ++ voiceB Z (a 11) (a 12) (a 13) (Vs 3) ++ songB Z q9 qc qw qo G) rfl dX3_endRow_37 (fun H locs w => ?_)
        refine lv_aload_n S.1 S.2.1 dX3_endRow_40 rfl (lv_at hl 0 rfl) ?_
        refine lv_dup S.1 S.2.1 dX3_endRow_41 rfl ?_
        refine nv_get S w (C := RX3) (T := TX3) (N := 7) hn_X3_endRow_3 0 rfl rfl 1 (by decide) (List.mem_of_getElem? (i := 3) rfl) (v := vI (P.1 1)) rfl dX3_endRow_42 ?_
        refine lv_iconst (v := nI 1) S.1 S.2.1 dX3_endRow_45 (ofInt_nI 1) ?_
        refine nv_iadd S dX3_endRow_46 ?_
        refine nv_put S w (C := RX3) (T := TX3) (N := 7) hn_X3_endRow_3 tyX3_ok nmX3 0 rfl rfl 1 (by decide) (List.mem_of_getElem? (i := 3) rfl) rfl rfl (Nat.le_of_ble_eq_true rfl) (ws' := [(a 0, .inr (2, [vI (P.1 0), vI ((P.1 1) + 1), vI 0, vI (P.1 3), vI (P.1 4), vI (P.1 5), .ref (a 1)]))] ++ plA Z a ++ voiceB Z (a 2) (a 3) (a 4) (Vs 0) ++ voiceB Z (a 5) (a 6) (a 7) (Vs 1) ++ voiceB Z (a 8) (a 9) (a 10) (Vs 2) ++ voiceB Z (a 11) (a 12) (a 13) (Vs 3) ++ songB Z q9 qc qw qo G) rfl dX3_endRow_47 (fun H locs w => ?_)
        refine lv_aload_n S.1 S.2.1 dX3_endRow_50 rfl (lv_at hl 0 rfl) ?_
        refine nv_get S w (C := RX3) (T := TX3) (N := 7) hn_X3_endRow_3 0 rfl rfl 1 (by decide) (List.mem_of_getElem? (i := 3) rfl) (v := vI ((P.1 1) + 1)) rfl dX3_endRow_51 ?_
        refine lv_aload_n S.1 S.2.1 dX3_endRow_54 rfl (lv_at hl 1 rfl) ?_
        refine lv_aload_n S.1 S.2.1 dX3_endRow_55 rfl (lv_at hl 1 rfl) ?_
        refine lv_aload_n S.1 S.2.1 dX3_endRow_56 rfl (lv_at hl 0 rfl) ?_
        refine nv_get S w (C := RX3) (T := TX3) (N := 7) hn_X3_endRow_3 0 rfl rfl 0 (by decide) (List.mem_of_getElem? (i := 4) rfl) (v := vI (P.1 0)) rfl dX3_endRow_57 ?_
        refine nv_rVi (rest := [.ref q9, vI ((P.1 1) + 1)]) S w hl.1 (c_X4_patternAt l D Z q9 qc qw qo G (P.1 0) (by omega) (by omega)) [14, 15, 16, 17] rfl rfl gX3_endRow_X4_patternAt rfl hdV_X4_patternAt ⟨Nat.le_of_ble_eq_true rfl, Nat.le_of_ble_eq_true rfl⟩ (q0 := 0) rfl rfl rfl rfl (Nat.le_of_ble_eq_true rfl) ⟨Nat.zero_le _, Nat.zero_le _⟩ dX3_endRow_60 (fun H locs w => ?_)
        refine nv_rVi (rest := [vI ((P.1 1) + 1)]) S w hl.1 (c_X4_rowsOf l D Z q9 qc qw qo G (G.2.2.1 (P.1 0)) (by omega)) [14, 15, 16, 17] rfl rfl gX3_endRow_X4_rowsOf rfl hdV_X4_rowsOf ⟨Nat.le_of_ble_eq_true rfl, Nat.le_of_ble_eq_true rfl⟩ (q0 := 0) rfl rfl rfl rfl (Nat.le_of_ble_eq_true rfl) ⟨Nat.zero_le _, Nat.zero_le _⟩ dX3_endRow_63 (fun H locs w => ?_)
        refine nv_icmp_lt S (by omega) (by omega) (tgt := 79) dX3_endRow_66 (by decide) (fun h_2 => ?_) (fun h_2 => ?_)
        · skip
          exact nv_vret S w hr hlocks (by unfold erP; rw [if_neg (Nat.not_le.mpr h_2), hVs]; rfl) dX3_endRow_79
        · skip
          refine lv_aload_n S.1 S.2.1 dX3_endRow_69 rfl (lv_at hl 0 rfl) ?_
          refine lv_iconst (v := nI 0) S.1 S.2.1 dX3_endRow_70 (ofInt_nI 0) ?_
          refine nv_put S w (C := RX3) (T := TX3) (N := 7) hn_X3_endRow_3 tyX3_ok nmX3 0 rfl rfl 1 (by decide) (List.mem_of_getElem? (i := 3) rfl) rfl rfl (Nat.le_of_ble_eq_true rfl) (ws' := [(a 0, .inr (2, [vI (P.1 0), vI 0, vI 0, vI (P.1 3), vI (P.1 4), vI (P.1 5), .ref (a 1)]))] ++ plA Z a ++ voiceB Z (a 2) (a 3) (a 4) (Vs 0) ++ voiceB Z (a 5) (a 6) (a 7) (Vs 1) ++ voiceB Z (a 8) (a 9) (a 10) (Vs 2) ++ voiceB Z (a 11) (a 12) (a 13) (Vs 3) ++ songB Z q9 qc qw qo G) rfl dX3_endRow_71 (fun H locs w => ?_)
          refine lv_aload_n S.1 S.2.1 dX3_endRow_74 rfl (lv_at hl 0 rfl) ?_
          refine lv_aload_n S.1 S.2.1 dX3_endRow_75 rfl (lv_at hl 1 rfl) ?_
          have w := w.as (ws' := plB Z a (un (un P.1 2 0) 1 0, Vs) ++ songB Z q9 qc qw qo G) (rfl)
          refine nv_fVv (rest := []) ([]) ([]) (ws' := plB Z a (npP G (un (un P.1 2 0) 1 0, Vs)) ++ songB Z q9 qc qw qo G) S w hl.1 (c_X3_nextPlace l D Z a (un (un P.1 2 0) 1 0, Vs) q9 qc qw qo G hs (by simp [un_at]; omega)) (by simp only [List.append_assoc, List.nil_append, List.append_nil]) rfl (by simp only [List.append_assoc, List.nil_append, List.append_nil]) gX3_endRow_X3_nextPlace rfl hdV_X3_nextPlace ⟨Nat.le_of_ble_eq_true rfl, Nat.le_of_ble_eq_true rfl⟩ (q0 := 0) rfl rfl rfl rfl (Nat.le_of_ble_eq_true rfl) ⟨Nat.zero_le _, Nat.zero_le _⟩ dX3_endRow_76 (fun H locs w => ?_)
          exact nv_vret S w hr hlocks (by unfold erP; rw [if_pos h_2, hVs]) dX3_endRow_79
      · skip
        rcases (show i = 0 ∨ i = 1 ∨ i = 2 ∨ i = 3 by omega) with rfl | rfl | rfl | rfl
        · skip
          refine lv_aload_n S.1 S.2.1 dX3_endRow_17 rfl (lv_at hl 2 rfl) ?_
          have w := w.as (ws' := plO Z (a 0) (a 1) ((enP G.2.1 P 0).1) ++ plA Z a ++ voiceB Z (a 2) (a 3) (a 4) (((enP G.2.1 P 0).2) 0) ++ voiceB Z (a 5) (a 6) (a 7) (((enP G.2.1 P 0).2) 1) ++ voiceB Z (a 8) (a 9) (a 10) (((enP G.2.1 P 0).2) 2) ++ voiceB Z (a 11) (a 12) (a 13) (((enP G.2.1 P 0).2) 3) ++ songB Z q9 qc qw qo G) rfl
          refine lv_iload S.1 S.2.1 dX3_endRow_18 (lv_at hl 4 rfl) ?_
          refine nv_aald S w (i := 0) (q := (a 2)) 1 3 rfl rfl (by omega) (by decide) rfl dX3_endRow_20 ?_
          refine lv_astore (lv' := [(5, .ref (a 2)), (0, .ref (a 0)), (1, .ref q9), (2, .ref (a 1)), (3, vI 4), (4, vI 0)]) S.1 S.2.1 dX3_endRow_21 hl (by decide) rfl (fun ls hl => ?_)
          refine lv_aload S.1 S.2.1 dX3_endRow_23 (lv_at hl 0 rfl) ?_
          refine lv_aload_n S.1 S.2.1 dX3_endRow_25 rfl (lv_at hl 2 rfl) ?_
          refine nv_cVv (rest := []) (ws' := plO Z (a 0) (a 1) ((enP G.2.1 P 0).1) ++ plA Z a ++ voiceB Z (a 2) (a 3) (a 4) (endV G.2.1 (((enP G.2.1 P 0).2) 0)) ++ voiceB Z (a 5) (a 6) (a 7) (((enP G.2.1 P 0).2) 1) ++ voiceB Z (a 8) (a 9) (a 10) (((enP G.2.1 P 0).2) 2) ++ voiceB Z (a 11) (a 12) (a 13) (((enP G.2.1 P 0).2) 3) ++ songB Z q9 qc qw qo G) S w hl.1 (c_X6_endRow l D Z (a 2) (a 3) (a 4) (((enP G.2.1 P 0).2) 0) q9 qc qw qo G (enP_VS hv hg8 0 (by decide) 0 (by decide)).1 (enP_VS hv hg8 0 (by decide) 0 (by decide)).2 hs) [2, 3, 4, 14, 15, 16, 17] rfl rfl rfl rfl gX3_endRow_X6_endRow rfl hdV_X6_endRow ⟨Nat.le_of_ble_eq_true rfl, Nat.le_of_ble_eq_true rfl⟩ (q0 := 0) rfl rfl rfl rfl (Nat.le_of_ble_eq_true rfl) ⟨Nat.zero_le _, Nat.zero_le _⟩ dX3_endRow_26 (fun H locs w => ?_)
          have w := w.as (ws' := plB Z a (enP G.2.1 P 1) ++ songB Z q9 qc qw qo G) (by rw [show enP G.2.1 P 1 = ((enP G.2.1 P 0).1, uv (enP G.2.1 P 0).2 0 (endV G.2.1 ((enP G.2.1 P 0).2 0))) from rfl]; exact congrArg (· ++ songB Z q9 qc qw qo G) plB_s0)
          refine lv_iinc (v := nI 1) (lv' := [(4, vI 1), (5, .ref (a 2)), (0, .ref (a 0)), (1, .ref q9), (2, .ref (a 1)), (3, vI 4)]) S.1 S.2.1 dX3_endRow_29 hl (k := 5) rfl (nI_incI 0 1) (by decide) rfl (fun ls hl => ?_)
          refine lv_goto (tgt := 11) S.1 S.2.1 dX3_endRow_32 (by decide) ?_
          exact ih 1 (by omega) (by omega) _ _ _ (lv_sub hl [2, 3, 4, 5, 0] rfl) w
        · skip
          refine lv_aload_n S.1 S.2.1 dX3_endRow_17 rfl (lv_at hl 2 rfl) ?_
          have w := w.as (ws' := plO Z (a 0) (a 1) ((enP G.2.1 P 1).1) ++ plA Z a ++ voiceB Z (a 2) (a 3) (a 4) (((enP G.2.1 P 1).2) 0) ++ voiceB Z (a 5) (a 6) (a 7) (((enP G.2.1 P 1).2) 1) ++ voiceB Z (a 8) (a 9) (a 10) (((enP G.2.1 P 1).2) 2) ++ voiceB Z (a 11) (a 12) (a 13) (((enP G.2.1 P 1).2) 3) ++ songB Z q9 qc qw qo G) rfl
          refine lv_iload S.1 S.2.1 dX3_endRow_18 (lv_at hl 4 rfl) ?_
          refine nv_aald S w (i := 1) (q := (a 5)) 1 3 rfl rfl (by omega) (by decide) rfl dX3_endRow_20 ?_
          refine lv_astore (lv' := [(5, .ref (a 5)), (0, .ref (a 0)), (1, .ref q9), (2, .ref (a 1)), (3, vI 4), (4, vI 1)]) S.1 S.2.1 dX3_endRow_21 hl (by decide) rfl (fun ls hl => ?_)
          refine lv_aload S.1 S.2.1 dX3_endRow_23 (lv_at hl 0 rfl) ?_
          refine lv_aload_n S.1 S.2.1 dX3_endRow_25 rfl (lv_at hl 2 rfl) ?_
          refine nv_cVv (rest := []) (ws' := plO Z (a 0) (a 1) ((enP G.2.1 P 1).1) ++ plA Z a ++ voiceB Z (a 2) (a 3) (a 4) (((enP G.2.1 P 1).2) 0) ++ voiceB Z (a 5) (a 6) (a 7) (endV G.2.1 (((enP G.2.1 P 1).2) 1)) ++ voiceB Z (a 8) (a 9) (a 10) (((enP G.2.1 P 1).2) 2) ++ voiceB Z (a 11) (a 12) (a 13) (((enP G.2.1 P 1).2) 3) ++ songB Z q9 qc qw qo G) S w hl.1 (c_X6_endRow l D Z (a 5) (a 6) (a 7) (((enP G.2.1 P 1).2) 1) q9 qc qw qo G (enP_VS hv hg8 1 (by decide) 1 (by decide)).1 (enP_VS hv hg8 1 (by decide) 1 (by decide)).2 hs) [5, 6, 7, 14, 15, 16, 17] rfl rfl rfl rfl gX3_endRow_X6_endRow rfl hdV_X6_endRow ⟨Nat.le_of_ble_eq_true rfl, Nat.le_of_ble_eq_true rfl⟩ (q0 := 0) rfl rfl rfl rfl (Nat.le_of_ble_eq_true rfl) ⟨Nat.zero_le _, Nat.zero_le _⟩ dX3_endRow_26 (fun H locs w => ?_)
          have w := w.as (ws' := plB Z a (enP G.2.1 P 2) ++ songB Z q9 qc qw qo G) (by rw [show enP G.2.1 P 2 = ((enP G.2.1 P 1).1, uv (enP G.2.1 P 1).2 1 (endV G.2.1 ((enP G.2.1 P 1).2 1))) from rfl]; exact congrArg (· ++ songB Z q9 qc qw qo G) plB_s1)
          refine lv_iinc (v := nI 2) (lv' := [(4, vI 2), (5, .ref (a 5)), (0, .ref (a 0)), (1, .ref q9), (2, .ref (a 1)), (3, vI 4)]) S.1 S.2.1 dX3_endRow_29 hl (k := 5) rfl (nI_incI 1 1) (by decide) rfl (fun ls hl => ?_)
          refine lv_goto (tgt := 11) S.1 S.2.1 dX3_endRow_32 (by decide) ?_
          exact ih 2 (by omega) (by omega) _ _ _ (lv_sub hl [2, 3, 4, 5, 0] rfl) w
        · skip
          refine lv_aload_n S.1 S.2.1 dX3_endRow_17 rfl (lv_at hl 2 rfl) ?_
          have w := w.as (ws' := plO Z (a 0) (a 1) ((enP G.2.1 P 2).1) ++ plA Z a ++ voiceB Z (a 2) (a 3) (a 4) (((enP G.2.1 P 2).2) 0) ++ voiceB Z (a 5) (a 6) (a 7) (((enP G.2.1 P 2).2) 1) ++ voiceB Z (a 8) (a 9) (a 10) (((enP G.2.1 P 2).2) 2) ++ voiceB Z (a 11) (a 12) (a 13) (((enP G.2.1 P 2).2) 3) ++ songB Z q9 qc qw qo G) rfl
          refine lv_iload S.1 S.2.1 dX3_endRow_18 (lv_at hl 4 rfl) ?_
          refine nv_aald S w (i := 2) (q := (a 8)) 1 3 rfl rfl (by omega) (by decide) rfl dX3_endRow_20 ?_
          refine lv_astore (lv' := [(5, .ref (a 8)), (0, .ref (a 0)), (1, .ref q9), (2, .ref (a 1)), (3, vI 4), (4, vI 2)]) S.1 S.2.1 dX3_endRow_21 hl (by decide) rfl (fun ls hl => ?_)
          refine lv_aload S.1 S.2.1 dX3_endRow_23 (lv_at hl 0 rfl) ?_
          refine lv_aload_n S.1 S.2.1 dX3_endRow_25 rfl (lv_at hl 2 rfl) ?_
          refine nv_cVv (rest := []) (ws' := plO Z (a 0) (a 1) ((enP G.2.1 P 2).1) ++ plA Z a ++ voiceB Z (a 2) (a 3) (a 4) (((enP G.2.1 P 2).2) 0) ++ voiceB Z (a 5) (a 6) (a 7) (((enP G.2.1 P 2).2) 1) ++ voiceB Z (a 8) (a 9) (a 10) (endV G.2.1 (((enP G.2.1 P 2).2) 2)) ++ voiceB Z (a 11) (a 12) (a 13) (((enP G.2.1 P 2).2) 3) ++ songB Z q9 qc qw qo G) S w hl.1 (c_X6_endRow l D Z (a 8) (a 9) (a 10) (((enP G.2.1 P 2).2) 2) q9 qc qw qo G (enP_VS hv hg8 2 (by decide) 2 (by decide)).1 (enP_VS hv hg8 2 (by decide) 2 (by decide)).2 hs) [8, 9, 10, 14, 15, 16, 17] rfl rfl rfl rfl gX3_endRow_X6_endRow rfl hdV_X6_endRow ⟨Nat.le_of_ble_eq_true rfl, Nat.le_of_ble_eq_true rfl⟩ (q0 := 0) rfl rfl rfl rfl (Nat.le_of_ble_eq_true rfl) ⟨Nat.zero_le _, Nat.zero_le _⟩ dX3_endRow_26 (fun H locs w => ?_)
          have w := w.as (ws' := plB Z a (enP G.2.1 P 3) ++ songB Z q9 qc qw qo G) (by rw [show enP G.2.1 P 3 = ((enP G.2.1 P 2).1, uv (enP G.2.1 P 2).2 2 (endV G.2.1 ((enP G.2.1 P 2).2 2))) from rfl]; exact congrArg (· ++ songB Z q9 qc qw qo G) plB_s2)
          refine lv_iinc (v := nI 3) (lv' := [(4, vI 3), (5, .ref (a 8)), (0, .ref (a 0)), (1, .ref q9), (2, .ref (a 1)), (3, vI 4)]) S.1 S.2.1 dX3_endRow_29 hl (k := 5) rfl (nI_incI 2 1) (by decide) rfl (fun ls hl => ?_)
          refine lv_goto (tgt := 11) S.1 S.2.1 dX3_endRow_32 (by decide) ?_
          exact ih 3 (by omega) (by omega) _ _ _ (lv_sub hl [2, 3, 4, 5, 0] rfl) w
        · skip
          refine lv_aload_n S.1 S.2.1 dX3_endRow_17 rfl (lv_at hl 2 rfl) ?_
          have w := w.as (ws' := plO Z (a 0) (a 1) ((enP G.2.1 P 3).1) ++ plA Z a ++ voiceB Z (a 2) (a 3) (a 4) (((enP G.2.1 P 3).2) 0) ++ voiceB Z (a 5) (a 6) (a 7) (((enP G.2.1 P 3).2) 1) ++ voiceB Z (a 8) (a 9) (a 10) (((enP G.2.1 P 3).2) 2) ++ voiceB Z (a 11) (a 12) (a 13) (((enP G.2.1 P 3).2) 3) ++ songB Z q9 qc qw qo G) rfl
          refine lv_iload S.1 S.2.1 dX3_endRow_18 (lv_at hl 4 rfl) ?_
          refine nv_aald S w (i := 3) (q := (a 11)) 1 3 rfl rfl (by omega) (by decide) rfl dX3_endRow_20 ?_
          refine lv_astore (lv' := [(5, .ref (a 11)), (0, .ref (a 0)), (1, .ref q9), (2, .ref (a 1)), (3, vI 4), (4, vI 3)]) S.1 S.2.1 dX3_endRow_21 hl (by decide) rfl (fun ls hl => ?_)
          refine lv_aload S.1 S.2.1 dX3_endRow_23 (lv_at hl 0 rfl) ?_
          refine lv_aload_n S.1 S.2.1 dX3_endRow_25 rfl (lv_at hl 2 rfl) ?_
          refine nv_fVv (rest := []) (plO Z (a 0) (a 1) ((enP G.2.1 P 3).1) ++ plA Z a ++ voiceB Z (a 2) (a 3) (a 4) (((enP G.2.1 P 3).2) 0) ++ voiceB Z (a 5) (a 6) (a 7) (((enP G.2.1 P 3).2) 1) ++ voiceB Z (a 8) (a 9) (a 10) (((enP G.2.1 P 3).2) 2)) ([]) (ws' := plO Z (a 0) (a 1) ((enP G.2.1 P 3).1) ++ plA Z a ++ voiceB Z (a 2) (a 3) (a 4) (((enP G.2.1 P 3).2) 0) ++ voiceB Z (a 5) (a 6) (a 7) (((enP G.2.1 P 3).2) 1) ++ voiceB Z (a 8) (a 9) (a 10) (((enP G.2.1 P 3).2) 2) ++ voiceB Z (a 11) (a 12) (a 13) (endV G.2.1 (((enP G.2.1 P 3).2) 3)) ++ songB Z q9 qc qw qo G) S w hl.1 (c_X6_endRow l D Z (a 11) (a 12) (a 13) (((enP G.2.1 P 3).2) 3) q9 qc qw qo G (enP_VS hv hg8 3 (by decide) 3 (by decide)).1 (enP_VS hv hg8 3 (by decide) 3 (by decide)).2 hs) (by simp only [List.append_assoc, List.nil_append, List.append_nil]) rfl (by simp only [List.append_assoc, List.nil_append, List.append_nil]) gX3_endRow_X6_endRow rfl hdV_X6_endRow ⟨Nat.le_of_ble_eq_true rfl, Nat.le_of_ble_eq_true rfl⟩ (q0 := 0) rfl rfl rfl rfl (Nat.le_of_ble_eq_true rfl) ⟨Nat.zero_le _, Nat.zero_le _⟩ dX3_endRow_26 (fun H locs w => ?_)
          have w := w.as (ws' := plB Z a (enP G.2.1 P 4) ++ songB Z q9 qc qw qo G) (by rw [show enP G.2.1 P 4 = ((enP G.2.1 P 3).1, uv (enP G.2.1 P 3).2 3 (endV G.2.1 ((enP G.2.1 P 3).2 3))) from rfl]; exact congrArg (· ++ songB Z q9 qc qw qo G) plB_s3)
          refine lv_iinc (v := nI 4) (lv' := [(4, vI 4), (5, .ref (a 11)), (0, .ref (a 0)), (1, .ref q9), (2, .ref (a 1)), (3, vI 4)]) S.1 S.2.1 dX3_endRow_29 hl (k := 5) rfl (nI_incI 3 1) (by decide) rfl (fun ls hl => ?_)
          refine lv_goto (tgt := 11) S.1 S.2.1 dX3_endRow_32 (by decide) ?_
          exact ih 4 (by omega) (by omega) _ _ _ (lv_sub hl [2, 3, 4, 5, 0] rfl) w
set_option maxRecDepth 100000 in
set_option maxHeartbeats 4000000 in
theorem c_X3_endRow (l : Launch) (D : va_G) (Z : Nat → ClassId) (a : Nat → Nat) (P : PG) (q9 qc qw qo : Nat) (G : SG) (hs : SB G) (hp : PB2 G P) : Cv l yX3_endRow wsX3_endRow 3 64 D Z [.ref (a 0), .ref q9] (plB Z a P ++ songB Z q9 qc qw qo G)  (plB Z a (erP G P) ++ songB Z q9 qc qw qo G) := by
  refine ne_v (cc := cX3_endRow) (maxL := 6) (by decide +kernel) rfl (Nat.le_of_ble_eq_true rfl) (fun p e s m args below meth c A ls (S : CallFix p m c cX3_endRow 6 s args wsX3_endRow RX3) hr hlocks hl w => ?_)
  have hg8 : ∀ i, i < 6 → G.2.1 i ≤ 8 := fun i hi => (hs.2.1 i hi).2
  obtain ⟨hp0, hp1, hp2, hp3, hp4, hv⟩ := id hp
  have hpl := hs.2.2.2.1
  have ho := hs.2.2.2.2 (P.1 0) (by omega)
  have hrw := hs.2.1 _ (show G.2.2.1 (P.1 0) < 6 by omega)
  have hl : lv_has ls 6 [(0, .ref (a 0)), (1, .ref q9)] := hl
  refine lv_aload_n S.1 S.2.1 dX3_endRow_0 rfl (lv_at hl 0 rfl) ?_
  refine nv_get S w (C := RX3) (T := TX3) (N := 7) hn_X3_endRow_3 0 rfl rfl 6 (by decide) (List.mem_of_getElem? (i := 1) rfl) (v := .ref (a 1)) rfl dX3_endRow_1 ?_
  refine lv_astore_n (lv' := [(2, .ref (a 1)), (0, .ref (a 0)), (1, .ref q9)]) S.1 S.2.1 dX3_endRow_4 rfl hl (by decide) rfl (fun ls hl => ?_)
  refine lv_aload_n S.1 S.2.1 dX3_endRow_5 rfl (lv_at hl 0 rfl) ?_
  refine nv_alen S w 1 3 rfl rfl (n := 4) rfl dX3_endRow_6 ?_
  refine lv_istore_n (lv' := [(3, vI 4), (2, .ref (a 1)), (0, .ref (a 0)), (1, .ref q9)]) S.1 S.2.1 dX3_endRow_7 rfl hl (by decide) rfl (fun ls hl => ?_)
  refine lv_iconst (v := nI 0) S.1 S.2.1 dX3_endRow_8 (ofInt_nI 0) ?_
  refine lv_istore (lv' := [(4, vI 0), (3, vI 4), (2, .ref (a 1)), (0, .ref (a 0)), (1, .ref q9)]) S.1 S.2.1 dX3_endRow_9 hl (by decide) rfl (fun ls hl => ?_)
  exact k_X3_endRow l D Z a P q9 qc qw qo G hs hp S hr hlocks _ 0 (by omega) (Nat.lt_succ_self _) _ _ _ (lv_sub hl [3, 4, 2, 1, 0] rfl) w
