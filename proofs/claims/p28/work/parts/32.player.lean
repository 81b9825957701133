theorem hn_X3_cellFor_6 : ∀ w ∈ wsX60, w ∈ wsX3_cellFor := by decide +kernel
theorem hn_X3_cellFor_3 : ∀ w ∈ wsX30, w ∈ wsX3_cellFor := by decide +kernel
set_option maxRecDepth 100000 in
set_option maxHeartbeats 4000000 in
theorem c_X3_cellFor (l : Launch) (D : va_G) (Z : Nat → ClassId) (q qv : Nat) (f : Nat → Nat) (q9 qc qw qo : Nat) (G : SG) (qa qp qr : Nat) (V : Nat → Nat) (d : Nat) (hs : SB G) (h : VB V) (hf : FR V) (hd : d < 4) (h0 : f 0 < G.2.2.2) (h1 : f 1 < 8) : Ci l yX3_cellFor wsX3_cellFor 2 45 D Z [.ref q, .ref q9, .ref qa, vI d] (plO Z q qv f ++ songB Z q9 qc qw qo G ++ voiceB Z qa qp qr V) (nI (pk (rdc G f V d))) (plO Z q qv f ++ songB Z q9 qc qw qo G ++ voiceB Z qa qp qr V) := by
  refine ne_i (cc := cX3_cellFor) (maxL := 4) (by decide +kernel) rfl (Nat.le_of_ble_eq_true rfl) (fun p e s m args below meth c A ls (S : CallFix p m c cX3_cellFor 4 s args wsX3_cellFor RX3) hr hlocks hl w => ?_)
  have h2 := h
  unfold VB at h2
  have hp1 := hs.2.2.2.1
  have ho := hs.2.2.2.2 (f 0) (by omega)
  have hl : lv_has ls 4 [(0, .ref q), (1, .ref q9), (2, .ref qa), (3, vI d)] := hl
  refine lv_aload_n S.1 S.2.1 dX3_cellFor_0 rfl (lv_at hl 2 rfl) ?_
  refine nv_get S w (C := RX6) (T := TX6) (N := 9) hn_X3_cellFor_6 5 rfl rfl 5 (by decide) (List.mem_of_getElem? (i := 1) rfl) (v := vI (V 4)) rfl dX3_cellFor_1 ?_
  refine nv_if_le S (by omega) (tgt := 21) dX3_cellFor_4 (by decide) (fun h_1 => ?_) (fun h_1 => ?_)
  · skip
    refine lv_aload_n S.1 S.2.1 dX3_cellFor_21 rfl (lv_at hl 1 rfl) ?_
    refine lv_aload_n S.1 S.2.1 dX3_cellFor_22 rfl (lv_at hl 1 rfl) ?_
    refine lv_aload_n S.1 S.2.1 dX3_cellFor_23 rfl (lv_at hl 0 rfl) ?_
    refine nv_get S w (C := RX3) (T := TX3) (N := 7) hn_X3_cellFor_3 0 rfl rfl 0 (by decide) (List.mem_of_getElem? (i := 2) rfl) (v := vI (f 0)) rfl dX3_cellFor_24 ?_
    refine nv_rVi (rest := [.ref q9]) S w hl.1 (c_X4_patternAt l D Z q9 qc qw qo G (f 0) (by omega) (by omega)) [1, 2, 3, 4] rfl rfl gX3_cellFor_X4_patternAt rfl hdV_X4_patternAt ⟨Nat.le_of_ble_eq_true rfl, Nat.le_of_ble_eq_true rfl⟩ (q0 := 0) rfl rfl rfl rfl (Nat.le_of_ble_eq_true rfl) ⟨Nat.zero_le _, Nat.zero_le _⟩ dX3_cellFor_27 (fun H locs w => ?_)
    refine lv_aload_n S.1 S.2.1 dX3_cellFor_30 rfl (lv_at hl 0 rfl) ?_
    refine nv_get S w (C := RX3) (T := TX3) (N := 7) hn_X3_cellFor_3 0 rfl rfl 1 (by decide) (List.mem_of_getElem? (i := 3) rfl) (v := vI (f 1)) rfl dX3_cellFor_31 ?_
    refine lv_iload_n S.1 S.2.1 dX3_cellFor_34 rfl (lv_at hl 3 rfl) ?_
    refine nv_rVi (rest := []) S w hl.1 (c_X4_cellAt l D Z q9 qc qw qo G (G.2.2.1 (f 0)) (f 1) d (by omega) (by omega) (by omega)) [1, 2, 3, 4] rfl rfl gX3_cellFor_X4_cellAt rfl hdV_X4_cellAt ⟨Nat.le_of_ble_eq_true rfl, Nat.le_of_ble_eq_true rfl⟩ (q0 := 0) rfl rfl rfl rfl (Nat.le_of_ble_eq_true rfl) ⟨Nat.zero_le _, Nat.zero_le _⟩ dX3_cellFor_35 (fun H locs w => ?_)
    exact nv_iret S w hr hlocks rfl (by unfold rdc; rw [if_pos h_1]) rfl dX3_cellFor_38
  · skip
    have hfp := VB_fp h (by omega)
    have htp := hf.top (by omega)
    refine lv_aload_n S.1 S.2.1 dX3_cellFor_7 rfl (lv_at hl 1 rfl) ?_
    refine lv_aload_n S.1 S.2.1 dX3_cellFor_8 rfl (lv_at hl 2 rfl) ?_
    refine nv_rVi (rest := [.ref q9]) S w hl.1 (c_X6_latestPattern l D Z qa qp qr V h (by omega)) [5, 6, 7] rfl rfl gX3_cellFor_X6_latestPattern rfl hdV_X6_latestPattern ⟨Nat.le_of_ble_eq_true rfl, Nat.le_of_ble_eq_true rfl⟩ (q0 := 0) rfl rfl rfl rfl (Nat.le_of_ble_eq_true rfl) ⟨Nat.zero_le _, Nat.zero_le _⟩ dX3_cellFor_9 (fun H locs w => ?_)
    refine lv_aload_n S.1 S.2.1 dX3_cellFor_12 rfl (lv_at hl 2 rfl) ?_
    refine nv_rVi (rest := [vI (V (5 + 2 * (V 4 - 1))), .ref q9]) S w hl.1 (c_X6_latestRow l D Z qa qp qr V h (by omega)) [5, 6, 7] rfl rfl gX3_cellFor_X6_latestRow rfl hdV_X6_latestRow ⟨Nat.le_of_ble_eq_true rfl, Nat.le_of_ble_eq_true rfl⟩ (q0 := 0) rfl rfl rfl rfl (Nat.le_of_ble_eq_true rfl) ⟨Nat.zero_le _, Nat.zero_le _⟩ dX3_cellFor_13 (fun H locs w => ?_)
    refine lv_iload_n S.1 S.2.1 dX3_cellFor_16 rfl (lv_at hl 3 rfl) ?_
    refine nv_rVi (rest := []) S w hl.1 (c_X4_cellAt l D Z q9 qc qw qo G (V (5 + 2 * (V 4 - 1))) (V (6 + 2 * (V 4 - 1))) d (by omega) (by omega) (by omega)) [1, 2, 3, 4] rfl rfl gX3_cellFor_X4_cellAt rfl hdV_X4_cellAt ⟨Nat.le_of_ble_eq_true rfl, Nat.le_of_ble_eq_true rfl⟩ (q0 := 0) rfl rfl rfl rfl (Nat.le_of_ble_eq_true rfl) ⟨Nat.zero_le _, Nat.zero_le _⟩ dX3_cellFor_17 (fun H locs w => ?_)
    exact nv_iret S w hr hlocks rfl (by unfold rdc; rw [if_neg (by omega)]) rfl dX3_cellFor_20

theorem hn_X3_goOn_3 : ∀ w ∈ wsX30, w ∈ wsX3_goOn := by decide +kernel
theorem hdV_X6_goOn : yX6_goOn.cls = RX6 ∧ yX6_goOn.cls ≠ "java/lang/invoke/MethodHandle" ∧ yX6_goOn.cls ≠ "java/lang/invoke/VarHandle" ∧ (parseMethodDescriptor yX6_goOn.desc).map (fun d => d.parameters.length) = some 1 := by decide +kernel
set_option maxRecDepth 100000 in
set_option maxHeartbeats 4000000 in
theorem k_X3_goOn (l : Launch) (D : va_G) (Z : Nat → ClassId) (a : Nat → Nat) (P : PG) (hv : VS P.2) (ht : P.1 2 < 2 ^ 31) {p : Program} {e : Env} {s : State} {m : MethodId} {args : Array Value} {below : List Frame} {meth : Method} {c : Code} {A : Nat → Prop} (S : CallFix p m c cX3_goOn 5 s args wsX3_goOn RX3) (hr : meth.sig.returnType = none) (hlocks : meth.locks = false) : ∀ (n9 : Nat), (∀ (i : Nat) (hi4 : i ≤ 4) (hm : 4 - i < n9), ∀ (H : Heap) (locs : List Loc) (ls : Array Slot) (hl : lv_has ls 5 [(0, .ref (a 0)), (1, .ref (a 1)), (2, vI 4), (3, vI i)]) (w : Wd D Z A s (plB Z a (goP (P.1 2) P i)) H locs), W p l e (rmO 3 63) s m args below meth c H locs 0 0 (Qv below D Z A args s (plB Z a (P.1, (goP (P.1 2) P 4).2))) (F0 m 10 ls [])) := by
  intro n9
  induction n9 with
  | zero => intro i hi4 hm; exact absurd hm (Nat.not_lt_zero _)
  | succ n9 ih =>
    skip
    · intro i hi4 hm H locs ls hl w
      refine lv_iload_n S.1 S.2.1 dX3_goOn_10 rfl (lv_at hl 3 rfl) ?_
      refine lv_iload_n S.1 S.2.1 dX3_goOn_11 rfl (lv_at hl 2 rfl) ?_
      refine nv_icmp_ge S (by omega) (by omega) (tgt := 35) dX3_goOn_12 (by decide) (fun h_1 => ?_) (fun h_1 => ?_)
      · skip
        exact nv_vret S w hr hlocks (by rw [show i = 4 by omega]; rw [show goP (P.1 2) P 4 = (P.1, (goP (P.1 2) P 4).2) from Prod.ext (goP_1 4) rfl]) dX3_goOn_35
      · skip
        rcases (show i = 0 ∨ i = 1 ∨ i = 2 ∨ i = 3 by omega) with rfl | rfl | rfl | rfl
        · skip
          refine lv_aload_n S.1 S.2.1 dX3_goOn_15 rfl (lv_at hl 1 rfl) ?_
          have w := w.as (ws' := plO Z (a 0) (a 1) ((goP (P.1 2) P 0).1) ++ plA Z a ++ voiceB Z (a 2) (a 3) (a 4) (((goP (P.1 2) P 0).2) 0) ++ voiceB Z (a 5) (a 6) (a 7) (((goP (P.1 2) P 0).2) 1) ++ voiceB Z (a 8) (a 9) (a 10) (((goP (P.1 2) P 0).2) 2) ++ voiceB Z (a 11) (a 12) (a 13) (((goP (P.1 2) P 0).2) 3)) rfl
          refine lv_iload_n S.1 S.2.1 dX3_goOn_16 rfl (lv_at hl 3 rfl) ?_
          refine nv_aald S w (i := 0) (q := (a 2)) 1 3 rfl rfl (by omega) (by decide) rfl dX3_goOn_17 ?_
          refine lv_astore (lv' := [(4, .ref (a 2)), (0, .ref (a 0)), (1, .ref (a 1)), (2, vI 4), (3, vI 0)]) S.1 S.2.1 dX3_goOn_18 hl (by decide) rfl (fun ls hl => ?_)
          refine lv_aload S.1 S.2.1 dX3_goOn_20 (lv_at hl 0 rfl) ?_
          refine lv_aload_n S.1 S.2.1 dX3_goOn_22 rfl (lv_at hl 1 rfl) ?_
          refine nv_get S w (C := RX3) (T := TX3) (N := 7) hn_X3_goOn_3 0 rfl rfl 2 (by decide) (List.mem_of_getElem? (i := 2) rfl) (v := vI (((goP (P.1 2) P 0).1) 2)) rfl dX3_goOn_23 ?_
          refine nv_cVv (rest := []) (ws' := plO Z (a 0) (a 1) ((goP (P.1 2) P 0).1) ++ plA Z a ++ voiceB Z (a 2) (a 3) (a 4) (goV (((goP (P.1 2) P 0).2) 0) (((goP (P.1 2) P 0).1) 2)) ++ voiceB Z (a 5) (a 6) (a 7) (((goP (P.1 2) P 0).2) 1) ++ voiceB Z (a 8) (a 9) (a 10) (((goP (P.1 2) P 0).2) 2) ++ voiceB Z (a 11) (a 12) (a 13) (((goP (P.1 2) P 0).2) 3)) S w hl.1 (c_X6_goOn l D Z (a 2) (a 3) (a 4) (((goP (P.1 2) P 0).2) 0) (((goP (P.1 2) P 0).1) 2) (goP_VS hv 0 (by decide) 0 (by decide)).1 (by rw [goP_1]; exact ht)) [2, 3, 4] rfl rfl rfl rfl gX3_goOn_X6_goOn rfl hdV_X6_goOn ⟨Nat.le_of_ble_eq_true rfl, Nat.le_of_ble_eq_true rfl⟩ (q0 := 0) rfl rfl rfl rfl (Nat.le_of_ble_eq_true rfl) ⟨Nat.zero_le _, Nat.zero_le _⟩ dX3_goOn_26 (fun H locs w => ?_)
          have w := w.as (ws' := plB Z a (goP (P.1 2) P 1)) (by show _ = plB Z a ((goP (P.1 2) P 0).1, uv (goP (P.1 2) P 0).2 0 (goV ((goP (P.1 2) P 0).2 0) (P.1 2))); rw [show (goP (P.1 2) P 0).1 2 = P.1 2 by rw [goP_1]]; rfl)
          refine lv_iinc (v := nI 1) (lv' := [(3, vI 1), (4, .ref (a 2)), (0, .ref (a 0)), (1, .ref (a 1)), (2, vI 4)]) S.1 S.2.1 dX3_goOn_29 hl (k := 4) rfl (nI_incI 0 1) (by decide) rfl (fun ls hl => ?_)
          refine lv_goto (tgt := 10) S.1 S.2.1 dX3_goOn_32 (by decide) ?_
          exact ih 1 (by omega) (by omega) _ _ _ (lv_sub hl [2, 3, 4, 0] rfl) w
        · skip
          refine lv_aload_n S.1 S.2.1 dX3_goOn_15 rfl (lv_at hl 1 rfl) ?_
          have w := w.as (ws' := plO Z (a 0) (a 1) ((goP (P.1 2) P 1).1) ++ plA Z a ++ voiceB Z (a 2) (a 3) (a 4) (((goP (P.1 2) P 1).2) 0) ++ voiceB Z (a 5) (a 6) (a 7) (((goP (P.1 2) P 1).2) 1) ++ voiceB Z (a 8) (a 9) (a 10) (((goP (P.1 2) P 1).2) 2) ++ voiceB Z (a 11) (a 12) (a 13) (((goP (P.1 2) P 1).2) 3)) rfl
          refine lv_iload_n S.1 S.2.1 dX3_goOn_16 rfl (lv_at hl 3 rfl) ?_
          refine nv_aald S w (i := 1) (q := (a 5)) 1 3 rfl rfl (by omega) (by decide) rfl dX3_goOn_17 ?_
          refine lv_astore (lv' := [(4, .ref (a 5)), (0, .ref (a 0)), (1, .ref (a 1)), (2, vI 4), (3, vI 1)]) S.1 S.2.1 dX3_goOn_18 hl (by decide) rfl (fun ls hl => ?_)
          refine lv_aload S.1 S.2.1 dX3_goOn_20 (lv_at hl 0 rfl) ?_
          refine lv_aload_n S.1 S.2.1 dX3_goOn_22 rfl (lv_at hl 1 rfl) ?_
          refine nv_get S w (C := RX3) (T := TX3) (N := 7) hn_X3_goOn_3 0 rfl rfl 2 (by decide) (List.mem_of_getElem? (i := 2) rfl) (v := vI (((goP (P.1 2) P 1).1) 2)) rfl dX3_goOn_23 ?_
          refine nv_cVv (rest := []) (ws' := plO Z (a 0) (a 1) ((goP (P.1 2) P 1).1) ++ plA Z a ++ voiceB Z (a 2) (a 3) (a 4) (((goP (P.1 2) P 1).2) 0) ++ voiceB Z (a 5) (a 6) (a 7) (goV (((goP (P.1 2) P 1).2) 1) (((goP (P.1 2) P 1).1) 2)) ++ voiceB Z (a 8) (a 9) (a 10) (((goP (P.1 2) P 1).2) 2) ++ voiceB Z (a 11) (a 12) (a 13) (((goP (P.1 2) P 1).2) 3)) S w hl.1 (c_X6_goOn l D Z (a 5) (a 6) (a 7) (((goP (P.1 2) P 1).2) 1) (((goP (P.1 2) P 1).1) 2) (goP_VS hv 1 (by decide) 1 (by decide)).1 (by rw [goP_1]; exact ht)) [5, 6, 7] rfl rfl rfl rfl gX3_goOn_X6_goOn rfl hdV_X6_goOn ⟨Nat.le_of_ble_eq_true rfl, Nat.le_of_ble_eq_true rfl⟩ (q0 := 0) rfl rfl rfl rfl (Nat.le_of_ble_eq_true rfl) ⟨Nat.zero_le _, Nat.zero_le _⟩ dX3_goOn_26 (fun H locs w => ?_)
          have w := w.as (ws' := plB Z a (goP (P.1 2) P 2)) (by show _ = plB Z a ((goP (P.1 2) P 1).1, uv (goP (P.1 2) P 1).2 1 (goV ((goP (P.1 2) P 1).2 1) (P.1 2))); rw [show (goP (P.1 2) P 1).1 2 = P.1 2 by rw [goP_1]]; rfl)
          refine lv_iinc (v := nI 2) (lv' := [(3, vI 2), (4, .ref (a 5)), (0, .ref (a 0)), (1, .ref (a 1)), (2, vI 4)]) S.1 S.2.1 dX3_goOn_29 hl (k := 4) rfl (nI_incI 1 1) (by decide) rfl (fun ls hl => ?_)
          refine lv_goto (tgt := 10) S.1 S.2.1 dX3_goOn_32 (by decide) ?_
          exact ih 2 (by omega) (by omega) _ _ _ (lv_sub hl [2, 3, 4, 0] rfl) w
        · skip
          refine lv_aload_n S.1 S.2.1 dX3_goOn_15 rfl (lv_at hl 1 rfl) ?_
          have w := w.as (ws' := plO Z (a 0) (a 1) ((goP (P.1 2) P 2).1) ++ plA Z a ++ voiceB Z (a 2) (a 3) (a 4) (((goP (P.1 2) P 2).2) 0) ++ voiceB Z (a 5) (a 6) (a 7) (((goP (P.1 2) P 2).2) 1) ++ voiceB Z (a 8) (a 9) (a 10) (((goP (P.1 2) P 2).2) 2) ++ voiceB Z (a 11) (a 12) (a 13) (((goP (P.1 2) P 2).2) 3)) rfl
          refine lv_iload_n S.1 S.2.1 dX3_goOn_16 rfl (lv_at hl 3 rfl) ?_
          refine nv_aald S w (i := 2) (q := (a 8)) 1 3 rfl rfl (by omega) (by decide) rfl dX3_goOn_17 ?_
          refine lv_astore (lv' := [(4, .ref (a 8)), (0, .ref (a 0)), (1, .ref (a 1)), (2, vI 4), (3, vI 2)]) S.1 S.2.1 dX3_goOn_18 hl (by decide) rfl (fun ls hl => ?_)
          refine lv_aload S.1 S.2.1 dX3_goOn_20 (lv_at hl 0 rfl) ?_
          refine lv_aload_n S.1 S.2.1 dX3_goOn_22 rfl (lv_at hl 1 rfl) ?_
          refine nv_get S w (C := RX3) (T := TX3) (N := 7) hn_X3_goOn_3 0 rfl rfl 2 (by decide) (List.mem_of_getElem? (i := 2) rfl) (v := vI (((goP (P.1 2) P 2).1) 2)) rfl dX3_goOn_23 ?_
          refine nv_cVv (rest := []) (ws' := plO Z (a 0) (a 1) ((goP (P.1 2) P 2).1) ++ plA Z a ++ voiceB Z (a 2) (a 3) (a 4) (((goP (P.1 2) P 2).2) 0) ++ voiceB Z (a 5) (a 6) (a 7) (((goP (P.1 2) P 2).2) 1) ++ voiceB Z (a 8) (a 9) (a 10) (goV (((goP (P.1 2) P 2).2) 2) (((goP (P.1 2) P 2).1) 2)) ++ voiceB Z (a 11) (a 12) (a 13) (((goP (P.1 2) P 2).2) 3)) S w hl.1 (c_X6_goOn l D Z (a 8) (a 9) (a 10) (((goP (P.1 2) P 2).2) 2) (((goP (P.1 2) P 2).1) 2) (goP_VS hv 2 (by decide) 2 (by decide)).1 (by rw [goP_1]; exact ht)) [8, 9, 10] rfl rfl rfl rfl gX3_goOn_X6_goOn rfl hdV_X6_goOn ⟨Nat.le_of_ble_eq_true rfl, Nat.le_of_ble_eq_true rfl⟩ (q0 := 0) rfl rfl rfl rfl (Nat.le_of_ble_eq_true rfl) ⟨Nat.zero_le _, Nat.zero_le _⟩ dX3_goOn_26 (fun H locs w => ?_)
          have w := w.as (ws' := plB Z a (goP (P.1 2) P 3)) (by show _ = plB Z a ((goP (P.1 2) P 2).1, uv (goP (P.1 2) P 2).2 2 (goV ((goP (P.1 2) P 2).2 2) (P.1 2))); rw [show (goP (P.1 2) P 2).1 2 = P.1 2 by rw [goP_1]]; rfl)
          refine lv_iinc (v := nI 3) (lv' := [(3, vI 3), (4, .ref (a 8)), (0, .ref (a 0)), (1, .ref (a 1)), (2, vI 4)]) S.1 S.2.1 dX3_goOn_29 hl (k := 4) rfl (nI_incI 2 1) (by decide) rfl (fun ls hl => ?_)
          refine lv_goto (tgt := 10) S.1 S.2.1 dX3_goOn_32 (by decide) ?_
          exact ih 3 (by omega) (by omega) _ _ _ (lv_sub hl [2, 3, 4, 0] rfl) w
        · skip
          refine lv_aload_n S.1 S.2.1 dX3_goOn_15 rfl (lv_at hl 1 rfl) ?_
          have w := w.as (ws' := plO Z (a 0) (a 1) ((goP (P.1 2) P 3).1) ++ plA Z a ++ voiceB Z (a 2) (a 3) (a 4) (((goP (P.1 2) P 3).2) 0) ++ voiceB Z (a 5) (a 6) (a 7) (((goP (P.1 2) P 3).2) 1) ++ voiceB Z (a 8) (a 9) (a 10) (((goP (P.1 2) P 3).2) 2) ++ voiceB Z (a 11) (a 12) (a 13) (((goP (P.1 2) P 3).2) 3)) rfl
          refine lv_iload_n S.1 S.2.1 dX3_goOn_16 rfl (lv_at hl 3 rfl) ?_
          refine nv_aald S w (i := 3) (q := (a 11)) 1 3 rfl rfl (by omega) (by decide) rfl dX3_goOn_17 ?_
          refine lv_astore (lv' := [(4, .ref (a 11)), (0, .ref (a 0)), (1, .ref (a 1)), (2, vI 4), (3, vI 3)]) S.1 S.2.1 dX3_goOn_18 hl (by decide) rfl (fun ls hl => ?_)
          refine lv_aload S.1 S.2.1 dX3_goOn_20 (lv_at hl 0 rfl) ?_
          refine lv_aload_n S.1 S.2.1 dX3_goOn_22 rfl (lv_at hl 1 rfl) ?_
          refine nv_get S w (C := RX3) (T := TX3) (N := 7) hn_X3_goOn_3 0 rfl rfl 2 (by decide) (List.mem_of_getElem? (i := 2) rfl) (v := vI (((goP (P.1 2) P 3).1) 2)) rfl dX3_goOn_23 ?_
          refine nv_cVv (rest := []) (ws' := plO Z (a 0) (a 1) ((goP (P.1 2) P 3).1) ++ plA Z a ++ voiceB Z (a 2) (a 3) (a 4) (((goP (P.1 2) P 3).2) 0) ++ voiceB Z (a 5) (a 6) (a 7) (((goP (P.1 2) P 3).2) 1) ++ voiceB Z (a 8) (a 9) (a 10) (((goP (P.1 2) P 3).2) 2) ++ voiceB Z (a 11) (a 12) (a 13) (goV (((goP (P.1 2) P 3).2) 3) (((goP (P.1 2) P 3).1) 2))) S w hl.1 (c_X6_goOn l D Z (a 11) (a 12) (a 13) (((goP (P.1 2) P 3).2) 3) (((goP (P.1 2) P 3).1) 2) (goP_VS hv 3 (by decide) 3 (by decide)).1 (by rw [goP_1]; exact ht)) [11, 12, 13] rfl rfl rfl rfl gX3_goOn_X6_goOn rfl hdV_X6_goOn ⟨Nat.le_of_ble_eq_true rfl, Nat.le_of_ble_eq_true rfl⟩ (q0 := 0) rfl rfl rfl rfl (Nat.le_of_ble_eq_true rfl) ⟨Nat.zero_le _, Nat.zero_le _⟩ dX3_goOn_26 (fun H locs w => ?_)
          have w := w.as (ws' := plB Z a (goP (P.1 2) P 4)) (by show _ = plB Z a ((goP (P.1 2) P 3).1, uv (goP (P.1 2) P 3).2 3 (goV ((goP (P.1 2) P 3).2 3) (P.1 2))); rw [show (goP (P.1 2) P 3).1 2 = P.1 2 by rw [goP_1]]; rfl)
          refine lv_iinc (v := nI 4) (lv' := [(3, vI 4), (4, .ref (a 11)), (0, .ref (a 0)), (1, .ref (a 1)), (2, vI 4)]) S.1 S.2.1 dX3_goOn_29 hl (k := 4) rfl (nI_incI 3 1) (by decide) rfl (fun ls hl => ?_)
          refine lv_goto (tgt := 10) S.1 S.2.1 dX3_goOn_32 (by decide) ?_
          exact ih 4 (by omega) (by omega) _ _ _ (lv_sub hl [2, 3, 4, 0] rfl) w
set_option maxRecDepth 100000 in
set_option maxHeartbeats 4000000 in
theorem c_X3_goOn (l : Launch) (D : va_G) (Z : Nat → ClassId) (a : Nat → Nat) (P : PG) (hv : VS P.2) (ht : P.1 2 < 2 ^ 31) : Cv l yX3_goOn wsX3_goOn 3 63 D Z [.ref (a 0)] (plB Z a P)  (plB Z a (P.1, (goP (P.1 2) P 4).2)) := by
  refine ne_v (cc := cX3_goOn) (maxL := 5) (by decide +kernel) rfl (Nat.le_of_ble_eq_true rfl) (fun p e s m args below meth c A ls (S : CallFix p m c cX3_goOn 5 s args wsX3_goOn RX3) hr hlocks hl w => ?_)
  have hl : lv_has ls 5 [(0, .ref (a 0))] := hl
  refine lv_aload_n S.1 S.2.1 dX3_goOn_0 rfl (lv_at hl 0 rfl) ?_
  refine nv_get S w (C := RX3) (T := TX3) (N := 7) hn_X3_goOn_3 0 rfl rfl 6 (by decide) (List.mem_of_getElem? (i := 1) rfl) (v := .ref (a 1)) rfl dX3_goOn_1 ?_
  refine lv_astore_n (lv' := [(1, .ref (a 1)), (0, .ref (a 0))]) S.1 S.2.1 dX3_goOn_4 rfl hl (by decide) rfl (fun ls hl => ?_)
  refine lv_aload_n S.1 S.2.1 dX3_goOn_5 rfl (lv_at hl 0 rfl) ?_
  refine nv_alen S w 1 3 rfl rfl (n := 4) rfl dX3_goOn_6 ?_
  refine lv_istore_n (lv' := [(2, vI 4), (1, .ref (a 1)), (0, .ref (a 0))]) S.1 S.2.1 dX3_goOn_7 rfl hl (by decide) rfl (fun ls hl => ?_)
  refine lv_iconst (v := nI 0) S.1 S.2.1 dX3_goOn_8 (ofInt_nI 0) ?_
  refine lv_istore_n (lv' := [(3, vI 0), (2, vI 4), (1, .ref (a 1)), (0, .ref (a 0))]) S.1 S.2.1 dX3_goOn_9 rfl hl (by decide) rfl (fun ls hl => ?_)
  exact k_X3_goOn l D Z a P hv ht S hr hlocks _ 0 (by omega) (Nat.lt_succ_self _) _ _ _ (lv_sub hl [3, 2, 1, 0] rfl) w
