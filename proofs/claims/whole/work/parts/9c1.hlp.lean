theorem hdV_X7_cell : yX7_cell.cls = RX7 ∧ yX7_cell.cls ≠ "java/lang/invoke/MethodHandle" ∧ yX7_cell.cls ≠ "java/lang/invoke/VarHandle" ∧ (parseMethodDescriptor yX7_cell.desc).map (fun d => d.parameters.length) = some 4 := by decide +kernel
set_option maxRecDepth 100000 in
set_option maxHeartbeats 4000000 in
theorem c_L_cell (l : Launch) (hst : l.stackTraces = false) (D : va_G) (Z : Nat → ClassId) (z : Nat → Nat → Nat) (X : ST) (o n : Nat) (Y : Nat → ST) (tl ti ta tr : Nat) (t : Nat → Nat) (k : Nat → Nat → Nat) (P9 : PG) (xa xb xd xn : Int32) (qo : Nat) (fo : Nat → Int64) (hX : XB X) : Xh l yL_cell wsL_cell 8 128 2 12 D Z [.ref (z 0 0), .int xa, .int xb, .int xd, .int xn, .ref qo] (tpO Z z ++ plB Z (z 8) P9 ++ stB Z (z 1) X ++ ptB Z (z 7 0) (z 7 1) (z 7 2) tl ti ta tr t k ++ hiB Z (z 2 0) (z 2 1) (fun r => z (3 + r)) o n Y ++ [(qo, .inl (Z 4, 1, .inr (.inl fo)))]) (cd2 "java/lang/IndexOutOfBoundsException" (xI (celI xa xb xd) eIX (xI (rgI 0 3 xn) eIA none))) (selW (xI (celI xa xb xd) eIX (xI (rgI 0 3 xn) eIA none)) (tpO Z z ++ plB Z (z 8) P9 ++ stB Z (z 1) X ++ ptB Z (z 7 0) (z 7 1) (z 7 2) tl ti ta tr t k ++ hiB Z (z 2 0) (z 2 1) (fun r => z (3 + r)) o n Y ++ [(qo, .inl (Z 4, 1, .inr (.inl fo)))]) (tpO Z z ++ plB Z (z 8) P9 ++ stB Z (z 1) X ++ ptB Z (z 7 0) (z 7 1) (z 7 2) tl ti ta tr t k ++ hiB Z (z 2 0) (z 2 1) (fun r => z (3 + r)) o n Y ++ [(qo, .inl (Z 4, 1, .inr (.inl (vp_updL fo 0 (nI (X.1.1 (cix (toN xa) (toN xb) (toN xd)) (toN xn))).toInt64))))])) := by
  refine nh_e (cc := cL_cell) (maxL := 7) (by decide +kernel) rfl (Nat.le_of_ble_eq_true rfl) (fun p e s m args below meth c A ls (S : CallFix p m c cL_cell 7 s args wsL_cell RL) hr hlocks htab X9 hnc hl w => ?_)
  have hl : lv_has ls 7 [(0, .ref (z 0 0)), (1, .int xa), (2, .int xb), (3, .int xd), (4, .int xn), (5, .ref qo)] := hl
  refine lv_aload S.1 S.2.1 dL_cell_0 (lv_at hl 5 rfl) ?_
  refine lv_iconst (v := nI 0) S.1 S.2.1 dL_cell_2 (ofInt_nI 0) ?_
  refine lv_aload_n S.1 S.2.1 dL_cell_3 rfl (lv_at hl 0 rfl) ?_
  refine lv_iload_n S.1 S.2.1 dL_cell_4 rfl (lv_at hl 1 rfl) ?_
  refine lv_iload_n S.1 S.2.1 dL_cell_5 rfl (lv_at hl 2 rfl) ?_
  refine lv_iload_n S.1 S.2.1 dL_cell_6 rfl (lv_at hl 3 rfl) ?_
  refine lv_iload S.1 S.2.1 dL_cell_7 (lv_at hl 4 rfl) ?_
  refine nx_fVi [] ([(qo, .inl (Z 4, 1, .inr (.inl fo)))]) (ws' := tpO Z z ++ plB Z (z 8) P9 ++ stB Z (z 1) X ++ ptB Z (z 7 0) (z 7 1) (z 7 2) tl ti ta tr t k ++ hiB Z (z 2 0) (z 2 1) (fun r => z (3 + r)) o n Y ++ [(qo, .inl (Z 4, 1, .inr (.inl fo)))]) (rest := [vI 0, .ref qo]) S w X9 hl.1 (c_X7_cell l hst D Z z X o n Y tl ti ta tr t k P9 xa xb xd xn hX) rfl rfl rfl gL_cell_X7_cell rfl hdV_X7_cell ⟨(Nat.le_of_ble_eq_true rfl), (Nat.le_of_ble_eq_true rfl)⟩ (q0 := 0) rfl rfl rfl rfl (Nat.le_of_ble_eq_true rfl) ⟨(Nat.le_of_ble_eq_true rfl), (Nat.le_of_ble_eq_true rfl)⟩ dL_cell_9 (fun E9 ce q9 H locs hE w hc9 hv9 hf9 => ?_) (fun hN H locs w => ?_)
  · skip
    rcases exIn2 (A := "java/lang/IndexOutOfBoundsException") (B := "java/lang/IllegalArgumentException") (show exIn (xI (celI xa xb xd) eIX (xI (rgI 0 3 xn) eIA none)) ["java/lang/IndexOutOfBoundsException", "java/lang/IllegalArgumentException"] from (exIn_x (by decide) (exIn_x (by decide) exIn_n))) hE with rfl | rfl
    · skip
      refine nh_c1 S X9 (htab.trans rfl) (by decide) rfl (by decide) (List.mem_of_getElem? (i := 1) rfl) hc9 hv9 hf9 ?_
      refine W.eq (g2 := F0 m 17 ls [.ref q9]) rfl ?_
      refine lv_astore (lv' := [(6, .ref q9), (0, .ref (z 0 0)), (1, .int xa), (2, .int xb), (3, .int xd), (4, .int xn), (5, .ref qo)]) S.1 S.2.1 dL_cell_17 hl (by decide) rfl (fun ls hl => ?_)
      refine lv_iconst (v := nI 1) S.1 S.2.1 dL_cell_19 (ofInt_nI 1) ?_
      exact nh_ret S w hr hlocks (cd2_1 hE) (selW_s hE).symm (Nat.le_of_ble_eq_true rfl) (Nat.le_of_ble_eq_true rfl) dL_cell_20
    · skip
      refine nh_c2 (E1 := "java/lang/IndexOutOfBoundsException") S X9 (htab.trans rfl) (by decide) hnc.1 (by decide) (List.mem_of_getElem? (i := 1) rfl) rfl (by decide) (List.mem_of_getElem? (i := 2) rfl) hc9 hv9 hf9 ?_
      refine W.eq (g2 := F0 m 21 ls [.ref q9]) rfl ?_
      refine lv_astore (lv' := [(6, .ref q9), (0, .ref (z 0 0)), (1, .int xa), (2, .int xb), (3, .int xd), (4, .int xn), (5, .ref qo)]) S.1 S.2.1 dL_cell_21 hl (by decide) rfl (fun ls hl => ?_)
      refine lv_iconst (v := nI 2) S.1 S.2.1 dL_cell_23 (ofInt_nI 2) ?_
      exact nh_ret S w hr hlocks (cd2_2 hE (by decide)) (selW_s hE).symm (Nat.le_of_ble_eq_true rfl) (Nat.le_of_ble_eq_true rfl) dL_cell_24
  · skip
    refine lv_i2l (v := (nI (X.1.1 (cix (toN xa) (toN xb) (toN xd)) (toN xn))).toInt64) S.1 S.2.1 dL_cell_12 rfl ?_
    refine nv_lastE (tpO Z z ++ plB Z (z 8) P9 ++ stB Z (z 1) X ++ ptB Z (z 7 0) (z 7 1) (z 7 2) tl ti ta tr t k ++ hiB Z (z 2 0) (z 2 1) (fun r => z (3 + r)) o n Y) S w (by decide) (by decide) dL_cell_13 (fun H locs w => ?_)
    refine lv_goto (tgt := 25) S.1 S.2.1 dL_cell_14 (by decide) ?_
    refine lv_iconst (v := nI 0) S.1 S.2.1 dL_cell_25 (ofInt_nI 0) ?_
    exact nh_ret S w hr hlocks (cd2_n hN) (selW_n hN).symm (Nat.le_of_ble_eq_true rfl) (Nat.le_of_ble_eq_true rfl) dL_cell_26

theorem hdV_X7_pattern : yX7_pattern.cls = RX7 ∧ yX7_pattern.cls ≠ "java/lang/invoke/MethodHandle" ∧ yX7_pattern.cls ≠ "java/lang/invoke/VarHandle" ∧ (parseMethodDescriptor yX7_pattern.desc).map (fun d => d.parameters.length) = some 2 := by decide +kernel
set_option maxRecDepth 100000 in
set_option maxHeartbeats 4000000 in
theorem c_L_pattern (l : Launch) (hst : l.stackTraces = false) (D : va_G) (Z : Nat → ClassId) (z : Nat → Nat → Nat) (X : ST) (o n : Nat) (Y : Nat → ST) (tl ti ta tr : Nat) (t : Nat → Nat) (k : Nat → Nat → Nat) (P9 : PG) (xa xn : Int32) (qo : Nat) (fo : Nat → Int64) (hX : XB X) : Xh l yL_pattern wsL_pattern 8 139 2 12 D Z [.ref (z 0 0), .int xa, .int xn, .ref qo] (tpO Z z ++ plB Z (z 8) P9 ++ stB Z (z 1) X ++ ptB Z (z 7 0) (z 7 1) (z 7 2) tl ti ta tr t k ++ hiB Z (z 2 0) (z 2 1) (fun r => z (3 + r)) o n Y ++ [(qo, .inl (Z 4, 1, .inr (.inl fo)))]) (cd2 "java/lang/IndexOutOfBoundsException" (xI (ixI 6 xa) eIX (xI (rgI 0 4 xn) eIA none))) (selW (xI (ixI 6 xa) eIX (xI (rgI 0 4 xn) eIA none)) (tpO Z z ++ plB Z (z 8) P9 ++ stB Z (z 1) X ++ ptB Z (z 7 0) (z 7 1) (z 7 2) tl ti ta tr t k ++ hiB Z (z 2 0) (z 2 1) (fun r => z (3 + r)) o n Y ++ [(qo, .inl (Z 4, 1, .inr (.inl fo)))]) (tpO Z z ++ plB Z (z 8) P9 ++ stB Z (z 1) X ++ ptB Z (z 7 0) (z 7 1) (z 7 2) tl ti ta tr t k ++ hiB Z (z 2 0) (z 2 1) (fun r => z (3 + r)) o n Y ++ [(qo, .inl (Z 4, 1, .inr (.inl (vp_updL fo 0 (nI (factP X.1 (toN xa) (toN xn))).toInt64))))])) := by
  refine nh_e (cc := cL_pattern) (maxL := 5) (by decide +kernel) rfl (Nat.le_of_ble_eq_true rfl) (fun p e s m args below meth c A ls (S : CallFix p m c cL_pattern 5 s args wsL_pattern RL) hr hlocks htab X9 hnc hl w => ?_)
  have hl : lv_has ls 5 [(0, .ref (z 0 0)), (1, .int xa), (2, .int xn), (3, .ref qo)] := hl
  refine lv_aload_n S.1 S.2.1 dL_pattern_0 rfl (lv_at hl 3 rfl) ?_
  refine lv_iconst (v := nI 0) S.1 S.2.1 dL_pattern_1 (ofInt_nI 0) ?_
  refine lv_aload_n S.1 S.2.1 dL_pattern_2 rfl (lv_at hl 0 rfl) ?_
  refine lv_iload_n S.1 S.2.1 dL_pattern_3 rfl (lv_at hl 1 rfl) ?_
  refine lv_iload_n S.1 S.2.1 dL_pattern_4 rfl (lv_at hl 2 rfl) ?_
  refine nx_fVi [] ([(qo, .inl (Z 4, 1, .inr (.inl fo)))]) (ws' := tpO Z z ++ plB Z (z 8) P9 ++ stB Z (z 1) X ++ ptB Z (z 7 0) (z 7 1) (z 7 2) tl ti ta tr t k ++ hiB Z (z 2 0) (z 2 1) (fun r => z (3 + r)) o n Y ++ [(qo, .inl (Z 4, 1, .inr (.inl fo)))]) (rest := [vI 0, .ref qo]) S w X9 hl.1 (c_X7_pattern l hst D Z z X o n Y tl ti ta tr t k P9 xa xn hX) rfl rfl rfl gL_pattern_X7_pattern rfl hdV_X7_pattern ⟨(Nat.le_of_ble_eq_true rfl), (Nat.le_of_ble_eq_true rfl)⟩ (q0 := 0) rfl rfl rfl rfl (Nat.le_of_ble_eq_true rfl) ⟨(Nat.le_of_ble_eq_true rfl), (Nat.le_of_ble_eq_true rfl)⟩ dL_pattern_5 (fun E9 ce q9 H locs hE w hc9 hv9 hf9 => ?_) (fun hN H locs w => ?_)
  · skip
    rcases exIn2 (A := "java/lang/IndexOutOfBoundsException") (B := "java/lang/IllegalArgumentException") (show exIn (xI (ixI 6 xa) eIX (xI (rgI 0 4 xn) eIA none)) ["java/lang/IndexOutOfBoundsException", "java/lang/IllegalArgumentException"] from (exIn_x (by decide) (exIn_x (by decide) exIn_n))) hE with rfl | rfl
    · skip
      refine nh_c1 S X9 (htab.trans rfl) (by decide) rfl (by decide) (List.mem_of_getElem? (i := 1) rfl) hc9 hv9 hf9 ?_
      refine W.eq (g2 := F0 m 13 ls [.ref q9]) rfl ?_
      refine lv_astore (lv' := [(4, .ref q9), (0, .ref (z 0 0)), (1, .int xa), (2, .int xn), (3, .ref qo)]) S.1 S.2.1 dL_pattern_13 hl (by decide) rfl (fun ls hl => ?_)
      refine lv_iconst (v := nI 1) S.1 S.2.1 dL_pattern_15 (ofInt_nI 1) ?_
      exact nh_ret S w hr hlocks (cd2_1 hE) (selW_s hE).symm (Nat.le_of_ble_eq_true rfl) (Nat.le_of_ble_eq_true rfl) dL_pattern_16
    · skip
      refine nh_c2 (E1 := "java/lang/IndexOutOfBoundsException") S X9 (htab.trans rfl) (by decide) hnc.1 (by decide) (List.mem_of_getElem? (i := 1) rfl) rfl (by decide) (List.mem_of_getElem? (i := 2) rfl) hc9 hv9 hf9 ?_
      refine W.eq (g2 := F0 m 17 ls [.ref q9]) rfl ?_
      refine lv_astore (lv' := [(4, .ref q9), (0, .ref (z 0 0)), (1, .int xa), (2, .int xn), (3, .ref qo)]) S.1 S.2.1 dL_pattern_17 hl (by decide) rfl (fun ls hl => ?_)
      refine lv_iconst (v := nI 2) S.1 S.2.1 dL_pattern_19 (ofInt_nI 2) ?_
      exact nh_ret S w hr hlocks (cd2_2 hE (by decide)) (selW_s hE).symm (Nat.le_of_ble_eq_true rfl) (Nat.le_of_ble_eq_true rfl) dL_pattern_20
  · skip
    refine lv_i2l (v := (nI (factP X.1 (toN xa) (toN xn))).toInt64) S.1 S.2.1 dL_pattern_8 rfl ?_
    refine nv_lastE (tpO Z z ++ plB Z (z 8) P9 ++ stB Z (z 1) X ++ ptB Z (z 7 0) (z 7 1) (z 7 2) tl ti ta tr t k ++ hiB Z (z 2 0) (z 2 1) (fun r => z (3 + r)) o n Y) S w (by decide) (by decide) dL_pattern_9 (fun H locs w => ?_)
    refine lv_goto (tgt := 21) S.1 S.2.1 dL_pattern_10 (by decide) ?_
    refine lv_iconst (v := nI 0) S.1 S.2.1 dL_pattern_21 (ofInt_nI 0) ?_
    exact nh_ret S w hr hlocks (cd2_n hN) (selW_n hN).symm (Nat.le_of_ble_eq_true rfl) (Nat.le_of_ble_eq_true rfl) dL_pattern_22

theorem hdV_X7_order : yX7_order.cls = RX7 ∧ yX7_order.cls ≠ "java/lang/invoke/MethodHandle" ∧ yX7_order.cls ≠ "java/lang/invoke/VarHandle" ∧ (parseMethodDescriptor yX7_order.desc).map (fun d => d.parameters.length) = some 1 := by decide +kernel
set_option maxRecDepth 100000 in
set_option maxHeartbeats 4000000 in
theorem c_L_order (l : Launch) (hst : l.stackTraces = false) (D : va_G) (Z : Nat → ClassId) (z : Nat → Nat → Nat) (X : ST) (o n : Nat) (Y : Nat → ST) (tl ti ta tr : Nat) (t : Nat → Nat) (k : Nat → Nat → Nat) (P9 : PG) (xa : Int32) (qo : Nat) (fo : Nat → Int64) (hX : XB X) : Xh l yL_order wsL_order 8 124 1 6 D Z [.ref (z 0 0), .int xa, .ref qo] (tpO Z z ++ plB Z (z 8) P9 ++ stB Z (z 1) X ++ ptB Z (z 7 0) (z 7 1) (z 7 2) tl ti ta tr t k ++ hiB Z (z 2 0) (z 2 1) (fun r => z (3 + r)) o n Y ++ [(qo, .inl (Z 4, 1, .inr (.inl fo)))]) (cd1 (xI (ixI X.1.2.2.2 xa) eIX none)) (selW (xI (ixI X.1.2.2.2 xa) eIX none) (tpO Z z ++ plB Z (z 8) P9 ++ stB Z (z 1) X ++ ptB Z (z 7 0) (z 7 1) (z 7 2) tl ti ta tr t k ++ hiB Z (z 2 0) (z 2 1) (fun r => z (3 + r)) o n Y ++ [(qo, .inl (Z 4, 1, .inr (.inl fo)))]) (tpO Z z ++ plB Z (z 8) P9 ++ stB Z (z 1) X ++ ptB Z (z 7 0) (z 7 1) (z 7 2) tl ti ta tr t k ++ hiB Z (z 2 0) (z 2 1) (fun r => z (3 + r)) o n Y ++ [(qo, .inl (Z 4, 1, .inr (.inl (vp_updL fo 0 (nI (X.1.2.2.1 (toN xa))).toInt64))))])) := by
  refine nh_e (cc := cL_order) (maxL := 4) (by decide +kernel) rfl (Nat.le_of_ble_eq_true rfl) (fun p e s m args below meth c A ls (S : CallFix p m c cL_order 4 s args wsL_order RL) hr hlocks htab X9 hnc hl w => ?_)
  have hl : lv_has ls 4 [(0, .ref (z 0 0)), (1, .int xa), (2, .ref qo)] := hl
  refine lv_aload_n S.1 S.2.1 dL_order_0 rfl (lv_at hl 2 rfl) ?_
  refine lv_iconst (v := nI 0) S.1 S.2.1 dL_order_1 (ofInt_nI 0) ?_
  refine lv_aload_n S.1 S.2.1 dL_order_2 rfl (lv_at hl 0 rfl) ?_
  refine lv_iload_n S.1 S.2.1 dL_order_3 rfl (lv_at hl 1 rfl) ?_
  refine nx_fVi [] ([(qo, .inl (Z 4, 1, .inr (.inl fo)))]) (ws' := tpO Z z ++ plB Z (z 8) P9 ++ stB Z (z 1) X ++ ptB Z (z 7 0) (z 7 1) (z 7 2) tl ti ta tr t k ++ hiB Z (z 2 0) (z 2 1) (fun r => z (3 + r)) o n Y ++ [(qo, .inl (Z 4, 1, .inr (.inl fo)))]) (rest := [vI 0, .ref qo]) S w X9 hl.1 (c_X7_order l hst D Z z X o n Y tl ti ta tr t k P9 xa hX) rfl rfl rfl gL_order_X7_order rfl hdV_X7_order ⟨(Nat.le_of_ble_eq_true rfl), (Nat.le_of_ble_eq_true rfl)⟩ (q0 := 0) rfl rfl rfl rfl (Nat.le_of_ble_eq_true rfl) ⟨(Nat.le_of_ble_eq_true rfl), (Nat.le_of_ble_eq_true rfl)⟩ dL_order_4 (fun E9 ce q9 H locs hE w hc9 hv9 hf9 => ?_) (fun hN H locs w => ?_)
  · skip
    obtain rfl : E9 = "java/lang/IndexOutOfBoundsException" := exIn1 (A := "java/lang/IndexOutOfBoundsException") (show exIn (xI (ixI X.1.2.2.2 xa) eIX none) ["java/lang/IndexOutOfBoundsException"] from (exIn_x (by decide) exIn_n)) hE
    refine nh_c1 S X9 (htab.trans rfl) (by decide) rfl (by decide) (List.mem_of_getElem? (i := 1) rfl) hc9 hv9 hf9 ?_
    refine W.eq (g2 := F0 m 12 ls [.ref q9]) rfl ?_
    refine lv_astore_n (lv' := [(3, .ref q9), (0, .ref (z 0 0)), (1, .int xa), (2, .ref qo)]) S.1 S.2.1 dL_order_12 rfl hl (by decide) rfl (fun ls hl => ?_)
    refine lv_iconst (v := nI 1) S.1 S.2.1 dL_order_13 (ofInt_nI 1) ?_
    exact nh_ret S w hr hlocks (cd1_s hE) (selW_s hE).symm (Nat.le_of_ble_eq_true rfl) (Nat.le_of_ble_eq_true rfl) dL_order_14
  · skip
    refine lv_i2l (v := (nI (X.1.2.2.1 (toN xa))).toInt64) S.1 S.2.1 dL_order_7 rfl ?_
    refine nv_lastE (tpO Z z ++ plB Z (z 8) P9 ++ stB Z (z 1) X ++ ptB Z (z 7 0) (z 7 1) (z 7 2) tl ti ta tr t k ++ hiB Z (z 2 0) (z 2 1) (fun r => z (3 + r)) o n Y) S w (by decide) (by decide) dL_order_8 (fun H locs w => ?_)
    refine lv_goto (tgt := 15) S.1 S.2.1 dL_order_9 (by decide) ?_
    refine lv_iconst (v := nI 0) S.1 S.2.1 dL_order_15 (ofInt_nI 0) ?_
    exact nh_ret S w hr hlocks (cd1_n hN) (selW_n hN).symm (Nat.le_of_ble_eq_true rfl) (Nat.le_of_ble_eq_true rfl) dL_order_16

theorem hdV_X7_play : yX7_play.cls = RX7 ∧ yX7_play.cls ≠ "java/lang/invoke/MethodHandle" ∧ yX7_play.cls ≠ "java/lang/invoke/VarHandle" ∧ (parseMethodDescriptor yX7_play.desc).map (fun d => d.parameters.length) = some 1 := by decide +kernel
set_option maxRecDepth 100000 in
set_option maxHeartbeats 4000000 in
theorem c_L_play (l : Launch) (hst : l.stackTraces = false) (D : va_G) (Z : Nat → ClassId) (z : Nat → Nat → Nat) (X : ST) (o n : Nat) (Y : Nat → ST) (tl ti ta tr : Nat) (t : Nat → Nat) (k : Nat → Nat → Nat) (P9 : PG) (xa : Int32) (qo : Nat) (fo : Nat → Int64) (ho : o < 4) (hn : n ≤ 4) (hX : XB X) : Xh l yL_play wsL_play 8 166 2 12 D Z [.ref (z 0 0), .int xa, .ref qo] (tpO Z z ++ plB Z (z 8) P9 ++ stB Z (z 1) X ++ ptB Z (z 7 0) (z 7 1) (z 7 2) tl ti ta tr t k ++ hiB Z (z 2 0) (z 2 1) (fun r => z (3 + r)) o n Y ++ [(qo, .inl (Z 4, 1, .inr (.inl fo)))]) (cd2 "java/lang/IllegalArgumentException" (xI (rgI 1 500 xa) eIA (xI (X.2.1 4 + toN xa ≤ 100000) eIS none))) (selW (xI (rgI 1 500 xa) eIA (xI (X.2.1 4 + toN xa ≤ 100000) eIS none)) (tpO Z z ++ plB Z (z 8) P9 ++ stB Z (z 1) X ++ ptB Z (z 7 0) (z 7 1) (z 7 2) tl ti ta tr t k ++ hiB Z (z 2 0) (z 2 1) (fun r => z (3 + r)) o n Y ++ [(qo, .inl (Z 4, 1, .inr (.inl fo)))]) (tpO Z z ++ plB Z (z 8) P9 ++ stB Z (z 1) (X.1, tkN X.1 X.2 (toN xa)) ++ ptB Z (z 7 0) (z 7 1) (z 7 2) tl ti ta tr t k ++ hiB Z (z 2 0) (z 2 1) (fun r => z (3 + r)) (svO o n) (svN n + 1) (svX o n Y X) ++ [(qo, .inl (Z 4, 1, .inr (.inl (vp_updL fo 0 (hsN X.1 X.2 (toN xa)).toInt64))))])) := by
  refine nh_e (cc := cL_play) (maxL := 4) (by decide +kernel) rfl (Nat.le_of_ble_eq_true rfl) (fun p e s m args below meth c A ls (S : CallFix p m c cL_play 4 s args wsL_play RL) hr hlocks htab X9 hnc hl w => ?_)
  have hl : lv_has ls 4 [(0, .ref (z 0 0)), (1, .int xa), (2, .ref qo)] := hl
  refine lv_aload_n S.1 S.2.1 dL_play_0 rfl (lv_at hl 2 rfl) ?_
  refine lv_iconst (v := nI 0) S.1 S.2.1 dL_play_1 (ofInt_nI 0) ?_
  refine lv_aload_n S.1 S.2.1 dL_play_2 rfl (lv_at hl 0 rfl) ?_
  refine lv_iload_n S.1 S.2.1 dL_play_3 rfl (lv_at hl 1 rfl) ?_
  refine nx_fVi [] ([(qo, .inl (Z 4, 1, .inr (.inl fo)))]) (ws' := tpO Z z ++ plB Z (z 8) P9 ++ stB Z (z 1) (X.1, tkN X.1 X.2 (toN xa)) ++ ptB Z (z 7 0) (z 7 1) (z 7 2) tl ti ta tr t k ++ hiB Z (z 2 0) (z 2 1) (fun r => z (3 + r)) (svO o n) (svN n + 1) (svX o n Y X) ++ [(qo, .inl (Z 4, 1, .inr (.inl fo)))]) (rest := [vI 0, .ref qo]) S w X9 hl.1 (c_X7_play l hst D Z z X o n Y tl ti ta tr t k P9 xa ho hn hX) rfl rfl rfl gL_play_X7_play rfl hdV_X7_play ⟨(Nat.le_of_ble_eq_true rfl), (Nat.le_of_ble_eq_true rfl)⟩ (q0 := 0) rfl rfl rfl rfl (Nat.le_of_ble_eq_true rfl) ⟨(Nat.le_of_ble_eq_true rfl), (Nat.le_of_ble_eq_true rfl)⟩ dL_play_4 (fun E9 ce q9 H locs hE w hc9 hv9 hf9 => ?_) (fun hN H locs w => ?_)
  · skip
    rcases exIn2 (A := "java/lang/IllegalArgumentException") (B := "java/lang/IllegalStateException") (show exIn (xI (rgI 1 500 xa) eIA (xI (X.2.1 4 + toN xa ≤ 100000) eIS none)) ["java/lang/IllegalArgumentException", "java/lang/IllegalStateException"] from (exIn_x (by decide) (exIn_x (by decide) exIn_n))) hE with rfl | rfl
    · skip
      refine nh_c1 S X9 (htab.trans rfl) (by decide) rfl (by decide) (List.mem_of_getElem? (i := 1) rfl) hc9 hv9 hf9 ?_
      refine W.eq (g2 := F0 m 12 ls [.ref q9]) rfl ?_
      refine lv_astore_n (lv' := [(3, .ref q9), (0, .ref (z 0 0)), (1, .int xa), (2, .ref qo)]) S.1 S.2.1 dL_play_12 rfl hl (by decide) rfl (fun ls hl => ?_)
      refine lv_iconst (v := nI 1) S.1 S.2.1 dL_play_13 (ofInt_nI 1) ?_
      exact nh_ret S w hr hlocks (cd2_1 hE) (selW_s hE).symm (Nat.le_of_ble_eq_true rfl) (Nat.le_of_ble_eq_true rfl) dL_play_14
    · skip
      refine nh_c2 (E1 := "java/lang/IllegalArgumentException") S X9 (htab.trans rfl) (by decide) hnc.2 (by decide) (List.mem_of_getElem? (i := 1) rfl) rfl (by decide) (List.mem_of_getElem? (i := 2) rfl) hc9 hv9 hf9 ?_
      refine W.eq (g2 := F0 m 15 ls [.ref q9]) rfl ?_
      refine lv_astore_n (lv' := [(3, .ref q9), (0, .ref (z 0 0)), (1, .int xa), (2, .ref qo)]) S.1 S.2.1 dL_play_15 rfl hl (by decide) rfl (fun ls hl => ?_)
      refine lv_iconst (v := nI 2) S.1 S.2.1 dL_play_16 (ofInt_nI 2) ?_
      exact nh_ret S w hr hlocks (cd2_2 hE (by decide)) (selW_s hE).symm (Nat.le_of_ble_eq_true rfl) (Nat.le_of_ble_eq_true rfl) dL_play_17
  · skip
    refine lv_i2l (v := (hsN X.1 X.2 (toN xa)).toInt64) S.1 S.2.1 dL_play_7 rfl ?_
    refine nv_lastE (tpO Z z ++ plB Z (z 8) P9 ++ stB Z (z 1) (X.1, tkN X.1 X.2 (toN xa)) ++ ptB Z (z 7 0) (z 7 1) (z 7 2) tl ti ta tr t k ++ hiB Z (z 2 0) (z 2 1) (fun r => z (3 + r)) (svO o n) (svN n + 1) (svX o n Y X)) S w (by decide) (by decide) dL_play_8 (fun H locs w => ?_)
    refine lv_goto (tgt := 18) S.1 S.2.1 dL_play_9 (by decide) ?_
    refine lv_iconst (v := nI 0) S.1 S.2.1 dL_play_18 (ofInt_nI 0) ?_
    exact nh_ret S w hr hlocks (cd2_n hN) (selW_n hN).symm (Nat.le_of_ble_eq_true rfl) (Nat.le_of_ble_eq_true rfl) dL_play_19

theorem hdV_X7_steal : yX7_steal.cls = RX7 ∧ yX7_steal.cls ≠ "java/lang/invoke/MethodHandle" ∧ yX7_steal.cls ≠ "java/lang/invoke/VarHandle" ∧ (parseMethodDescriptor yX7_steal.desc).map (fun d => d.parameters.length) = some 3 := by decide +kernel
set_option maxRecDepth 100000 in
set_option maxHeartbeats 4000000 in
theorem c_L_steal (l : Launch) (hst : l.stackTraces = false) (D : va_G) (Z : Nat → ClassId) (z : Nat → Nat → Nat) (X : ST) (o n : Nat) (Y : Nat → ST) (tl ti ta tr : Nat) (t : Nat → Nat) (k : Nat → Nat → Nat) (P9 : PG) (xa xn xv : Int32) (qo : Nat) (fo : Nat → Int64) (ho : o < 4) (hn : n ≤ 4) (hX : XB X) : Xh l yL_steal wsL_steal 8 134 3 18 D Z [.ref (z 0 0), .int xa, .int xn, .int xv, .ref qo] (tpO Z z ++ plB Z (z 8) P9 ++ stB Z (z 1) X ++ ptB Z (z 7 0) (z 7 1) (z 7 2) tl ti ta tr t k ++ hiB Z (z 2 0) (z 2 1) (fun r => z (3 + r)) o n Y ++ [(qo, .inl (Z 4, 1, .inr (.inl fo)))]) (cd2 "java/lang/IndexOutOfBoundsException" (xI (ixI 4 xa) eIX (xI (rgI 1 60 xn) eIA (xI (rgI 1 99 xv) eIA none)))) (selW (xI (ixI 4 xa) eIX (xI (rgI 1 60 xn) eIA (xI (rgI 1 99 xv) eIA none))) (tpO Z z ++ plB Z (z 8) P9 ++ stB Z (z 1) X ++ ptB Z (z 7 0) (z 7 1) (z 7 2) tl ti ta tr t k ++ hiB Z (z 2 0) (z 2 1) (fun r => z (3 + r)) o n Y ++ [(qo, .inl (Z 4, 1, .inr (.inl fo)))]) (tpO Z z ++ plB Z (z 8) P9 ++ stB Z (z 1) (X.1, stP X.2 (toN xa) (toN xn) (toN xv)) ++ ptB Z (z 7 0) (z 7 1) (z 7 2) tl ti ta tr t k ++ hiB Z (z 2 0) (z 2 1) (fun r => z (3 + r)) (svO o n) (svN n + 1) (svX o n Y X) ++ [(qo, .inl (Z 4, 1, .inr (.inl (vp_updL fo 0 (nI (X.2.2 (toN xa) 2)).toInt64))))])) := by
  refine nh_e (cc := cL_steal) (maxL := 6) (by decide +kernel) rfl (Nat.le_of_ble_eq_true rfl) (fun p e s m args below meth c A ls (S : CallFix p m c cL_steal 6 s args wsL_steal RL) hr hlocks htab X9 hnc hl w => ?_)
  have hl : lv_has ls 6 [(0, .ref (z 0 0)), (1, .int xa), (2, .int xn), (3, .int xv), (4, .ref qo)] := hl
  refine lv_aload S.1 S.2.1 dL_steal_0 (lv_at hl 4 rfl) ?_
  refine lv_iconst (v := nI 0) S.1 S.2.1 dL_steal_2 (ofInt_nI 0) ?_
  refine lv_aload_n S.1 S.2.1 dL_steal_3 rfl (lv_at hl 0 rfl) ?_
  refine lv_iload_n S.1 S.2.1 dL_steal_4 rfl (lv_at hl 1 rfl) ?_
  refine lv_iload_n S.1 S.2.1 dL_steal_5 rfl (lv_at hl 2 rfl) ?_
  refine lv_iload_n S.1 S.2.1 dL_steal_6 rfl (lv_at hl 3 rfl) ?_
  refine nx_fVi [] ([(qo, .inl (Z 4, 1, .inr (.inl fo)))]) (ws' := tpO Z z ++ plB Z (z 8) P9 ++ stB Z (z 1) (X.1, stP X.2 (toN xa) (toN xn) (toN xv)) ++ ptB Z (z 7 0) (z 7 1) (z 7 2) tl ti ta tr t k ++ hiB Z (z 2 0) (z 2 1) (fun r => z (3 + r)) (svO o n) (svN n + 1) (svX o n Y X) ++ [(qo, .inl (Z 4, 1, .inr (.inl fo)))]) (rest := [vI 0, .ref qo]) S w X9 hl.1 (c_X7_steal l hst D Z z X o n Y tl ti ta tr t k P9 xa xn xv ho hn hX) rfl rfl rfl gL_steal_X7_steal rfl hdV_X7_steal ⟨(Nat.le_of_ble_eq_true rfl), (Nat.le_of_ble_eq_true rfl)⟩ (q0 := 0) rfl rfl rfl rfl (Nat.le_of_ble_eq_true rfl) ⟨(Nat.le_of_ble_eq_true rfl), (Nat.le_of_ble_eq_true rfl)⟩ dL_steal_7 (fun E9 ce q9 H locs hE w hc9 hv9 hf9 => ?_) (fun hN H locs w => ?_)
  · skip
    rcases exIn2 (A := "java/lang/IndexOutOfBoundsException") (B := "java/lang/IllegalArgumentException") (show exIn (xI (ixI 4 xa) eIX (xI (rgI 1 60 xn) eIA (xI (rgI 1 99 xv) eIA none))) ["java/lang/IndexOutOfBoundsException", "java/lang/IllegalArgumentException"] from (exIn_x (by decide) (exIn_x (by decide) (exIn_x (by decide) exIn_n)))) hE with rfl | rfl
    · skip
      refine nh_c1 S X9 (htab.trans rfl) (by decide) rfl (by decide) (List.mem_of_getElem? (i := 1) rfl) hc9 hv9 hf9 ?_
      refine W.eq (g2 := F0 m 15 ls [.ref q9]) rfl ?_
      refine lv_astore (lv' := [(5, .ref q9), (0, .ref (z 0 0)), (1, .int xa), (2, .int xn), (3, .int xv), (4, .ref qo)]) S.1 S.2.1 dL_steal_15 hl (by decide) rfl (fun ls hl => ?_)
      refine lv_iconst (v := nI 1) S.1 S.2.1 dL_steal_17 (ofInt_nI 1) ?_
      exact nh_ret S w hr hlocks (cd2_1 hE) (selW_s hE).symm (Nat.le_of_ble_eq_true rfl) (Nat.le_of_ble_eq_true rfl) dL_steal_18
    · skip
      refine nh_c2 (E1 := "java/lang/IndexOutOfBoundsException") S X9 (htab.trans rfl) (by decide) hnc.1 (by decide) (List.mem_of_getElem? (i := 1) rfl) rfl (by decide) (List.mem_of_getElem? (i := 2) rfl) hc9 hv9 hf9 ?_
      refine W.eq (g2 := F0 m 19 ls [.ref q9]) rfl ?_
      refine lv_astore (lv' := [(5, .ref q9), (0, .ref (z 0 0)), (1, .int xa), (2, .int xn), (3, .int xv), (4, .ref qo)]) S.1 S.2.1 dL_steal_19 hl (by decide) rfl (fun ls hl => ?_)
      refine lv_iconst (v := nI 2) S.1 S.2.1 dL_steal_21 (ofInt_nI 2) ?_
      exact nh_ret S w hr hlocks (cd2_2 hE (by decide)) (selW_s hE).symm (Nat.le_of_ble_eq_true rfl) (Nat.le_of_ble_eq_true rfl) dL_steal_22
  · skip
    refine lv_i2l (v := (nI (X.2.2 (toN xa) 2)).toInt64) S.1 S.2.1 dL_steal_10 rfl ?_
    refine nv_lastE (tpO Z z ++ plB Z (z 8) P9 ++ stB Z (z 1) (X.1, stP X.2 (toN xa) (toN xn) (toN xv)) ++ ptB Z (z 7 0) (z 7 1) (z 7 2) tl ti ta tr t k ++ hiB Z (z 2 0) (z 2 1) (fun r => z (3 + r)) (svO o n) (svN n + 1) (svX o n Y X)) S w (by decide) (by decide) dL_steal_11 (fun H locs w => ?_)
    refine lv_goto (tgt := 23) S.1 S.2.1 dL_steal_12 (by decide) ?_
    refine lv_iconst (v := nI 0) S.1 S.2.1 dL_steal_23 (ofInt_nI 0) ?_
    exact nh_ret S w hr hlocks (cd2_n hN) (selW_n hN).symm (Nat.le_of_ble_eq_true rfl) (Nat.le_of_ble_eq_true rfl) dL_steal_24
