theorem hdV_X7_deepest : yX7_deepest.cls = RX7 ∧ yX7_deepest.cls ≠ "java/lang/invoke/MethodHandle" ∧ yX7_deepest.cls ≠ "java/lang/invoke/VarHandle" ∧ (parseMethodDescriptor yX7_deepest.desc).map (fun d => d.parameters.length) = some 2 := by decide +kernel
set_option maxRecDepth 100000 in
set_option maxHeartbeats 4000000 in
theorem c_L_deepest (l : Launch) (hst : l.stackTraces = false) (D : va_G) (Z : Nat → ClassId) (z : Nat → Nat → Nat) (X : ST) (o n : Nat) (Y : Nat → ST) (tl ti ta tr : Nat) (t : Nat → Nat) (k : Nat → Nat → Nat) (P9 : PG) (xa xn : Int32) (qo : Nat) (fo : Nat → Int64) (hX : XB X) : Xh l yL_deepest wsL_deepest 8 141 2 12 D Z [.ref (z 0 0), .int xa, .int xn, .ref qo] (tpO Z z ++ plB Z (z 8) P9 ++ stB Z (z 1) X ++ ptB Z (z 7 0) (z 7 1) (z 7 2) tl ti ta tr t k ++ hiB Z (z 2 0) (z 2 1) (fun r => z (3 + r)) o n Y ++ [(qo, .inl (Z 4, 1, .inr (.inl fo)))]) (cd2 "java/lang/IndexOutOfBoundsException" (xI (ixI 4 xa) eIX (xI (rgI 1 500 xn) eIA none))) (selW (xI (ixI 4 xa) eIX (xI (rgI 1 500 xn) eIA none)) (tpO Z z ++ plB Z (z 8) P9 ++ stB Z (z 1) X ++ ptB Z (z 7 0) (z 7 1) (z 7 2) tl ti ta tr t k ++ hiB Z (z 2 0) (z 2 1) (fun r => z (3 + r)) o n Y ++ [(qo, .inl (Z 4, 1, .inr (.inl fo)))]) (tpO Z z ++ plB Z (z 8) (tkN X.1 X.2 (toN xn)) ++ stB Z (z 1) X ++ ptB Z (z 7 0) (z 7 1) (z 7 2) tl ti ta tr t k ++ hiB Z (z 2 0) (z 2 1) (fun r => z (3 + r)) o n Y ++ [(qo, .inl (Z 4, 1, .inr (.inl (vp_updL fo 0 (nI (deN X.1 X.2 (toN xa) (toN xn))).toInt64))))])) := by
  refine nh_e (cc := cL_deepest) (maxL := 5) (by decide +kernel) rfl (Nat.le_of_ble_eq_true rfl) (fun p e s m args below meth c A ls (S : CallFix p m c cL_deepest 5 s args wsL_deepest RL) hr hlocks htab X9 hnc hl w => ?_)
  have hl : lv_has ls 5 [(0, .ref (z 0 0)), (1, .int xa), (2, .int xn), (3, .ref qo)] := hl
  refine lv_aload_n S.1 S.2.1 dL_deepest_0 rfl (lv_at hl 3 rfl) ?_
  refine lv_iconst (v := nI 0) S.1 S.2.1 dL_deepest_1 (ofInt_nI 0) ?_
  refine lv_aload_n S.1 S.2.1 dL_deepest_2 rfl (lv_at hl 0 rfl) ?_
  refine lv_iload_n S.1 S.2.1 dL_deepest_3 rfl (lv_at hl 1 rfl) ?_
  refine lv_iload_n S.1 S.2.1 dL_deepest_4 rfl (lv_at hl 2 rfl) ?_
  refine nx_fVi [] ([(qo, .inl (Z 4, 1, .inr (.inl fo)))]) (ws' := tpO Z z ++ plB Z (z 8) (tkN X.1 X.2 (toN xn)) ++ stB Z (z 1) X ++ ptB Z (z 7 0) (z 7 1) (z 7 2) tl ti ta tr t k ++ hiB Z (z 2 0) (z 2 1) (fun r => z (3 + r)) o n Y ++ [(qo, .inl (Z 4, 1, .inr (.inl fo)))]) (rest := [vI 0, .ref qo]) S w X9 hl.1 (c_X7_deepest l hst D Z z X o n Y tl ti ta tr t k P9 xa xn hX) rfl rfl rfl gL_deepest_X7_deepest rfl hdV_X7_deepest ⟨(Nat.le_of_ble_eq_true rfl), (Nat.le_of_ble_eq_true rfl)⟩ (q0 := 0) rfl rfl rfl rfl (Nat.le_of_ble_eq_true rfl) ⟨(Nat.le_of_ble_eq_true rfl), (Nat.le_of_ble_eq_true rfl)⟩ dL_deepest_5 (fun E9 ce q9 H locs hE w hc9 hv9 hf9 => ?_) (fun hN H locs w => ?_)
  · skip
    rcases exIn2 (A := "java/lang/IndexOutOfBoundsException") (B := "java/lang/IllegalArgumentException") (show exIn (xI (ixI 4 xa) eIX (xI (rgI 1 500 xn) eIA none)) ["java/lang/IndexOutOfBoundsException", "java/lang/IllegalArgumentException"] from (exIn_x (by decide) (exIn_x (by decide) exIn_n))) hE with rfl | rfl
    · skip
      refine nh_c1 S X9 (htab.trans rfl) (by decide) rfl (by decide) (List.mem_of_getElem? (i := 1) rfl) hc9 hv9 hf9 ?_
      refine W.eq (g2 := F0 m 13 ls [.ref q9]) rfl ?_
      refine lv_astore (lv' := [(4, .ref q9), (0, .ref (z 0 0)), (1, .int xa), (2, .int xn), (3, .ref qo)]) S.1 S.2.1 dL_deepest_13 hl (by decide) rfl (fun ls hl => ?_)
      refine lv_iconst (v := nI 1) S.1 S.2.1 dL_deepest_15 (ofInt_nI 1) ?_
      exact nh_ret S w hr hlocks (cd2_1 hE) (selW_s hE).symm (Nat.le_of_ble_eq_true rfl) (Nat.le_of_ble_eq_true rfl) dL_deepest_16
    · skip
      refine nh_c2 (E1 := "java/lang/IndexOutOfBoundsException") S X9 (htab.trans rfl) (by decide) hnc.1 (by decide) (List.mem_of_getElem? (i := 1) rfl) rfl (by decide) (List.mem_of_getElem? (i := 2) rfl) hc9 hv9 hf9 ?_
      refine W.eq (g2 := F0 m 17 ls [.ref q9]) rfl ?_
      refine lv_astore (lv' := [(4, .ref q9), (0, .ref (z 0 0)), (1, .int xa), (2, .int xn), (3, .ref qo)]) S.1 S.2.1 dL_deepest_17 hl (by decide) rfl (fun ls hl => ?_)
      refine lv_iconst (v := nI 2) S.1 S.2.1 dL_deepest_19 (ofInt_nI 2) ?_
      exact nh_ret S w hr hlocks (cd2_2 hE (by decide)) (selW_s hE).symm (Nat.le_of_ble_eq_true rfl) (Nat.le_of_ble_eq_true rfl) dL_deepest_20
  · skip
    refine lv_i2l (v := (nI (deN X.1 X.2 (toN xa) (toN xn))).toInt64) S.1 S.2.1 dL_deepest_8 rfl ?_
    refine nv_lastE (tpO Z z ++ plB Z (z 8) (tkN X.1 X.2 (toN xn)) ++ stB Z (z 1) X ++ ptB Z (z 7 0) (z 7 1) (z 7 2) tl ti ta tr t k ++ hiB Z (z 2 0) (z 2 1) (fun r => z (3 + r)) o n Y) S w (by decide) (by decide) dL_deepest_9 (fun H locs w => ?_)
    refine lv_goto (tgt := 21) S.1 S.2.1 dL_deepest_10 (by decide) ?_
    refine lv_iconst (v := nI 0) S.1 S.2.1 dL_deepest_21 (ofInt_nI 0) ?_
    exact nh_ret S w hr hlocks (cd2_n hN) (selW_n hN).symm (Nat.le_of_ble_eq_true rfl) (Nat.le_of_ble_eq_true rfl) dL_deepest_22

theorem hdV_X7_unheard : yX7_unheard.cls = RX7 ∧ yX7_unheard.cls ≠ "java/lang/invoke/MethodHandle" ∧ yX7_unheard.cls ≠ "java/lang/invoke/VarHandle" ∧ (parseMethodDescriptor yX7_unheard.desc).map (fun d => d.parameters.length) = some 2 := by decide +kernel
set_option maxRecDepth 100000 in
set_option maxHeartbeats 4000000 in
theorem c_L_unheard (l : Launch) (hst : l.stackTraces = false) (D : va_G) (Z : Nat → ClassId) (z : Nat → Nat → Nat) (X : ST) (o n : Nat) (Y : Nat → ST) (tl ti ta tr : Nat) (t : Nat → Nat) (k : Nat → Nat → Nat) (P9 : PG) (xa xn : Int32) (qo : Nat) (fo : Nat → Int64) (hX : XB X) : Xh l yL_unheard wsL_unheard 8 140 2 12 D Z [.ref (z 0 0), .int xa, .int xn, .ref qo] (tpO Z z ++ plB Z (z 8) P9 ++ stB Z (z 1) X ++ ptB Z (z 7 0) (z 7 1) (z 7 2) tl ti ta tr t k ++ hiB Z (z 2 0) (z 2 1) (fun r => z (3 + r)) o n Y ++ [(qo, .inl (Z 4, 1, .inr (.inl fo)))]) (cd2 "java/lang/IndexOutOfBoundsException" (xI (ixI 4 xa) eIX (xI (rgI 1 60 xn) eIA none))) (selW (xI (ixI 4 xa) eIX (xI (rgI 1 60 xn) eIA none)) (tpO Z z ++ plB Z (z 8) P9 ++ stB Z (z 1) X ++ ptB Z (z 7 0) (z 7 1) (z 7 2) tl ti ta tr t k ++ hiB Z (z 2 0) (z 2 1) (fun r => z (3 + r)) o n Y ++ [(qo, .inl (Z 4, 1, .inr (.inl fo)))]) (tpO Z z ++ plB Z (z 8) (tkN X.1 (stP X.2 (toN xa) 0 0) (uhM (uhK X.1 (stP X.2 (toN xa) 0 0) (toN xa) (16 * (16 * (toN xn)) + 15) 99 0))) ++ stB Z (z 1) X ++ ptB Z (z 7 0) (z 7 1) (z 7 2) tl ti ta tr t k ++ hiB Z (z 2 0) (z 2 1) (fun r => z (3 + r)) o n Y ++ [(qo, .inl (Z 4, 1, .inr (.inl (vp_updL fo 0 (nI (uhK X.1 (stP X.2 (toN xa) 0 0) (toN xa) (16 * (16 * (toN xn)) + 15) 99 0)).toInt64))))])) := by
  refine nh_e (cc := cL_unheard) (maxL := 5) (by decide +kernel) rfl (Nat.le_of_ble_eq_true rfl) (fun p e s m args below meth c A ls (S : CallFix p m c cL_unheard 5 s args wsL_unheard RL) hr hlocks htab X9 hnc hl w => ?_)
  have hl : lv_has ls 5 [(0, .ref (z 0 0)), (1, .int xa), (2, .int xn), (3, .ref qo)] := hl
  refine lv_aload_n S.1 S.2.1 dL_unheard_0 rfl (lv_at hl 3 rfl) ?_
  refine lv_iconst (v := nI 0) S.1 S.2.1 dL_unheard_1 (ofInt_nI 0) ?_
  refine lv_aload_n S.1 S.2.1 dL_unheard_2 rfl (lv_at hl 0 rfl) ?_
  refine lv_iload_n S.1 S.2.1 dL_unheard_3 rfl (lv_at hl 1 rfl) ?_
  refine lv_iload_n S.1 S.2.1 dL_unheard_4 rfl (lv_at hl 2 rfl) ?_
  refine nx_fVi [] ([(qo, .inl (Z 4, 1, .inr (.inl fo)))]) (ws' := tpO Z z ++ plB Z (z 8) (tkN X.1 (stP X.2 (toN xa) 0 0) (uhM (uhK X.1 (stP X.2 (toN xa) 0 0) (toN xa) (16 * (16 * (toN xn)) + 15) 99 0))) ++ stB Z (z 1) X ++ ptB Z (z 7 0) (z 7 1) (z 7 2) tl ti ta tr t k ++ hiB Z (z 2 0) (z 2 1) (fun r => z (3 + r)) o n Y ++ [(qo, .inl (Z 4, 1, .inr (.inl fo)))]) (rest := [vI 0, .ref qo]) S w X9 hl.1 (c_X7_unheard l hst D Z z X o n Y tl ti ta tr t k P9 xa xn hX) rfl rfl rfl gL_unheard_X7_unheard rfl hdV_X7_unheard ⟨(Nat.le_of_ble_eq_true rfl), (Nat.le_of_ble_eq_true rfl)⟩ (q0 := 0) rfl rfl rfl rfl (Nat.le_of_ble_eq_true rfl) ⟨(Nat.le_of_ble_eq_true rfl), (Nat.le_of_ble_eq_true rfl)⟩ dL_unheard_5 (fun E9 ce q9 H locs hE w hc9 hv9 hf9 => ?_) (fun hN H locs w => ?_)
  · skip
    rcases exIn2 (A := "java/lang/IndexOutOfBoundsException") (B := "java/lang/IllegalArgumentException") (show exIn (xI (ixI 4 xa) eIX (xI (rgI 1 60 xn) eIA none)) ["java/lang/IndexOutOfBoundsException", "java/lang/IllegalArgumentException"] from (exIn_x (by decide) (exIn_x (by decide) exIn_n))) hE with rfl | rfl
    · skip
      refine nh_c1 S X9 (htab.trans rfl) (by decide) rfl (by decide) (List.mem_of_getElem? (i := 1) rfl) hc9 hv9 hf9 ?_
      refine W.eq (g2 := F0 m 13 ls [.ref q9]) rfl ?_
      refine lv_astore (lv' := [(4, .ref q9), (0, .ref (z 0 0)), (1, .int xa), (2, .int xn), (3, .ref qo)]) S.1 S.2.1 dL_unheard_13 hl (by decide) rfl (fun ls hl => ?_)
      refine lv_iconst (v := nI 1) S.1 S.2.1 dL_unheard_15 (ofInt_nI 1) ?_
      exact nh_ret S w hr hlocks (cd2_1 hE) (selW_s hE).symm (Nat.le_of_ble_eq_true rfl) (Nat.le_of_ble_eq_true rfl) dL_unheard_16
    · skip
      refine nh_c2 (E1 := "java/lang/IndexOutOfBoundsException") S X9 (htab.trans rfl) (by decide) hnc.1 (by decide) (List.mem_of_getElem? (i := 1) rfl) rfl (by decide) (List.mem_of_getElem? (i := 2) rfl) hc9 hv9 hf9 ?_
      refine W.eq (g2 := F0 m 17 ls [.ref q9]) rfl ?_
      refine lv_astore (lv' := [(4, .ref q9), (0, .ref (z 0 0)), (1, .int xa), (2, .int xn), (3, .ref qo)]) S.1 S.2.1 dL_unheard_17 hl (by decide) rfl (fun ls hl => ?_)
      refine lv_iconst (v := nI 2) S.1 S.2.1 dL_unheard_19 (ofInt_nI 2) ?_
      exact nh_ret S w hr hlocks (cd2_2 hE (by decide)) (selW_s hE).symm (Nat.le_of_ble_eq_true rfl) (Nat.le_of_ble_eq_true rfl) dL_unheard_20
  · skip
    refine lv_i2l (v := (nI (uhK X.1 (stP X.2 (toN xa) 0 0) (toN xa) (16 * (16 * (toN xn)) + 15) 99 0)).toInt64) S.1 S.2.1 dL_unheard_8 rfl ?_
    refine nv_lastE (tpO Z z ++ plB Z (z 8) (tkN X.1 (stP X.2 (toN xa) 0 0) (uhM (uhK X.1 (stP X.2 (toN xa) 0 0) (toN xa) (16 * (16 * (toN xn)) + 15) 99 0))) ++ stB Z (z 1) X ++ ptB Z (z 7 0) (z 7 1) (z 7 2) tl ti ta tr t k ++ hiB Z (z 2 0) (z 2 1) (fun r => z (3 + r)) o n Y) S w (by decide) (by decide) dL_unheard_9 (fun H locs w => ?_)
    refine lv_goto (tgt := 21) S.1 S.2.1 dL_unheard_10 (by decide) ?_
    refine lv_iconst (v := nI 0) S.1 S.2.1 dL_unheard_21 (ofInt_nI 0) ?_
    exact nh_ret S w hr hlocks (cd2_n hN) (selW_n hN).symm (Nat.le_of_ble_eq_true rfl) (Nat.le_of_ble_eq_true rfl) dL_unheard_22

theorem hdV_X7_append : yX7_append.cls = RX7 ∧ yX7_append.cls ≠ "java/lang/invoke/MethodHandle" ∧ yX7_append.cls ≠ "java/lang/invoke/VarHandle" ∧ (parseMethodDescriptor yX7_append.desc).map (fun d => d.parameters.length) = some 1 := by decide +kernel
set_option maxRecDepth 100000 in
set_option maxHeartbeats 4000000 in
theorem c_L_append (l : Launch) (hst : l.stackTraces = false) (D : va_G) (Z : Nat → ClassId) (z : Nat → Nat → Nat) (X : ST) (o n : Nat) (Y : Nat → ST) (tl ti ta tr : Nat) (t : Nat → Nat) (k : Nat → Nat → Nat) (P9 : PG) (xa : Int32) (qo : Nat) (fo : Nat → Int64) (ht : ∀ j, j < 100 → t j < 128) (htl : tl ≤ 100) : Xh l yL_append wsL_append 8 125 2 12 D Z [.ref (z 0 0), .int xa, .ref qo] (tpO Z z ++ plB Z (z 8) P9 ++ stB Z (z 1) X ++ ptB Z (z 7 0) (z 7 1) (z 7 2) tl ti ta tr t k ++ hiB Z (z 2 0) (z 2 1) (fun r => z (3 + r)) o n Y ++ [(qo, .inl (Z 4, 1, .inr (.inl fo)))]) (cd2 "java/lang/IllegalArgumentException" (xI (rgI 0 127 xa) eIA (xI (tl < 100) eIS none))) (selW (xI (rgI 0 127 xa) eIA (xI (tl < 100) eIS none)) (tpO Z z ++ plB Z (z 8) P9 ++ stB Z (z 1) X ++ ptB Z (z 7 0) (z 7 1) (z 7 2) tl ti ta tr t k ++ hiB Z (z 2 0) (z 2 1) (fun r => z (3 + r)) o n Y ++ [(qo, .inl (Z 4, 1, .inr (.inl fo)))]) (tpO Z z ++ plB Z (z 8) P9 ++ stB Z (z 1) X ++ ptB Z (z 7 0) (z 7 1) (z 7 2) (tl + 1) ti ta tr (un t tl (toN xa)) k ++ hiB Z (z 2 0) (z 2 1) (fun r => z (3 + r)) o n Y ++ [(qo, .inl (Z 4, 1, .inr (.inl (vp_updL fo 0 (nI (tl + 1)).toInt64))))])) := by
  refine nh_e (cc := cL_append) (maxL := 4) (by decide +kernel) rfl (Nat.le_of_ble_eq_true rfl) (fun p e s m args below meth c A ls (S : CallFix p m c cL_append 4 s args wsL_append RL) hr hlocks htab X9 hnc hl w => ?_)
  have hl : lv_has ls 4 [(0, .ref (z 0 0)), (1, .int xa), (2, .ref qo)] := hl
  refine lv_aload_n S.1 S.2.1 dL_append_0 rfl (lv_at hl 2 rfl) ?_
  refine lv_iconst (v := nI 0) S.1 S.2.1 dL_append_1 (ofInt_nI 0) ?_
  refine lv_aload_n S.1 S.2.1 dL_append_2 rfl (lv_at hl 0 rfl) ?_
  refine lv_iload_n S.1 S.2.1 dL_append_3 rfl (lv_at hl 1 rfl) ?_
  refine nx_fVi [] ([(qo, .inl (Z 4, 1, .inr (.inl fo)))]) (ws' := tpO Z z ++ plB Z (z 8) P9 ++ stB Z (z 1) X ++ ptB Z (z 7 0) (z 7 1) (z 7 2) (tl + 1) ti ta tr (un t tl (toN xa)) k ++ hiB Z (z 2 0) (z 2 1) (fun r => z (3 + r)) o n Y ++ [(qo, .inl (Z 4, 1, .inr (.inl fo)))]) (rest := [vI 0, .ref qo]) S w X9 hl.1 (c_X7_append l hst D Z z X o n Y tl ti ta tr t k P9 xa ht htl) rfl rfl rfl gL_append_X7_append rfl hdV_X7_append ⟨(Nat.le_of_ble_eq_true rfl), (Nat.le_of_ble_eq_true rfl)⟩ (q0 := 0) rfl rfl rfl rfl (Nat.le_of_ble_eq_true rfl) ⟨(Nat.le_of_ble_eq_true rfl), (Nat.le_of_ble_eq_true rfl)⟩ dL_append_4 (fun E9 ce q9 H locs hE w hc9 hv9 hf9 => ?_) (fun hN H locs w => ?_)
  · skip
    rcases exIn2 (A := "java/lang/IllegalArgumentException") (B := "java/lang/IllegalStateException") (show exIn (xI (rgI 0 127 xa) eIA (xI (tl < 100) eIS none)) ["java/lang/IllegalArgumentException", "java/lang/IllegalStateException"] from (exIn_x (by decide) (exIn_x (by decide) exIn_n))) hE with rfl | rfl
    · skip
      refine nh_c1 S X9 (htab.trans rfl) (by decide) rfl (by decide) (List.mem_of_getElem? (i := 1) rfl) hc9 hv9 hf9 ?_
      refine W.eq (g2 := F0 m 12 ls [.ref q9]) rfl ?_
      refine lv_astore_n (lv' := [(3, .ref q9), (0, .ref (z 0 0)), (1, .int xa), (2, .ref qo)]) S.1 S.2.1 dL_append_12 rfl hl (by decide) rfl (fun ls hl => ?_)
      refine lv_iconst (v := nI 1) S.1 S.2.1 dL_append_13 (ofInt_nI 1) ?_
      exact nh_ret S w hr hlocks (cd2_1 hE) (selW_s hE).symm (Nat.le_of_ble_eq_true rfl) (Nat.le_of_ble_eq_true rfl) dL_append_14
    · skip
      refine nh_c2 (E1 := "java/lang/IllegalArgumentException") S X9 (htab.trans rfl) (by decide) hnc.2 (by decide) (List.mem_of_getElem? (i := 1) rfl) rfl (by decide) (List.mem_of_getElem? (i := 2) rfl) hc9 hv9 hf9 ?_
      refine W.eq (g2 := F0 m 15 ls [.ref q9]) rfl ?_
      refine lv_astore_n (lv' := [(3, .ref q9), (0, .ref (z 0 0)), (1, .int xa), (2, .ref qo)]) S.1 S.2.1 dL_append_15 rfl hl (by decide) rfl (fun ls hl => ?_)
      refine lv_iconst (v := nI 2) S.1 S.2.1 dL_append_16 (ofInt_nI 2) ?_
      exact nh_ret S w hr hlocks (cd2_2 hE (by decide)) (selW_s hE).symm (Nat.le_of_ble_eq_true rfl) (Nat.le_of_ble_eq_true rfl) dL_append_17
  · skip
    refine lv_i2l (v := (nI (tl + 1)).toInt64) S.1 S.2.1 dL_append_7 rfl ?_
    refine nv_lastE (tpO Z z ++ plB Z (z 8) P9 ++ stB Z (z 1) X ++ ptB Z (z 7 0) (z 7 1) (z 7 2) (tl + 1) ti ta tr (un t tl (toN xa)) k ++ hiB Z (z 2 0) (z 2 1) (fun r => z (3 + r)) o n Y) S w (by decide) (by decide) dL_append_8 (fun H locs w => ?_)
    refine lv_goto (tgt := 18) S.1 S.2.1 dL_append_9 (by decide) ?_
    refine lv_iconst (v := nI 0) S.1 S.2.1 dL_append_18 (ofInt_nI 0) ?_
    exact nh_ret S w hr hlocks (cd2_n hN) (selW_n hN).symm (Nat.le_of_ble_eq_true rfl) (Nat.le_of_ble_eq_true rfl) dL_append_19

theorem hdV_X7_undo : yX7_undo.cls = RX7 ∧ yX7_undo.cls ≠ "java/lang/invoke/MethodHandle" ∧ yX7_undo.cls ≠ "java/lang/invoke/VarHandle" ∧ (parseMethodDescriptor yX7_undo.desc).map (fun d => d.parameters.length) = some 0 := by decide +kernel
set_option maxRecDepth 100000 in
set_option maxHeartbeats 4000000 in
theorem c_L_undo (l : Launch) (hst : l.stackTraces = false) (D : va_G) (Z : Nat → ClassId) (z : Nat → Nat → Nat) (X : ST) (o n : Nat) (Y : Nat → ST) (tl ti ta tr : Nat) (t : Nat → Nat) (k : Nat → Nat → Nat) (P9 : PG) (qo : Nat) (fo : Nat → Int64) (ho : o < 4) (hn : n ≤ 4) : Xh l yL_undo wsL_undo 7 131 1 6 D Z [.ref (z 0 0), .ref qo] (tpO Z z ++ plB Z (z 8) P9 ++ stB Z (z 1) X ++ ptB Z (z 7 0) (z 7 1) (z 7 2) tl ti ta tr t k ++ hiB Z (z 2 0) (z 2 1) (fun r => z (3 + r)) o n Y ++ [(qo, .inl (Z 4, 1, .inr (.inl fo)))]) (cd1 (xI (n ≠ 0) eIS none)) (selW (xI (n ≠ 0) eIS none) (tpO Z z ++ plB Z (z 8) P9 ++ stB Z (z 1) X ++ ptB Z (z 7 0) (z 7 1) (z 7 2) tl ti ta tr t k ++ hiB Z (z 2 0) (z 2 1) (fun r => z (3 + r)) o n Y ++ [(qo, .inl (Z 4, 1, .inr (.inl fo)))]) (tpO Z z ++ plB Z (z 8) P9 ++ stB Z (z 1) (Y ((o + (n - 1)) % 4)) ++ ptB Z (z 7 0) (z 7 1) (z 7 2) tl ti ta tr t k ++ hiB Z (z 2 0) (z 2 1) (fun r => z (3 + r)) o (n - 1) Y ++ [(qo, .inl (Z 4, 1, .inr (.inl (vp_updL fo 0 (nI (n - 1)).toInt64))))])) := by
  refine nh_e (cc := cL_undo) (maxL := 3) (by decide +kernel) rfl (Nat.le_of_ble_eq_true rfl) (fun p e s m args below meth c A ls (S : CallFix p m c cL_undo 3 s args wsL_undo RL) hr hlocks htab X9 hnc hl w => ?_)
  have hl : lv_has ls 3 [(0, .ref (z 0 0)), (1, .ref qo)] := hl
  refine lv_aload_n S.1 S.2.1 dL_undo_0 rfl (lv_at hl 1 rfl) ?_
  refine lv_iconst (v := nI 0) S.1 S.2.1 dL_undo_1 (ofInt_nI 0) ?_
  refine lv_aload_n S.1 S.2.1 dL_undo_2 rfl (lv_at hl 0 rfl) ?_
  refine nx_fVi [] ([(qo, .inl (Z 4, 1, .inr (.inl fo)))]) (ws' := tpO Z z ++ plB Z (z 8) P9 ++ stB Z (z 1) (Y ((o + (n - 1)) % 4)) ++ ptB Z (z 7 0) (z 7 1) (z 7 2) tl ti ta tr t k ++ hiB Z (z 2 0) (z 2 1) (fun r => z (3 + r)) o (n - 1) Y ++ [(qo, .inl (Z 4, 1, .inr (.inl fo)))]) (rest := [vI 0, .ref qo]) S w X9 hl.1 (c_X7_undo l hst D Z z X o n Y tl ti ta tr t k P9 ho hn) rfl rfl rfl gL_undo_X7_undo rfl hdV_X7_undo ⟨(Nat.le_of_ble_eq_true rfl), (Nat.le_of_ble_eq_true rfl)⟩ (q0 := 0) rfl rfl rfl rfl (Nat.le_of_ble_eq_true rfl) ⟨(Nat.le_of_ble_eq_true rfl), (Nat.le_of_ble_eq_true rfl)⟩ dL_undo_3 (fun E9 ce q9 H locs hE w hc9 hv9 hf9 => ?_) (fun hN H locs w => ?_)
  · skip
    obtain rfl : E9 = "java/lang/IllegalStateException" := exIn1 (A := "java/lang/IllegalStateException") (show exIn (xI (n ≠ 0) eIS none) ["java/lang/IllegalStateException"] from (exIn_x (by decide) exIn_n)) hE
    refine nh_c1 S X9 (htab.trans rfl) (by decide) rfl (by decide) (List.mem_of_getElem? (i := 1) rfl) hc9 hv9 hf9 ?_
    refine W.eq (g2 := F0 m 11 ls [.ref q9]) rfl ?_
    refine lv_astore_n (lv' := [(2, .ref q9), (0, .ref (z 0 0)), (1, .ref qo)]) S.1 S.2.1 dL_undo_11 rfl hl (by decide) rfl (fun ls hl => ?_)
    refine lv_iconst (v := nI 1) S.1 S.2.1 dL_undo_12 (ofInt_nI 1) ?_
    exact nh_ret S w hr hlocks (cd1_s hE) (selW_s hE).symm (Nat.le_of_ble_eq_true rfl) (Nat.le_of_ble_eq_true rfl) dL_undo_13
  · skip
    refine lv_i2l (v := (nI (n - 1)).toInt64) S.1 S.2.1 dL_undo_6 rfl ?_
    refine nv_lastE (tpO Z z ++ plB Z (z 8) P9 ++ stB Z (z 1) (Y ((o + (n - 1)) % 4)) ++ ptB Z (z 7 0) (z 7 1) (z 7 2) tl ti ta tr t k ++ hiB Z (z 2 0) (z 2 1) (fun r => z (3 + r)) o (n - 1) Y) S w (by decide) (by decide) dL_undo_7 (fun H locs w => ?_)
    refine lv_goto (tgt := 14) S.1 S.2.1 dL_undo_8 (by decide) ?_
    refine lv_iconst (v := nI 0) S.1 S.2.1 dL_undo_14 (ofInt_nI 0) ?_
    exact nh_ret S w hr hlocks (cd1_n hN) (selW_n hN).symm (Nat.le_of_ble_eq_true rfl) (Nat.le_of_ble_eq_true rfl) dL_undo_15
