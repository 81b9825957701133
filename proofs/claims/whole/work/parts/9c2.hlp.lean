theorem hdV_X7_giveBack : yX7_giveBack.cls = RX7 ∧ yX7_giveBack.cls ≠ "java/lang/invoke/MethodHandle" ∧ yX7_giveBack.cls ≠ "java/lang/invoke/VarHandle" ∧ (parseMethodDescriptor yX7_giveBack.desc).map (fun d => d.parameters.length) = some 1 := by decide +kernel
set_option maxRecDepth 100000 in
set_option maxHeartbeats 4000000 in
theorem c_L_giveBack (l : Launch) (hst : l.stackTraces = false) (D : va_G) (Z : Nat → ClassId) (z : Nat → Nat → Nat) (X : ST) (o n : Nat) (Y : Nat → ST) (tl ti ta tr : Nat) (t : Nat → Nat) (k : Nat → Nat → Nat) (P9 : PG) (xa : Int32) (qo : Nat) (fo : Nat → Int64) (ho : o < 4) (hn : n ≤ 4) (hX : XB X) : Xh l yL_giveBack wsL_giveBack 8 132 1 6 D Z [.ref (z 0 0), .int xa, .ref qo] (tpO Z z ++ plB Z (z 8) P9 ++ stB Z (z 1) X ++ ptB Z (z 7 0) (z 7 1) (z 7 2) tl ti ta tr t k ++ hiB Z (z 2 0) (z 2 1) (fun r => z (3 + r)) o n Y ++ [(qo, .inl (Z 4, 1, .inr (.inl fo)))]) (cd1 (xI (ixI 4 xa) eIX none)) (selW (xI (ixI 4 xa) eIX none) (tpO Z z ++ plB Z (z 8) P9 ++ stB Z (z 1) X ++ ptB Z (z 7 0) (z 7 1) (z 7 2) tl ti ta tr t k ++ hiB Z (z 2 0) (z 2 1) (fun r => z (3 + r)) o n Y ++ [(qo, .inl (Z 4, 1, .inr (.inl fo)))]) (tpO Z z ++ plB Z (z 8) P9 ++ stB Z (z 1) (X.1, stP X.2 (toN xa) 0 0) ++ ptB Z (z 7 0) (z 7 1) (z 7 2) tl ti ta tr t k ++ hiB Z (z 2 0) (z 2 1) (fun r => z (3 + r)) (svO o n) (svN n + 1) (svX o n Y X) ++ [(qo, .inl (Z 4, 1, .inr (.inl (vp_updL fo 0 (nI (X.2.2 (toN xa) 2)).toInt64))))])) := by
  refine nh_e (cc := cL_giveBack) (maxL := 4) (by decide +kernel) rfl (Nat.le_of_ble_eq_true rfl) (fun p e s m args below meth c A ls (S : CallFix p m c cL_giveBack 4 s args wsL_giveBack RL) hr hlocks htab X9 hnc hl w => ?_)
  have hl : lv_has ls 4 [(0, .ref (z 0 0)), (1, .int xa), (2, .ref qo)] := hl
  refine lv_aload_n S.1 S.2.1 dL_giveBack_0 rfl (lv_at hl 2 rfl) ?_
  refine lv_iconst (v := nI 0) S.1 S.2.1 dL_giveBack_1 (ofInt_nI 0) ?_
  refine lv_aload_n S.1 S.2.1 dL_giveBack_2 rfl (lv_at hl 0 rfl) ?_
  refine lv_iload_n S.1 S.2.1 dL_giveBack_3 rfl (lv_at hl 1 rfl) ?_
  refine nx_fVi [] ([(qo, .inl (Z 4, 1, .inr (.inl fo)))]) (ws' := tpO Z z ++ plB Z (z 8) P9 ++ stB Z (z 1) (X.1, stP X.2 (toN xa) 0 0) ++ ptB Z (z 7 0) (z 7 1) (z 7 2) tl ti ta tr t k ++ hiB Z (z 2 0) (z 2 1) (fun r => z (3 + r)) (svO o n) (svN n + 1) (svX o n Y X) ++ [(qo, .inl (Z 4, 1, .inr (.inl fo)))]) (rest := [vI 0, .ref qo]) S w X9 hl.1 (c_X7_giveBack l hst D Z z X o n Y tl ti ta tr t k P9 xa ho hn hX) rfl rfl rfl gL_giveBack_X7_giveBack rfl hdV_X7_giveBack ⟨(Nat.le_of_ble_eq_true rfl), (Nat.le_of_ble_eq_true rfl)⟩ (q0 := 0) rfl rfl rfl rfl (Nat.le_of_ble_eq_true rfl) ⟨(Nat.le_of_ble_eq_true rfl), (Nat.le_of_ble_eq_true rfl)⟩ dL_giveBack_4 (fun E9 ce q9 H locs hE w hc9 hv9 hf9 => ?_) (fun hN H locs w => ?_)
  · skip
    obtain rfl : E9 = "java/lang/IndexOutOfBoundsException" := exIn1 (A := "java/lang/IndexOutOfBoundsException") (show exIn (xI (ixI 4 xa) eIX none) ["java/lang/IndexOutOfBoundsException"] from (exIn_x (by decide) exIn_n)) hE
    refine nh_c1 S X9 (htab.trans rfl) (by decide) rfl (by decide) (List.mem_of_getElem? (i := 1) rfl) hc9 hv9 hf9 ?_
    refine W.eq (g2 := F0 m 12 ls [.ref q9]) rfl ?_
    refine lv_astore_n (lv' := [(3, .ref q9), (0, .ref (z 0 0)), (1, .int xa), (2, .ref qo)]) S.1 S.2.1 dL_giveBack_12 rfl hl (by decide) rfl (fun ls hl => ?_)
    refine lv_iconst (v := nI 1) S.1 S.2.1 dL_giveBack_13 (ofInt_nI 1) ?_
    exact nh_ret S w hr hlocks (cd1_s hE) (selW_s hE).symm (Nat.le_of_ble_eq_true rfl) (Nat.le_of_ble_eq_true rfl) dL_giveBack_14
  · skip
    refine lv_i2l (v := (nI (X.2.2 (toN xa) 2)).toInt64) S.1 S.2.1 dL_giveBack_7 rfl ?_
    refine nv_lastE (tpO Z z ++ plB Z (z 8) P9 ++ stB Z (z 1) (X.1, stP X.2 (toN xa) 0 0) ++ ptB Z (z 7 0) (z 7 1) (z 7 2) tl ti ta tr t k ++ hiB Z (z 2 0) (z 2 1) (fun r => z (3 + r)) (svO o n) (svN n + 1) (svX o n Y X)) S w (by decide) (by decide) dL_giveBack_8 (fun H locs w => ?_)
    refine lv_goto (tgt := 15) S.1 S.2.1 dL_giveBack_9 (by decide) ?_
    refine lv_iconst (v := nI 0) S.1 S.2.1 dL_giveBack_15 (ofInt_nI 0) ?_
    exact nh_ret S w hr hlocks (cd1_n hN) (selW_n hN).symm (Nat.le_of_ble_eq_true rfl) (Nat.le_of_ble_eq_true rfl) dL_giveBack_16

theorem hdV_X7_channel : yX7_channel.cls = RX7 ∧ yX7_channel.cls ≠ "java/lang/invoke/MethodHandle" ∧ yX7_channel.cls ≠ "java/lang/invoke/VarHandle" ∧ (parseMethodDescriptor yX7_channel.desc).map (fun d => d.parameters.length) = some 2 := by decide +kernel
set_option maxRecDepth 100000 in
set_option maxHeartbeats 4000000 in
theorem c_L_channel (l : Launch) (hst : l.stackTraces = false) (D : va_G) (Z : Nat → ClassId) (z : Nat → Nat → Nat) (X : ST) (o n : Nat) (Y : Nat → ST) (tl ti ta tr : Nat) (t : Nat → Nat) (k : Nat → Nat → Nat) (P9 : PG) (xa xn : Int32) (qo : Nat) (fo : Nat → Int64) (hX : XB X) : Xh l yL_channel wsL_channel 8 126 2 12 D Z [.ref (z 0 0), .int xa, .int xn, .ref qo] (tpO Z z ++ plB Z (z 8) P9 ++ stB Z (z 1) X ++ ptB Z (z 7 0) (z 7 1) (z 7 2) tl ti ta tr t k ++ hiB Z (z 2 0) (z 2 1) (fun r => z (3 + r)) o n Y ++ [(qo, .inl (Z 4, 1, .inr (.inl fo)))]) (cd2 "java/lang/IndexOutOfBoundsException" (xI (ixI 4 xa) eIX (xI (rgI 0 7 xn) eIA none))) (selW (xI (ixI 4 xa) eIX (xI (rgI 0 7 xn) eIA none)) (tpO Z z ++ plB Z (z 8) P9 ++ stB Z (z 1) X ++ ptB Z (z 7 0) (z 7 1) (z 7 2) tl ti ta tr t k ++ hiB Z (z 2 0) (z 2 1) (fun r => z (3 + r)) o n Y ++ [(qo, .inl (Z 4, 1, .inr (.inl fo)))]) (tpO Z z ++ plB Z (z 8) P9 ++ stB Z (z 1) X ++ ptB Z (z 7 0) (z 7 1) (z 7 2) tl ti ta tr t k ++ hiB Z (z 2 0) (z 2 1) (fun r => z (3 + r)) o n Y ++ [(qo, .inl (Z 4, 1, .inr (.inl (vp_updL fo 0 (factV (X.2.2 (toN xa)) (toN xn)).toInt64))))])) := by
  refine nh_e (cc := cL_channel) (maxL := 5) (by decide +kernel) rfl (Nat.le_of_ble_eq_true rfl) (fun p e s m args below meth c A ls (S : CallFix p m c cL_channel 5 s args wsL_channel RL) hr hlocks htab X9 hnc hl w => ?_)
  have hl : lv_has ls 5 [(0, .ref (z 0 0)), (1, .int xa), (2, .int xn), (3, .ref qo)] := hl
  refine lv_aload_n S.1 S.2.1 dL_channel_0 rfl (lv_at hl 3 rfl) ?_
  refine lv_iconst (v := nI 0) S.1 S.2.1 dL_channel_1 (ofInt_nI 0) ?_
  refine lv_aload_n S.1 S.2.1 dL_channel_2 rfl (lv_at hl 0 rfl) ?_
  refine lv_iload_n S.1 S.2.1 dL_channel_3 rfl (lv_at hl 1 rfl) ?_
  refine lv_iload_n S.1 S.2.1 dL_channel_4 rfl (lv_at hl 2 rfl) ?_
  refine nx_fVi [] ([(qo, .inl (Z 4, 1, .inr (.inl fo)))]) (ws' := tpO Z z ++ plB Z (z 8) P9 ++ stB Z (z 1) X ++ ptB Z (z 7 0) (z 7 1) (z 7 2) tl ti ta tr t k ++ hiB Z (z 2 0) (z 2 1) (fun r => z (3 + r)) o n Y ++ [(qo, .inl (Z 4, 1, .inr (.inl fo)))]) (rest := [vI 0, .ref qo]) S w X9 hl.1 (c_X7_channel l hst D Z z X o n Y tl ti ta tr t k P9 xa xn hX) rfl rfl rfl gL_channel_X7_channel rfl hdV_X7_channel ⟨(Nat.le_of_ble_eq_true rfl), (Nat.le_of_ble_eq_true rfl)⟩ (q0 := 0) rfl rfl rfl rfl (Nat.le_of_ble_eq_true rfl) ⟨(Nat.le_of_ble_eq_true rfl), (Nat.le_of_ble_eq_true rfl)⟩ dL_channel_5 (fun E9 ce q9 H locs hE w hc9 hv9 hf9 => ?_) (fun hN H locs w => ?_)
  · skip
    rcases exIn2 (A := "java/lang/IndexOutOfBoundsException") (B := "java/lang/IllegalArgumentException") (show exIn (xI (ixI 4 xa) eIX (xI (rgI 0 7 xn) eIA none)) ["java/lang/IndexOutOfBoundsException", "java/lang/IllegalArgumentException"] from (exIn_x (by decide) (exIn_x (by decide) exIn_n))) hE with rfl | rfl
    · skip
      refine nh_c1 S X9 (htab.trans rfl) (by decide) rfl (by decide) (List.mem_of_getElem? (i := 1) rfl) hc9 hv9 hf9 ?_
      refine W.eq (g2 := F0 m 13 ls [.ref q9]) rfl ?_
      refine lv_astore (lv' := [(4, .ref q9), (0, .ref (z 0 0)), (1, .int xa), (2, .int xn), (3, .ref qo)]) S.1 S.2.1 dL_channel_13 hl (by decide) rfl (fun ls hl => ?_)
      refine lv_iconst (v := nI 1) S.1 S.2.1 dL_channel_15 (ofInt_nI 1) ?_
      exact nh_ret S w hr hlocks (cd2_1 hE) (selW_s hE).symm (Nat.le_of_ble_eq_true rfl) (Nat.le_of_ble_eq_true rfl) dL_channel_16
    · skip
      refine nh_c2 (E1 := "java/lang/IndexOutOfBoundsException") S X9 (htab.trans rfl) (by decide) hnc.1 (by decide) (List.mem_of_getElem? (i := 1) rfl) rfl (by decide) (List.mem_of_getElem? (i := 2) rfl) hc9 hv9 hf9 ?_
      refine W.eq (g2 := F0 m 17 ls [.ref q9]) rfl ?_
      refine lv_astore (lv' := [(4, .ref q9), (0, .ref (z 0 0)), (1, .int xa), (2, .int xn), (3, .ref qo)]) S.1 S.2.1 dL_channel_17 hl (by decide) rfl (fun ls hl => ?_)
      refine lv_iconst (v := nI 2) S.1 S.2.1 dL_channel_19 (ofInt_nI 2) ?_
      exact nh_ret S w hr hlocks (cd2_2 hE (by decide)) (selW_s hE).symm (Nat.le_of_ble_eq_true rfl) (Nat.le_of_ble_eq_true rfl) dL_channel_20
  · skip
    refine lv_i2l (v := (factV (X.2.2 (toN xa)) (toN xn)).toInt64) S.1 S.2.1 dL_channel_8 rfl ?_
    refine nv_lastE (tpO Z z ++ plB Z (z 8) P9 ++ stB Z (z 1) X ++ ptB Z (z 7 0) (z 7 1) (z 7 2) tl ti ta tr t k ++ hiB Z (z 2 0) (z 2 1) (fun r => z (3 + r)) o n Y) S w (by decide) (by decide) dL_channel_9 (fun H locs w => ?_)
    refine lv_goto (tgt := 21) S.1 S.2.1 dL_channel_10 (by decide) ?_
    refine lv_iconst (v := nI 0) S.1 S.2.1 dL_channel_21 (ofInt_nI 0) ?_
    exact nh_ret S w hr hlocks (cd2_n hN) (selW_n hN).symm (Nat.le_of_ble_eq_true rfl) (Nat.le_of_ble_eq_true rfl) dL_channel_22

theorem hdV_X7_value : yX7_value.cls = RX7 ∧ yX7_value.cls ≠ "java/lang/invoke/MethodHandle" ∧ yX7_value.cls ≠ "java/lang/invoke/VarHandle" ∧ (parseMethodDescriptor yX7_value.desc).map (fun d => d.parameters.length) = some 1 := by decide +kernel
set_option maxRecDepth 100000 in
set_option maxHeartbeats 4000000 in
theorem c_L_value (l : Launch) (hst : l.stackTraces = false) (D : va_G) (Z : Nat → ClassId) (z : Nat → Nat → Nat) (X : ST) (o n : Nat) (Y : Nat → ST) (tl ti ta tr : Nat) (t : Nat → Nat) (k : Nat → Nat → Nat) (P9 : PG) (xa : Int32) (qo : Nat) (fo : Nat → Int64) (hX : XB X) : Xh l yL_value wsL_value 8 125 1 6 D Z [.ref (z 0 0), .int xa, .ref qo] (tpO Z z ++ plB Z (z 8) P9 ++ stB Z (z 1) X ++ ptB Z (z 7 0) (z 7 1) (z 7 2) tl ti ta tr t k ++ hiB Z (z 2 0) (z 2 1) (fun r => z (3 + r)) o n Y ++ [(qo, .inl (Z 4, 1, .inr (.inl fo)))]) (cd1 (xI (rgI 0 7 xa) eIA none)) (selW (xI (rgI 0 7 xa) eIA none) (tpO Z z ++ plB Z (z 8) P9 ++ stB Z (z 1) X ++ ptB Z (z 7 0) (z 7 1) (z 7 2) tl ti ta tr t k ++ hiB Z (z 2 0) (z 2 1) (fun r => z (3 + r)) o n Y ++ [(qo, .inl (Z 4, 1, .inr (.inl fo)))]) (tpO Z z ++ plB Z (z 8) P9 ++ stB Z (z 1) X ++ ptB Z (z 7 0) (z 7 1) (z 7 2) tl ti ta tr t k ++ hiB Z (z 2 0) (z 2 1) (fun r => z (3 + r)) o n Y ++ [(qo, .inl (Z 4, 1, .inr (.inl (vp_updL fo 0 (nI (valF X (toN xa))).toInt64))))])) := by
  refine nh_e (cc := cL_value) (maxL := 4) (by decide +kernel) rfl (Nat.le_of_ble_eq_true rfl) (fun p e s m args below meth c A ls (S : CallFix p m c cL_value 4 s args wsL_value RL) hr hlocks htab X9 hnc hl w => ?_)
  have hl : lv_has ls 4 [(0, .ref (z 0 0)), (1, .int xa), (2, .ref qo)] := hl
  refine lv_aload_n S.1 S.2.1 dL_value_0 rfl (lv_at hl 2 rfl) ?_
  refine lv_iconst (v := nI 0) S.1 S.2.1 dL_value_1 (ofInt_nI 0) ?_
  refine lv_aload_n S.1 S.2.1 dL_value_2 rfl (lv_at hl 0 rfl) ?_
  refine lv_iload_n S.1 S.2.1 dL_value_3 rfl (lv_at hl 1 rfl) ?_
  refine nx_fVi [] ([(qo, .inl (Z 4, 1, .inr (.inl fo)))]) (ws' := tpO Z z ++ plB Z (z 8) P9 ++ stB Z (z 1) X ++ ptB Z (z 7 0) (z 7 1) (z 7 2) tl ti ta tr t k ++ hiB Z (z 2 0) (z 2 1) (fun r => z (3 + r)) o n Y ++ [(qo, .inl (Z 4, 1, .inr (.inl fo)))]) (rest := [vI 0, .ref qo]) S w X9 hl.1 (c_X7_value l hst D Z z X o n Y tl ti ta tr t k P9 xa hX) rfl rfl rfl gL_value_X7_value rfl hdV_X7_value ⟨(Nat.le_of_ble_eq_true rfl), (Nat.le_of_ble_eq_true rfl)⟩ (q0 := 0) rfl rfl rfl rfl (Nat.le_of_ble_eq_true rfl) ⟨(Nat.le_of_ble_eq_true rfl), (Nat.le_of_ble_eq_true rfl)⟩ dL_value_4 (fun E9 ce q9 H locs hE w hc9 hv9 hf9 => ?_) (fun hN H locs w => ?_)
  · skip
    obtain rfl : E9 = "java/lang/IllegalArgumentException" := exIn1 (A := "java/lang/IllegalArgumentException") (show exIn (xI (rgI 0 7 xa) eIA none) ["java/lang/IllegalArgumentException"] from (exIn_x (by decide) exIn_n)) hE
    refine nh_c1 S X9 (htab.trans rfl) (by decide) rfl (by decide) (List.mem_of_getElem? (i := 1) rfl) hc9 hv9 hf9 ?_
    refine W.eq (g2 := F0 m 12 ls [.ref q9]) rfl ?_
    refine lv_astore_n (lv' := [(3, .ref q9), (0, .ref (z 0 0)), (1, .int xa), (2, .ref qo)]) S.1 S.2.1 dL_value_12 rfl hl (by decide) rfl (fun ls hl => ?_)
    refine lv_iconst (v := nI 1) S.1 S.2.1 dL_value_13 (ofInt_nI 1) ?_
    exact nh_ret S w hr hlocks (cd1_s hE) (selW_s hE).symm (Nat.le_of_ble_eq_true rfl) (Nat.le_of_ble_eq_true rfl) dL_value_14
  · skip
    refine lv_i2l (v := (nI (valF X (toN xa))).toInt64) S.1 S.2.1 dL_value_7 rfl ?_
    refine nv_lastE (tpO Z z ++ plB Z (z 8) P9 ++ stB Z (z 1) X ++ ptB Z (z 7 0) (z 7 1) (z 7 2) tl ti ta tr t k ++ hiB Z (z 2 0) (z 2 1) (fun r => z (3 + r)) o n Y) S w (by decide) (by decide) dL_value_8 (fun H locs w => ?_)
    refine lv_goto (tgt := 15) S.1 S.2.1 dL_value_9 (by decide) ?_
    refine lv_iconst (v := nI 0) S.1 S.2.1 dL_value_15 (ofInt_nI 0) ?_
    exact nh_ret S w hr hlocks (cd1_n hN) (selW_n hN).symm (Nat.le_of_ble_eq_true rfl) (Nat.le_of_ble_eq_true rfl) dL_value_16

theorem hdV_X7_hashOf : yX7_hashOf.cls = RX7 ∧ yX7_hashOf.cls ≠ "java/lang/invoke/MethodHandle" ∧ yX7_hashOf.cls ≠ "java/lang/invoke/VarHandle" ∧ (parseMethodDescriptor yX7_hashOf.desc).map (fun d => d.parameters.length) = some 1 := by decide +kernel
set_option maxRecDepth 100000 in
set_option maxHeartbeats 4000000 in
theorem c_L_hashOf (l : Launch) (hst : l.stackTraces = false) (D : va_G) (Z : Nat → ClassId) (z : Nat → Nat → Nat) (X : ST) (o n : Nat) (Y : Nat → ST) (tl ti ta tr : Nat) (t : Nat → Nat) (k : Nat → Nat → Nat) (P9 : PG) (xa : Int32) (qo : Nat) (fo : Nat → Int64) (hX : XB X) : Xh l yL_hashOf wsL_hashOf 8 166 1 6 D Z [.ref (z 0 0), .int xa, .ref qo] (tpO Z z ++ plB Z (z 8) P9 ++ stB Z (z 1) X ++ ptB Z (z 7 0) (z 7 1) (z 7 2) tl ti ta tr t k ++ hiB Z (z 2 0) (z 2 1) (fun r => z (3 + r)) o n Y ++ [(qo, .inl (Z 4, 1, .inr (.inl fo)))]) (cd1 (xI (rgI 0 500 xa) eIA none)) (selW (xI (rgI 0 500 xa) eIA none) (tpO Z z ++ plB Z (z 8) P9 ++ stB Z (z 1) X ++ ptB Z (z 7 0) (z 7 1) (z 7 2) tl ti ta tr t k ++ hiB Z (z 2 0) (z 2 1) (fun r => z (3 + r)) o n Y ++ [(qo, .inl (Z 4, 1, .inr (.inl fo)))]) (tpO Z z ++ plB Z (z 8) (tkN X.1 X.2 (toN xa)) ++ stB Z (z 1) X ++ ptB Z (z 7 0) (z 7 1) (z 7 2) tl ti ta tr t k ++ hiB Z (z 2 0) (z 2 1) (fun r => z (3 + r)) o n Y ++ [(qo, .inl (Z 4, 1, .inr (.inl (vp_updL fo 0 (hsN X.1 X.2 (toN xa)).toInt64))))])) := by
  refine nh_e (cc := cL_hashOf) (maxL := 4) (by decide +kernel) rfl (Nat.le_of_ble_eq_true rfl) (fun p e s m args below meth c A ls (S : CallFix p m c cL_hashOf 4 s args wsL_hashOf RL) hr hlocks htab X9 hnc hl w => ?_)
  have hl : lv_has ls 4 [(0, .ref (z 0 0)), (1, .int xa), (2, .ref qo)] := hl
  refine lv_aload_n S.1 S.2.1 dL_hashOf_0 rfl (lv_at hl 2 rfl) ?_
  refine lv_iconst (v := nI 0) S.1 S.2.1 dL_hashOf_1 (ofInt_nI 0) ?_
  refine lv_aload_n S.1 S.2.1 dL_hashOf_2 rfl (lv_at hl 0 rfl) ?_
  refine lv_iload_n S.1 S.2.1 dL_hashOf_3 rfl (lv_at hl 1 rfl) ?_
  refine nx_fVi [] ([(qo, .inl (Z 4, 1, .inr (.inl fo)))]) (ws' := tpO Z z ++ plB Z (z 8) (tkN X.1 X.2 (toN xa)) ++ stB Z (z 1) X ++ ptB Z (z 7 0) (z 7 1) (z 7 2) tl ti ta tr t k ++ hiB Z (z 2 0) (z 2 1) (fun r => z (3 + r)) o n Y ++ [(qo, .inl (Z 4, 1, .inr (.inl fo)))]) (rest := [vI 0, .ref qo]) S w X9 hl.1 (c_X7_hashOf l hst D Z z X o n Y tl ti ta tr t k P9 xa hX) rfl rfl rfl gL_hashOf_X7_hashOf rfl hdV_X7_hashOf ⟨(Nat.le_of_ble_eq_true rfl), (Nat.le_of_ble_eq_true rfl)⟩ (q0 := 0) rfl rfl rfl rfl (Nat.le_of_ble_eq_true rfl) ⟨(Nat.le_of_ble_eq_true rfl), (Nat.le_of_ble_eq_true rfl)⟩ dL_hashOf_4 (fun E9 ce q9 H locs hE w hc9 hv9 hf9 => ?_) (fun hN H locs w => ?_)
  · skip
    obtain rfl : E9 = "java/lang/IllegalArgumentException" := exIn1 (A := "java/lang/IllegalArgumentException") (show exIn (xI (rgI 0 500 xa) eIA none) ["java/lang/IllegalArgumentException"] from (exIn_x (by decide) exIn_n)) hE
    refine nh_c1 S X9 (htab.trans rfl) (by decide) rfl (by decide) (List.mem_of_getElem? (i := 1) rfl) hc9 hv9 hf9 ?_
    refine W.eq (g2 := F0 m 12 ls [.ref q9]) rfl ?_
    refine lv_astore_n (lv' := [(3, .ref q9), (0, .ref (z 0 0)), (1, .int xa), (2, .ref qo)]) S.1 S.2.1 dL_hashOf_12 rfl hl (by decide) rfl (fun ls hl => ?_)
    refine lv_iconst (v := nI 1) S.1 S.2.1 dL_hashOf_13 (ofInt_nI 1) ?_
    exact nh_ret S w hr hlocks (cd1_s hE) (selW_s hE).symm (Nat.le_of_ble_eq_true rfl) (Nat.le_of_ble_eq_true rfl) dL_hashOf_14
  · skip
    refine lv_i2l (v := (hsN X.1 X.2 (toN xa)).toInt64) S.1 S.2.1 dL_hashOf_7 rfl ?_
    refine nv_lastE (tpO Z z ++ plB Z (z 8) (tkN X.1 X.2 (toN xa)) ++ stB Z (z 1) X ++ ptB Z (z 7 0) (z 7 1) (z 7 2) tl ti ta tr t k ++ hiB Z (z 2 0) (z 2 1) (fun r => z (3 + r)) o n Y) S w (by decide) (by decide) dL_hashOf_8 (fun H locs w => ?_)
    refine lv_goto (tgt := 15) S.1 S.2.1 dL_hashOf_9 (by decide) ?_
    refine lv_iconst (v := nI 0) S.1 S.2.1 dL_hashOf_15 (ofInt_nI 0) ?_
    exact nh_ret S w hr hlocks (cd1_n hN) (selW_n hN).symm (Nat.le_of_ble_eq_true rfl) (Nat.le_of_ble_eq_true rfl) dL_hashOf_16

theorem hdV_X7_silent : yX7_silent.cls = RX7 ∧ yX7_silent.cls ≠ "java/lang/invoke/MethodHandle" ∧ yX7_silent.cls ≠ "java/lang/invoke/VarHandle" ∧ (parseMethodDescriptor yX7_silent.desc).map (fun d => d.parameters.length) = some 2 := by decide +kernel
set_option maxRecDepth 100000 in
set_option maxHeartbeats 4000000 in
theorem c_L_silent (l : Launch) (hst : l.stackTraces = false) (D : va_G) (Z : Nat → ClassId) (z : Nat → Nat → Nat) (X : ST) (o n : Nat) (Y : Nat → ST) (tl ti ta tr : Nat) (t : Nat → Nat) (k : Nat → Nat → Nat) (P9 : PG) (xa xn : Int32) (qo : Nat) (fo : Nat → Int64) (hX : XB X) : Xh l yL_silent wsL_silent 8 141 2 12 D Z [.ref (z 0 0), .int xa, .int xn, .ref qo] (tpO Z z ++ plB Z (z 8) P9 ++ stB Z (z 1) X ++ ptB Z (z 7 0) (z 7 1) (z 7 2) tl ti ta tr t k ++ hiB Z (z 2 0) (z 2 1) (fun r => z (3 + r)) o n Y ++ [(qo, .inl (Z 4, 1, .inr (.inl fo)))]) (cd2 "java/lang/IndexOutOfBoundsException" (xI (ixI 4 xa) eIX (xI (rgI 1 500 xn) eIA none))) (selW (xI (ixI 4 xa) eIX (xI (rgI 1 500 xn) eIA none)) (tpO Z z ++ plB Z (z 8) P9 ++ stB Z (z 1) X ++ ptB Z (z 7 0) (z 7 1) (z 7 2) tl ti ta tr t k ++ hiB Z (z 2 0) (z 2 1) (fun r => z (3 + r)) o n Y ++ [(qo, .inl (Z 4, 1, .inr (.inl fo)))]) (tpO Z z ++ plB Z (z 8) (tkN X.1 X.2 (toN xn)) ++ stB Z (z 1) X ++ ptB Z (z 7 0) (z 7 1) (z 7 2) tl ti ta tr t k ++ hiB Z (z 2 0) (z 2 1) (fun r => z (3 + r)) o n Y ++ [(qo, .inl (Z 4, 1, .inr (.inl (vp_updL fo 0 (nI (siN X.1 X.2 (toN xa) (toN xn))).toInt64))))])) := by
  refine nh_e (cc := cL_silent) (maxL := 5) (by decide +kernel) rfl (Nat.le_of_ble_eq_true rfl) (fun p e s m args below meth c A ls (S : CallFix p m c cL_silent 5 s args wsL_silent RL) hr hlocks htab X9 hnc hl w => ?_)
  have hl : lv_has ls 5 [(0, .ref (z 0 0)), (1, .int xa), (2, .int xn), (3, .ref qo)] := hl
  refine lv_aload_n S.1 S.2.1 dL_silent_0 rfl (lv_at hl 3 rfl) ?_
  refine lv_iconst (v := nI 0) S.1 S.2.1 dL_silent_1 (ofInt_nI 0) ?_
  refine lv_aload_n S.1 S.2.1 dL_silent_2 rfl (lv_at hl 0 rfl) ?_
  refine lv_iload_n S.1 S.2.1 dL_silent_3 rfl (lv_at hl 1 rfl) ?_
  refine lv_iload_n S.1 S.2.1 dL_silent_4 rfl (lv_at hl 2 rfl) ?_
  refine nx_fVi [] ([(qo, .inl (Z 4, 1, .inr (.inl fo)))]) (ws' := tpO Z z ++ plB Z (z 8) (tkN X.1 X.2 (toN xn)) ++ stB Z (z 1) X ++ ptB Z (z 7 0) (z 7 1) (z 7 2) tl ti ta tr t k ++ hiB Z (z 2 0) (z 2 1) (fun r => z (3 + r)) o n Y ++ [(qo, .inl (Z 4, 1, .inr (.inl fo)))]) (rest := [vI 0, .ref qo]) S w X9 hl.1 (c_X7_silent l hst D Z z X o n Y tl ti ta tr t k P9 xa xn hX) rfl rfl rfl gL_silent_X7_silent rfl hdV_X7_silent ⟨(Nat.le_of_ble_eq_true rfl), (Nat.le_of_ble_eq_true rfl)⟩ (q0 := 0) rfl rfl rfl rfl (Nat.le_of_ble_eq_true rfl) ⟨(Nat.le_of_ble_eq_true rfl), (Nat.le_of_ble_eq_true rfl)⟩ dL_silent_5 (fun E9 ce q9 H locs hE w hc9 hv9 hf9 => ?_) (fun hN H locs w => ?_)
  · skip
    rcases exIn2 (A := "java/lang/IndexOutOfBoundsException") (B := "java/lang/IllegalArgumentException") (show exIn (xI (ixI 4 xa) eIX (xI (rgI 1 500 xn) eIA none)) ["java/lang/IndexOutOfBoundsException", "java/lang/IllegalArgumentException"] from (exIn_x (by decide) (exIn_x (by decide) exIn_n))) hE with rfl | rfl
    · skip
      refine nh_c1 S X9 (htab.trans rfl) (by decide) rfl (by decide) (List.mem_of_getElem? (i := 1) rfl) hc9 hv9 hf9 ?_
      refine W.eq (g2 := F0 m 13 ls [.ref q9]) rfl ?_
      refine lv_astore (lv' := [(4, .ref q9), (0, .ref (z 0 0)), (1, .int xa), (2, .int xn), (3, .ref qo)]) S.1 S.2.1 dL_silent_13 hl (by decide) rfl (fun ls hl => ?_)
      refine lv_iconst (v := nI 1) S.1 S.2.1 dL_silent_15 (ofInt_nI 1) ?_
      exact nh_ret S w hr hlocks (cd2_1 hE) (selW_s hE).symm (Nat.le_of_ble_eq_true rfl) (Nat.le_of_ble_eq_true rfl) dL_silent_16
    · skip
      refine nh_c2 (E1 := "java/lang/IndexOutOfBoundsException") S X9 (htab.trans rfl) (by decide) hnc.1 (by decide) (List.mem_of_getElem? (i := 1) rfl) rfl (by decide) (List.mem_of_getElem? (i := 2) rfl) hc9 hv9 hf9 ?_
      refine W.eq (g2 := F0 m 17 ls [.ref q9]) rfl ?_
      refine lv_astore (lv' := [(4, .ref q9), (0, .ref (z 0 0)), (1, .int xa), (2, .int xn), (3, .ref qo)]) S.1 S.2.1 dL_silent_17 hl (by decide) rfl (fun ls hl => ?_)
      refine lv_iconst (v := nI 2) S.1 S.2.1 dL_silent_19 (ofInt_nI 2) ?_
      exact nh_ret S w hr hlocks (cd2_2 hE (by decide)) (selW_s hE).symm (Nat.le_of_ble_eq_true rfl) (Nat.le_of_ble_eq_true rfl) dL_silent_20
  · skip
    refine lv_i2l (v := (nI (siN X.1 X.2 (toN xa) (toN xn))).toInt64) S.1 S.2.1 dL_silent_8 rfl ?_
    refine nv_lastE (tpO Z z ++ plB Z (z 8) (tkN X.1 X.2 (toN xn)) ++ stB Z (z 1) X ++ ptB Z (z 7 0) (z 7 1) (z 7 2) tl ti ta tr t k ++ hiB Z (z 2 0) (z 2 1) (fun r => z (3 + r)) o n Y) S w (by decide) (by decide) dL_silent_9 (fun H locs w => ?_)
    refine lv_goto (tgt := 21) S.1 S.2.1 dL_silent_10 (by decide) ?_
    refine lv_iconst (v := nI 0) S.1 S.2.1 dL_silent_21 (ofInt_nI 0) ?_
    exact nh_ret S w hr hlocks (cd2_n hN) (selW_n hN).symm (Nat.le_of_ble_eq_true rfl) (Nat.le_of_ble_eq_true rfl) dL_silent_22
