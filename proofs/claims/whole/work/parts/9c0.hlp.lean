theorem hdV_X7_setNote : yX7_setNote.cls = RX7 ∧ yX7_setNote.cls ≠ "java/lang/invoke/MethodHandle" ∧ yX7_setNote.cls ≠ "java/lang/invoke/VarHandle" ∧ (parseMethodDescriptor yX7_setNote.desc).map (fun d => d.parameters.length) = some 5 := by decide +kernel
set_option maxRecDepth 100000 in
set_option maxHeartbeats 4000000 in
theorem c_L_setNote (l : Launch) (hst : l.stackTraces = false) (D : va_G) (Z : Nat → ClassId) (z : Nat → Nat → Nat) (X : ST) (o n : Nat) (Y : Nat → ST) (tl ti ta tr : Nat) (t : Nat → Nat) (k : Nat → Nat → Nat) (P9 : PG) (xa xb xd xn xv : Int32) (qo : Nat) (fo : Nat → Int64) (ho : o < 4) (hn : n ≤ 4) (hX : XB X) : Xh l yL_setNote wsL_setNote 8 138 3 18 D Z [.ref (z 0 0), .int xa, .int xb, .int xd, .int xn, .int xv, .ref qo] (tpO Z z ++ plB Z (z 8) P9 ++ stB Z (z 1) X ++ ptB Z (z 7 0) (z 7 1) (z 7 2) tl ti ta tr t k ++ hiB Z (z 2 0) (z 2 1) (fun r => z (3 + r)) o n Y ++ [(qo, .inl (Z 4, 1, .inr (.inl fo)))]) (cd2 "java/lang/IndexOutOfBoundsException" (xI (celI xa xb xd) eIX (xI (rgI 0 61 xn) eIA (xI (rgI 0 15 xv) eIA none)))) (selW (xI (celI xa xb xd) eIX (xI (rgI 0 61 xn) eIA (xI (rgI 0 15 xv) eIA none))) (tpO Z z ++ plB Z (z 8) P9 ++ stB Z (z 1) X ++ ptB Z (z 7 0) (z 7 1) (z 7 2) tl ti ta tr t k ++ hiB Z (z 2 0) (z 2 1) (fun r => z (3 + r)) o n Y ++ [(qo, .inl (Z 4, 1, .inr (.inl fo)))]) (tpO Z z ++ plB Z (z 8) P9 ++ stB Z (z 1) (stNote X (cix (toN xa) (toN xb) (toN xd)) (toN xn) (toN xv)) ++ ptB Z (z 7 0) (z 7 1) (z 7 2) tl ti ta tr t k ++ hiB Z (z 2 0) (z 2 1) (fun r => z (3 + r)) (svO o n) (svN n + 1) (svX o n Y X) ++ [(qo, .inl (Z 4, 1, .inr (.inl (vp_updL fo 0 (nI (X.1.1 (cix (toN xa) (toN xb) (toN xd)) 0)).toInt64))))])) := by
  refine nh_e (cc := cL_setNote) (maxL := 8) (by decide +kernel) rfl (Nat.le_of_ble_eq_true rfl) (fun p e s m args below meth c A ls (S : CallFix p m c cL_setNote 8 s args wsL_setNote RL) hr hlocks htab X9 hnc hl w => ?_)
  have hl : lv_has ls 8 [(0, .ref (z 0 0)), (1, .int xa), (2, .int xb), (3, .int xd), (4, .int xn), (5, .int xv), (6, .ref qo)] := hl
  refine lv_aload S.1 S.2.1 dL_setNote_0 (lv_at hl 6 rfl) ?_
  refine lv_iconst (v := nI 0) S.1 S.2.1 dL_setNote_2 (ofInt_nI 0) ?_
  refine lv_aload_n S.1 S.2.1 dL_setNote_3 rfl (lv_at hl 0 rfl) ?_
  refine lv_iload_n S.1 S.2.1 dL_setNote_4 rfl (lv_at hl 1 rfl) ?_
  refine lv_iload_n S.1 S.2.1 dL_setNote_5 rfl (lv_at hl 2 rfl) ?_
  refine lv_iload_n S.1 S.2.1 dL_setNote_6 rfl (lv_at hl 3 rfl) ?_
  refine lv_iload S.1 S.2.1 dL_setNote_7 (lv_at hl 4 rfl) ?_
  refine lv_iload S.1 S.2.1 dL_setNote_9 (lv_at hl 5 rfl) ?_
  refine nx_fVi [] ([(qo, .inl (Z 4, 1, .inr (.inl fo)))]) (ws' := tpO Z z ++ plB Z (z 8) P9 ++ stB Z (z 1) (stNote X (cix (toN xa) (toN xb) (toN xd)) (toN xn) (toN xv)) ++ ptB Z (z 7 0) (z 7 1) (z 7 2) tl ti ta tr t k ++ hiB Z (z 2 0) (z 2 1) (fun r => z (3 + r)) (svO o n) (svN n + 1) (svX o n Y X) ++ [(qo, .inl (Z 4, 1, .inr (.inl fo)))]) (rest := [vI 0, .ref qo]) S w X9 hl.1 (c_X7_setNote l hst D Z z X o n Y tl ti ta tr t k P9 xa xb xd xn xv ho hn hX) rfl rfl rfl gL_setNote_X7_setNote rfl hdV_X7_setNote ⟨(Nat.le_of_ble_eq_true rfl), (Nat.le_of_ble_eq_true rfl)⟩ (q0 := 0) rfl rfl rfl rfl (Nat.le_of_ble_eq_true rfl) ⟨(Nat.le_of_ble_eq_true rfl), (Nat.le_of_ble_eq_true rfl)⟩ dL_setNote_11 (fun E9 ce q9 H locs hE w hc9 hv9 hf9 => ?_) (fun hN H locs w => ?_)
  · skip
    rcases exIn2 (A := "java/lang/IndexOutOfBoundsException") (B := "java/lang/IllegalArgumentException") (show exIn (xI (celI xa xb xd) eIX (xI (rgI 0 61 xn) eIA (xI (rgI 0 15 xv) eIA none))) ["java/lang/IndexOutOfBoundsException", "java/lang/IllegalArgumentException"] from (exIn_x (by decide) (exIn_x (by decide) (exIn_x (by decide) exIn_n)))) hE with rfl | rfl
    · skip
      refine nh_c1 S X9 (htab.trans rfl) (by decide) rfl (by decide) (List.mem_of_getElem? (i := 1) rfl) hc9 hv9 hf9 ?_
      refine W.eq (g2 := F0 m 19 ls [.ref q9]) rfl ?_
      refine lv_astore (lv' := [(7, .ref q9), (0, .ref (z 0 0)), (1, .int xa), (2, .int xb), (3, .int xd), (4, .int xn), (5, .int xv), (6, .ref qo)]) S.1 S.2.1 dL_setNote_19 hl (by decide) rfl (fun ls hl => ?_)
      refine lv_iconst (v := nI 1) S.1 S.2.1 dL_setNote_21 (ofInt_nI 1) ?_
      exact nh_ret S w hr hlocks (cd2_1 hE) (selW_s hE).symm (Nat.le_of_ble_eq_true rfl) (Nat.le_of_ble_eq_true rfl) dL_setNote_22
    · skip
      refine nh_c2 (E1 := "java/lang/IndexOutOfBoundsException") S X9 (htab.trans rfl) (by decide) hnc.1 (by decide) (List.mem_of_getElem? (i := 1) rfl) rfl (by decide) (List.mem_of_getElem? (i := 2) rfl) hc9 hv9 hf9 ?_
      refine W.eq (g2 := F0 m 23 ls [.ref q9]) rfl ?_
      refine lv_astore (lv' := [(7, .ref q9), (0, .ref (z 0 0)), (1, .int xa), (2, .int xb), (3, .int xd), (4, .int xn), (5, .int xv), (6, .ref qo)]) S.1 S.2.1 dL_setNote_23 hl (by decide) rfl (fun ls hl => ?_)
      refine lv_iconst (v := nI 2) S.1 S.2.1 dL_setNote_25 (ofInt_nI 2) ?_
      exact nh_ret S w hr hlocks (cd2_2 hE (by decide)) (selW_s hE).symm (Nat.le_of_ble_eq_true rfl) (Nat.le_of_ble_eq_true rfl) dL_setNote_26
  · skip
    refine lv_i2l (v := (nI (X.1.1 (cix (toN xa) (toN xb) (toN xd)) 0)).toInt64) S.1 S.2.1 dL_setNote_14 rfl ?_
    refine nv_lastE (tpO Z z ++ plB Z (z 8) P9 ++ stB Z (z 1) (stNote X (cix (toN xa) (toN xb) (toN xd)) (toN xn) (toN xv)) ++ ptB Z (z 7 0) (z 7 1) (z 7 2) tl ti ta tr t k ++ hiB Z (z 2 0) (z 2 1) (fun r => z (3 + r)) (svO o n) (svN n + 1) (svX o n Y X)) S w (by decide) (by decide) dL_setNote_15 (fun H locs w => ?_)
    refine lv_goto (tgt := 27) S.1 S.2.1 dL_setNote_16 (by decide) ?_
    refine lv_iconst (v := nI 0) S.1 S.2.1 dL_setNote_27 (ofInt_nI 0) ?_
    exact nh_ret S w hr hlocks (cd2_n hN) (selW_n hN).symm (Nat.le_of_ble_eq_true rfl) (Nat.le_of_ble_eq_true rfl) dL_setNote_28

theorem hdV_X7_setEffect : yX7_setEffect.cls = RX7 ∧ yX7_setEffect.cls ≠ "java/lang/invoke/MethodHandle" ∧ yX7_setEffect.cls ≠ "java/lang/invoke/VarHandle" ∧ (parseMethodDescriptor yX7_setEffect.desc).map (fun d => d.parameters.length) = some 5 := by decide +kernel
set_option maxRecDepth 100000 in
set_option maxHeartbeats 4000000 in
theorem c_L_setEffect (l : Launch) (hst : l.stackTraces = false) (D : va_G) (Z : Nat → ClassId) (z : Nat → Nat → Nat) (X : ST) (o n : Nat) (Y : Nat → ST) (tl ti ta tr : Nat) (t : Nat → Nat) (k : Nat → Nat → Nat) (P9 : PG) (xa xb xd xn xv : Int32) (qo : Nat) (fo : Nat → Int64) (ho : o < 4) (hn : n ≤ 4) (hX : XB X) : Xh l yL_setEffect wsL_setEffect 8 138 3 18 D Z [.ref (z 0 0), .int xa, .int xb, .int xd, .int xn, .int xv, .ref qo] (tpO Z z ++ plB Z (z 8) P9 ++ stB Z (z 1) X ++ ptB Z (z 7 0) (z 7 1) (z 7 2) tl ti ta tr t k ++ hiB Z (z 2 0) (z 2 1) (fun r => z (3 + r)) o n Y ++ [(qo, .inl (Z 4, 1, .inr (.inl fo)))]) (cd2 "java/lang/IndexOutOfBoundsException" (xI (celI xa xb xd) eIX (xI (rgI 0 7 xn) eIA (xI (rgI 0 9 xv) eIA none)))) (selW (xI (celI xa xb xd) eIX (xI (rgI 0 7 xn) eIA (xI (rgI 0 9 xv) eIA none))) (tpO Z z ++ plB Z (z 8) P9 ++ stB Z (z 1) X ++ ptB Z (z 7 0) (z 7 1) (z 7 2) tl ti ta tr t k ++ hiB Z (z 2 0) (z 2 1) (fun r => z (3 + r)) o n Y ++ [(qo, .inl (Z 4, 1, .inr (.inl fo)))]) (tpO Z z ++ plB Z (z 8) P9 ++ stB Z (z 1) (stEff X (cix (toN xa) (toN xb) (toN xd)) (toN xn) (toN xv)) ++ ptB Z (z 7 0) (z 7 1) (z 7 2) tl ti ta tr t k ++ hiB Z (z 2 0) (z 2 1) (fun r => z (3 + r)) (svO o n) (svN n + 1) (svX o n Y X) ++ [(qo, .inl (Z 4, 1, .inr (.inl (vp_updL fo 0 (nI (X.1.1 (cix (toN xa) (toN xb) (toN xd)) 2)).toInt64))))])) := by
  refine nh_e (cc := cL_setEffect) (maxL := 8) (by decide +kernel) rfl (Nat.le_of_ble_eq_true rfl) (fun p e s m args below meth c A ls (S : CallFix p m c cL_setEffect 8 s args wsL_setEffect RL) hr hlocks htab X9 hnc hl w => ?_)
  have hl : lv_has ls 8 [(0, .ref (z 0 0)), (1, .int xa), (2, .int xb), (3, .int xd), (4, .int xn), (5, .int xv), (6, .ref qo)] := hl
  refine lv_aload S.1 S.2.1 dL_setEffect_0 (lv_at hl 6 rfl) ?_
  refine lv_iconst (v := nI 0) S.1 S.2.1 dL_setEffect_2 (ofInt_nI 0) ?_
  refine lv_aload_n S.1 S.2.1 dL_setEffect_3 rfl (lv_at hl 0 rfl) ?_
  refine lv_iload_n S.1 S.2.1 dL_setEffect_4 rfl (lv_at hl 1 rfl) ?_
  refine lv_iload_n S.1 S.2.1 dL_setEffect_5 rfl (lv_at hl 2 rfl) ?_
  refine lv_iload_n S.1 S.2.1 dL_setEffect_6 rfl (lv_at hl 3 rfl) ?_
  refine lv_iload S.1 S.2.1 dL_setEffect_7 (lv_at hl 4 rfl) ?_
  refine lv_iload S.1 S.2.1 dL_setEffect_9 (lv_at hl 5 rfl) ?_
  refine nx_fVi [] ([(qo, .inl (Z 4, 1, .inr (.inl fo)))]) (ws' := tpO Z z ++ plB Z (z 8) P9 ++ stB Z (z 1) (stEff X (cix (toN xa) (toN xb) (toN xd)) (toN xn) (toN xv)) ++ ptB Z (z 7 0) (z 7 1) (z 7 2) tl ti ta tr t k ++ hiB Z (z 2 0) (z 2 1) (fun r => z (3 + r)) (svO o n) (svN n + 1) (svX o n Y X) ++ [(qo, .inl (Z 4, 1, .inr (.inl fo)))]) (rest := [vI 0, .ref qo]) S w X9 hl.1 (c_X7_setEffect l hst D Z z X o n Y tl ti ta tr t k P9 xa xb xd xn xv ho hn hX) rfl rfl rfl gL_setEffect_X7_setEffect rfl hdV_X7_setEffect ⟨(Nat.le_of_ble_eq_true rfl), (Nat.le_of_ble_eq_true rfl)⟩ (q0 := 0) rfl rfl rfl rfl (Nat.le_of_ble_eq_true rfl) ⟨(Nat.le_of_ble_eq_true rfl), (Nat.le_of_ble_eq_true rfl)⟩ dL_setEffect_11 (fun E9 ce q9 H locs hE w hc9 hv9 hf9 => ?_) (fun hN H locs w => ?_)
  · skip
    rcases exIn2 (A := "java/lang/IndexOutOfBoundsException") (B := "java/lang/IllegalArgumentException") (show exIn (xI (celI xa xb xd) eIX (xI (rgI 0 7 xn) eIA (xI (rgI 0 9 xv) eIA none))) ["java/lang/IndexOutOfBoundsException", "java/lang/IllegalArgumentException"] from (exIn_x (by decide) (exIn_x (by decide) (exIn_x (by decide) exIn_n)))) hE with rfl | rfl
    · skip
      refine nh_c1 S X9 (htab.trans rfl) (by decide) rfl (by decide) (List.mem_of_getElem? (i := 1) rfl) hc9 hv9 hf9 ?_
      refine W.eq (g2 := F0 m 19 ls [.ref q9]) rfl ?_
      refine lv_astore (lv' := [(7, .ref q9), (0, .ref (z 0 0)), (1, .int xa), (2, .int xb), (3, .int xd), (4, .int xn), (5, .int xv), (6, .ref qo)]) S.1 S.2.1 dL_setEffect_19 hl (by decide) rfl (fun ls hl => ?_)
      refine lv_iconst (v := nI 1) S.1 S.2.1 dL_setEffect_21 (ofInt_nI 1) ?_
      exact nh_ret S w hr hlocks (cd2_1 hE) (selW_s hE).symm (Nat.le_of_ble_eq_true rfl) (Nat.le_of_ble_eq_true rfl) dL_setEffect_22
    · skip
      refine nh_c2 (E1 := "java/lang/IndexOutOfBoundsException") S X9 (htab.trans rfl) (by decide) hnc.1 (by decide) (List.mem_of_getElem? (i := 1) rfl) rfl (by decide) (List.mem_of_getElem? (i := 2) rfl) hc9 hv9 hf9 ?_
      refine W.eq (g2 := F0 m 23 ls [.ref q9]) rfl ?_
      refine lv_astore (lv' := [(7, .ref q9), (0, .ref (z 0 0)), (1, .int xa), (2, .int xb), (3, .int xd), (4, .int xn), (5, .int xv), (6, .ref qo)]) S.1 S.2.1 dL_setEffect_23 hl (by decide) rfl (fun ls hl => ?_)
      refine lv_iconst (v := nI 2) S.1 S.2.1 dL_setEffect_25 (ofInt_nI 2) ?_
      exact nh_ret S w hr hlocks (cd2_2 hE (by decide)) (selW_s hE).symm (Nat.le_of_ble_eq_true rfl) (Nat.le_of_ble_eq_true rfl) dL_setEffect_26
  · skip
    refine lv_i2l (v := (nI (X.1.1 (cix (toN xa) (toN xb) (toN xd)) 2)).toInt64) S.1 S.2.1 dL_setEffect_14 rfl ?_
    refine nv_lastE (tpO Z z ++ plB Z (z 8) P9 ++ stB Z (z 1) (stEff X (cix (toN xa) (toN xb) (toN xd)) (toN xn) (toN xv)) ++ ptB Z (z 7 0) (z 7 1) (z 7 2) tl ti ta tr t k ++ hiB Z (z 2 0) (z 2 1) (fun r => z (3 + r)) (svO o n) (svN n + 1) (svX o n Y X)) S w (by decide) (by decide) dL_setEffect_15 (fun H locs w => ?_)
    refine lv_goto (tgt := 27) S.1 S.2.1 dL_setEffect_16 (by decide) ?_
    refine lv_iconst (v := nI 0) S.1 S.2.1 dL_setEffect_27 (ofInt_nI 0) ?_
    exact nh_ret S w hr hlocks (cd2_n hN) (selW_n hN).symm (Nat.le_of_ble_eq_true rfl) (Nat.le_of_ble_eq_true rfl) dL_setEffect_28

theorem hdV_X7_setRows : yX7_setRows.cls = RX7 ∧ yX7_setRows.cls ≠ "java/lang/invoke/MethodHandle" ∧ yX7_setRows.cls ≠ "java/lang/invoke/VarHandle" ∧ (parseMethodDescriptor yX7_setRows.desc).map (fun d => d.parameters.length) = some 2 := by decide +kernel
set_option maxRecDepth 100000 in
set_option maxHeartbeats 4000000 in
theorem c_L_setRows (l : Launch) (hst : l.stackTraces = false) (D : va_G) (Z : Nat → ClassId) (z : Nat → Nat → Nat) (X : ST) (o n : Nat) (Y : Nat → ST) (tl ti ta tr : Nat) (t : Nat → Nat) (k : Nat → Nat → Nat) (P9 : PG) (xa xn : Int32) (qo : Nat) (fo : Nat → Int64) (ho : o < 4) (hn : n ≤ 4) (hX : XB X) : Xh l yL_setRows wsL_setRows 8 134 2 12 D Z [.ref (z 0 0), .int xa, .int xn, .ref qo] (tpO Z z ++ plB Z (z 8) P9 ++ stB Z (z 1) X ++ ptB Z (z 7 0) (z 7 1) (z 7 2) tl ti ta tr t k ++ hiB Z (z 2 0) (z 2 1) (fun r => z (3 + r)) o n Y ++ [(qo, .inl (Z 4, 1, .inr (.inl fo)))]) (cd2 "java/lang/IndexOutOfBoundsException" (xI (ixI 6 xa) eIX (xI (rgI 1 8 xn) eIA none))) (selW (xI (ixI 6 xa) eIX (xI (rgI 1 8 xn) eIA none)) (tpO Z z ++ plB Z (z 8) P9 ++ stB Z (z 1) X ++ ptB Z (z 7 0) (z 7 1) (z 7 2) tl ti ta tr t k ++ hiB Z (z 2 0) (z 2 1) (fun r => z (3 + r)) o n Y ++ [(qo, .inl (Z 4, 1, .inr (.inl fo)))]) (tpO Z z ++ plB Z (z 8) P9 ++ stB Z (z 1) (stRows X (toN xa) (toN xn)) ++ ptB Z (z 7 0) (z 7 1) (z 7 2) tl ti ta tr t k ++ hiB Z (z 2 0) (z 2 1) (fun r => z (3 + r)) (svO o n) (svN n + 1) (svX o n Y X) ++ [(qo, .inl (Z 4, 1, .inr (.inl (vp_updL fo 0 (nI (X.1.2.1 (toN xa))).toInt64))))])) := by
  refine nh_e (cc := cL_setRows) (maxL := 5) (by decide +kernel) rfl (Nat.le_of_ble_eq_true rfl) (fun p e s m args below meth c A ls (S : CallFix p m c cL_setRows 5 s args wsL_setRows RL) hr hlocks htab X9 hnc hl w => ?_)
  have hl : lv_has ls 5 [(0, .ref (z 0 0)), (1, .int xa), (2, .int xn), (3, .ref qo)] := hl
  refine lv_aload_n S.1 S.2.1 dL_setRows_0 rfl (lv_at hl 3 rfl) ?_
  refine lv_iconst (v := nI 0) S.1 S.2.1 dL_setRows_1 (ofInt_nI 0) ?_
  refine lv_aload_n S.1 S.2.1 dL_setRows_2 rfl (lv_at hl 0 rfl) ?_
  refine lv_iload_n S.1 S.2.1 dL_setRows_3 rfl (lv_at hl 1 rfl) ?_
  refine lv_iload_n S.1 S.2.1 dL_setRows_4 rfl (lv_at hl 2 rfl) ?_
  refine nx_fVi [] ([(qo, .inl (Z 4, 1, .inr (.inl fo)))]) (ws' := tpO Z z ++ plB Z (z 8) P9 ++ stB Z (z 1) (stRows X (toN xa) (toN xn)) ++ ptB Z (z 7 0) (z 7 1) (z 7 2) tl ti ta tr t k ++ hiB Z (z 2 0) (z 2 1) (fun r => z (3 + r)) (svO o n) (svN n + 1) (svX o n Y X) ++ [(qo, .inl (Z 4, 1, .inr (.inl fo)))]) (rest := [vI 0, .ref qo]) S w X9 hl.1 (c_X7_setRows l hst D Z z X o n Y tl ti ta tr t k P9 xa xn ho hn hX) rfl rfl rfl gL_setRows_X7_setRows rfl hdV_X7_setRows ⟨(Nat.le_of_ble_eq_true rfl), (Nat.le_of_ble_eq_true rfl)⟩ (q0 := 0) rfl rfl rfl rfl (Nat.le_of_ble_eq_true rfl) ⟨(Nat.le_of_ble_eq_true rfl), (Nat.le_of_ble_eq_true rfl)⟩ dL_setRows_5 (fun E9 ce q9 H locs hE w hc9 hv9 hf9 => ?_) (fun hN H locs w => ?_)
  · skip
    rcases exIn2 (A := "java/lang/IndexOutOfBoundsException") (B := "java/lang/IllegalArgumentException") (show exIn (xI (ixI 6 xa) eIX (xI (rgI 1 8 xn) eIA none)) ["java/lang/IndexOutOfBoundsException", "java/lang/IllegalArgumentException"] from (exIn_x (by decide) (exIn_x (by decide) exIn_n))) hE with rfl | rfl
    · skip
      refine nh_c1 S X9 (htab.trans rfl) (by decide) rfl (by decide) (List.mem_of_getElem? (i := 1) rfl) hc9 hv9 hf9 ?_
      refine W.eq (g2 := F0 m 13 ls [.ref q9]) rfl ?_
      refine lv_astore (lv' := [(4, .ref q9), (0, .ref (z 0 0)), (1, .int xa), (2, .int xn), (3, .ref qo)]) S.1 S.2.1 dL_setRows_13 hl (by decide) rfl (fun ls hl => ?_)
      refine lv_iconst (v := nI 1) S.1 S.2.1 dL_setRows_15 (ofInt_nI 1) ?_
      exact nh_ret S w hr hlocks (cd2_1 hE) (selW_s hE).symm (Nat.le_of_ble_eq_true rfl) (Nat.le_of_ble_eq_true rfl) dL_setRows_16
    · skip
      refine nh_c2 (E1 := "java/lang/IndexOutOfBoundsException") S X9 (htab.trans rfl) (by decide) hnc.1 (by decide) (List.mem_of_getElem? (i := 1) rfl) rfl (by decide) (List.mem_of_getElem? (i := 2) rfl) hc9 hv9 hf9 ?_
      refine W.eq (g2 := F0 m 17 ls [.ref q9]) rfl ?_
      refine lv_astore (lv' := [(4, .ref q9), (0, .ref (z 0 0)), (1, .int xa), (2, .int xn), (3, .ref qo)]) S.1 S.2.1 dL_setRows_17 hl (by decide) rfl (fun ls hl => ?_)
      refine lv_iconst (v := nI 2) S.1 S.2.1 dL_setRows_19 (ofInt_nI 2) ?_
      exact nh_ret S w hr hlocks (cd2_2 hE (by decide)) (selW_s hE).symm (Nat.le_of_ble_eq_true rfl) (Nat.le_of_ble_eq_true rfl) dL_setRows_20
  · skip
    refine lv_i2l (v := (nI (X.1.2.1 (toN xa))).toInt64) S.1 S.2.1 dL_setRows_8 rfl ?_
    refine nv_lastE (tpO Z z ++ plB Z (z 8) P9 ++ stB Z (z 1) (stRows X (toN xa) (toN xn)) ++ ptB Z (z 7 0) (z 7 1) (z 7 2) tl ti ta tr t k ++ hiB Z (z 2 0) (z 2 1) (fun r => z (3 + r)) (svO o n) (svN n + 1) (svX o n Y X)) S w (by decide) (by decide) dL_setRows_9 (fun H locs w => ?_)
    refine lv_goto (tgt := 21) S.1 S.2.1 dL_setRows_10 (by decide) ?_
    refine lv_iconst (v := nI 0) S.1 S.2.1 dL_setRows_21 (ofInt_nI 0) ?_
    exact nh_ret S w hr hlocks (cd2_n hN) (selW_n hN).symm (Nat.le_of_ble_eq_true rfl) (Nat.le_of_ble_eq_true rfl) dL_setRows_22

theorem hdV_X7_setOrder : yX7_setOrder.cls = RX7 ∧ yX7_setOrder.cls ≠ "java/lang/invoke/MethodHandle" ∧ yX7_setOrder.cls ≠ "java/lang/invoke/VarHandle" ∧ (parseMethodDescriptor yX7_setOrder.desc).map (fun d => d.parameters.length) = some 2 := by decide +kernel
set_option maxRecDepth 100000 in
set_option maxHeartbeats 4000000 in
theorem c_L_setOrder (l : Launch) (hst : l.stackTraces = false) (D : va_G) (Z : Nat → ClassId) (z : Nat → Nat → Nat) (X : ST) (o n : Nat) (Y : Nat → ST) (tl ti ta tr : Nat) (t : Nat → Nat) (k : Nat → Nat → Nat) (P9 : PG) (xa xn : Int32) (qo : Nat) (fo : Nat → Int64) (ho : o < 4) (hn : n ≤ 4) (hX : XB X) : Xh l yL_setOrder wsL_setOrder 8 133 2 12 D Z [.ref (z 0 0), .int xa, .int xn, .ref qo] (tpO Z z ++ plB Z (z 8) P9 ++ stB Z (z 1) X ++ ptB Z (z 7 0) (z 7 1) (z 7 2) tl ti ta tr t k ++ hiB Z (z 2 0) (z 2 1) (fun r => z (3 + r)) o n Y ++ [(qo, .inl (Z 4, 1, .inr (.inl fo)))]) (cd2 "java/lang/IndexOutOfBoundsException" (xI (ixI (min (X.1.2.2.2 + 1) 8) xa) eIX (xI (rgI 0 5 xn) eIA none))) (selW (xI (ixI (min (X.1.2.2.2 + 1) 8) xa) eIX (xI (rgI 0 5 xn) eIA none)) (tpO Z z ++ plB Z (z 8) P9 ++ stB Z (z 1) X ++ ptB Z (z 7 0) (z 7 1) (z 7 2) tl ti ta tr t k ++ hiB Z (z 2 0) (z 2 1) (fun r => z (3 + r)) o n Y ++ [(qo, .inl (Z 4, 1, .inr (.inl fo)))]) (tpO Z z ++ plB Z (z 8) P9 ++ stB Z (z 1) (stOrd X (toN xa) (toN xn)) ++ ptB Z (z 7 0) (z 7 1) (z 7 2) tl ti ta tr t k ++ hiB Z (z 2 0) (z 2 1) (fun r => z (3 + r)) (svO o n) (svN n + 1) (svX o n Y X) ++ [(qo, .inl (Z 4, 1, .inr (.inl (vp_updL fo 0 (nI (max X.1.2.2.2 (toN xa + 1))).toInt64))))])) := by
  refine nh_e (cc := cL_setOrder) (maxL := 5) (by decide +kernel) rfl (Nat.le_of_ble_eq_true rfl) (fun p e s m args below meth c A ls (S : CallFix p m c cL_setOrder 5 s args wsL_setOrder RL) hr hlocks htab X9 hnc hl w => ?_)
  have hl : lv_has ls 5 [(0, .ref (z 0 0)), (1, .int xa), (2, .int xn), (3, .ref qo)] := hl
  refine lv_aload_n S.1 S.2.1 dL_setOrder_0 rfl (lv_at hl 3 rfl) ?_
  refine lv_iconst (v := nI 0) S.1 S.2.1 dL_setOrder_1 (ofInt_nI 0) ?_
  refine lv_aload_n S.1 S.2.1 dL_setOrder_2 rfl (lv_at hl 0 rfl) ?_
  refine lv_iload_n S.1 S.2.1 dL_setOrder_3 rfl (lv_at hl 1 rfl) ?_
  refine lv_iload_n S.1 S.2.1 dL_setOrder_4 rfl (lv_at hl 2 rfl) ?_
  refine nx_fVi [] ([(qo, .inl (Z 4, 1, .inr (.inl fo)))]) (ws' := tpO Z z ++ plB Z (z 8) P9 ++ stB Z (z 1) (stOrd X (toN xa) (toN xn)) ++ ptB Z (z 7 0) (z 7 1) (z 7 2) tl ti ta tr t k ++ hiB Z (z 2 0) (z 2 1) (fun r => z (3 + r)) (svO o n) (svN n + 1) (svX o n Y X) ++ [(qo, .inl (Z 4, 1, .inr (.inl fo)))]) (rest := [vI 0, .ref qo]) S w X9 hl.1 (c_X7_setOrder l hst D Z z X o n Y tl ti ta tr t k P9 xa xn ho hn hX) rfl rfl rfl gL_setOrder_X7_setOrder rfl hdV_X7_setOrder ⟨(Nat.le_of_ble_eq_true rfl), (Nat.le_of_ble_eq_true rfl)⟩ (q0 := 0) rfl rfl rfl rfl (Nat.le_of_ble_eq_true rfl) ⟨(Nat.le_of_ble_eq_true rfl), (Nat.le_of_ble_eq_true rfl)⟩ dL_setOrder_5 (fun E9 ce q9 H locs hE w hc9 hv9 hf9 => ?_) (fun hN H locs w => ?_)
  · skip
    rcases exIn2 (A := "java/lang/IndexOutOfBoundsException") (B := "java/lang/IllegalArgumentException") (show exIn (xI (ixI (min (X.1.2.2.2 + 1) 8) xa) eIX (xI (rgI 0 5 xn) eIA none)) ["java/lang/IndexOutOfBoundsException", "java/lang/IllegalArgumentException"] from (exIn_x (by decide) (exIn_x (by decide) exIn_n))) hE with rfl | rfl
    · skip
      refine nh_c1 S X9 (htab.trans rfl) (by decide) rfl (by decide) (List.mem_of_getElem? (i := 1) rfl) hc9 hv9 hf9 ?_
      refine W.eq (g2 := F0 m 13 ls [.ref q9]) rfl ?_
      refine lv_astore (lv' := [(4, .ref q9), (0, .ref (z 0 0)), (1, .int xa), (2, .int xn), (3, .ref qo)]) S.1 S.2.1 dL_setOrder_13 hl (by decide) rfl (fun ls hl => ?_)
      refine lv_iconst (v := nI 1) S.1 S.2.1 dL_setOrder_15 (ofInt_nI 1) ?_
      exact nh_ret S w hr hlocks (cd2_1 hE) (selW_s hE).symm (Nat.le_of_ble_eq_true rfl) (Nat.le_of_ble_eq_true rfl) dL_setOrder_16
    · skip
      refine nh_c2 (E1 := "java/lang/IndexOutOfBoundsException") S X9 (htab.trans rfl) (by decide) hnc.1 (by decide) (List.mem_of_getElem? (i := 1) rfl) rfl (by decide) (List.mem_of_getElem? (i := 2) rfl) hc9 hv9 hf9 ?_
      refine W.eq (g2 := F0 m 17 ls [.ref q9]) rfl ?_
      refine lv_astore (lv' := [(4, .ref q9), (0, .ref (z 0 0)), (1, .int xa), (2, .int xn), (3, .ref qo)]) S.1 S.2.1 dL_setOrder_17 hl (by decide) rfl (fun ls hl => ?_)
      refine lv_iconst (v := nI 2) S.1 S.2.1 dL_setOrder_19 (ofInt_nI 2) ?_
      exact nh_ret S w hr hlocks (cd2_2 hE (by decide)) (selW_s hE).symm (Nat.le_of_ble_eq_true rfl) (Nat.le_of_ble_eq_true rfl) dL_setOrder_20
  · skip
    refine lv_i2l (v := (nI (max X.1.2.2.2 (toN xa + 1))).toInt64) S.1 S.2.1 dL_setOrder_8 rfl ?_
    refine nv_lastE (tpO Z z ++ plB Z (z 8) P9 ++ stB Z (z 1) (stOrd X (toN xa) (toN xn)) ++ ptB Z (z 7 0) (z 7 1) (z 7 2) tl ti ta tr t k ++ hiB Z (z 2 0) (z 2 1) (fun r => z (3 + r)) (svO o n) (svN n + 1) (svX o n Y X)) S w (by decide) (by decide) dL_setOrder_9 (fun H locs w => ?_)
    refine lv_goto (tgt := 21) S.1 S.2.1 dL_setOrder_10 (by decide) ?_
    refine lv_iconst (v := nI 0) S.1 S.2.1 dL_setOrder_21 (ofInt_nI 0) ?_
    exact nh_ret S w hr hlocks (cd2_n hN) (selW_n hN).symm (Nat.le_of_ble_eq_true rfl) (Nat.le_of_ble_eq_true rfl) dL_setOrder_22

theorem hdV_X7_shorten : yX7_shorten.cls = RX7 ∧ yX7_shorten.cls ≠ "java/lang/invoke/MethodHandle" ∧ yX7_shorten.cls ≠ "java/lang/invoke/VarHandle" ∧ (parseMethodDescriptor yX7_shorten.desc).map (fun d => d.parameters.length) = some 0 := by decide +kernel
set_option maxRecDepth 100000 in
set_option maxHeartbeats 4000000 in
theorem c_L_shorten (l : Launch) (hst : l.stackTraces = false) (D : va_G) (Z : Nat → ClassId) (z : Nat → Nat → Nat) (X : ST) (o n : Nat) (Y : Nat → ST) (tl ti ta tr : Nat) (t : Nat → Nat) (k : Nat → Nat → Nat) (P9 : PG) (qo : Nat) (fo : Nat → Int64) (ho : o < 4) (hn : n ≤ 4) (hX : XB X) : Xh l yL_shorten wsL_shorten 7 132 1 6 D Z [.ref (z 0 0), .ref qo] (tpO Z z ++ plB Z (z 8) P9 ++ stB Z (z 1) X ++ ptB Z (z 7 0) (z 7 1) (z 7 2) tl ti ta tr t k ++ hiB Z (z 2 0) (z 2 1) (fun r => z (3 + r)) o n Y ++ [(qo, .inl (Z 4, 1, .inr (.inl fo)))]) (cd1 (xI (¬ (X.1.2.2.2 - 1 = 0) ∧ X.2.1 0 ≠ X.1.2.2.2 - 1) eIS none)) (selW (xI (¬ (X.1.2.2.2 - 1 = 0) ∧ X.2.1 0 ≠ X.1.2.2.2 - 1) eIS none) (tpO Z z ++ plB Z (z 8) P9 ++ stB Z (z 1) X ++ ptB Z (z 7 0) (z 7 1) (z 7 2) tl ti ta tr t k ++ hiB Z (z 2 0) (z 2 1) (fun r => z (3 + r)) o n Y ++ [(qo, .inl (Z 4, 1, .inr (.inl fo)))]) (tpO Z z ++ plB Z (z 8) P9 ++ stB Z (z 1) (stSho X) ++ ptB Z (z 7 0) (z 7 1) (z 7 2) tl ti ta tr t k ++ hiB Z (z 2 0) (z 2 1) (fun r => z (3 + r)) (svO o n) (svN n + 1) (svX o n Y X) ++ [(qo, .inl (Z 4, 1, .inr (.inl (vp_updL fo 0 (nI (X.1.2.2.2 - 1)).toInt64))))])) := by
  refine nh_e (cc := cL_shorten) (maxL := 3) (by decide +kernel) rfl (Nat.le_of_ble_eq_true rfl) (fun p e s m args below meth c A ls (S : CallFix p m c cL_shorten 3 s args wsL_shorten RL) hr hlocks htab X9 hnc hl w => ?_)
  have hl : lv_has ls 3 [(0, .ref (z 0 0)), (1, .ref qo)] := hl
  refine lv_aload_n S.1 S.2.1 dL_shorten_0 rfl (lv_at hl 1 rfl) ?_
  refine lv_iconst (v := nI 0) S.1 S.2.1 dL_shorten_1 (ofInt_nI 0) ?_
  refine lv_aload_n S.1 S.2.1 dL_shorten_2 rfl (lv_at hl 0 rfl) ?_
  refine nx_fVi [] ([(qo, .inl (Z 4, 1, .inr (.inl fo)))]) (ws' := tpO Z z ++ plB Z (z 8) P9 ++ stB Z (z 1) (stSho X) ++ ptB Z (z 7 0) (z 7 1) (z 7 2) tl ti ta tr t k ++ hiB Z (z 2 0) (z 2 1) (fun r => z (3 + r)) (svO o n) (svN n + 1) (svX o n Y X) ++ [(qo, .inl (Z 4, 1, .inr (.inl fo)))]) (rest := [vI 0, .ref qo]) S w X9 hl.1 (c_X7_shorten l hst D Z z X o n Y tl ti ta tr t k P9 ho hn hX) rfl rfl rfl gL_shorten_X7_shorten rfl hdV_X7_shorten ⟨(Nat.le_of_ble_eq_true rfl), (Nat.le_of_ble_eq_true rfl)⟩ (q0 := 0) rfl rfl rfl rfl (Nat.le_of_ble_eq_true rfl) ⟨(Nat.le_of_ble_eq_true rfl), (Nat.le_of_ble_eq_true rfl)⟩ dL_shorten_3 (fun E9 ce q9 H locs hE w hc9 hv9 hf9 => ?_) (fun hN H locs w => ?_)
  · skip
    obtain rfl : E9 = "java/lang/IllegalStateException" := exIn1 (A := "java/lang/IllegalStateException") (show exIn (xI (¬ (X.1.2.2.2 - 1 = 0) ∧ X.2.1 0 ≠ X.1.2.2.2 - 1) eIS none) ["java/lang/IllegalStateException"] from (exIn_x (by decide) exIn_n)) hE
    refine nh_c1 S X9 (htab.trans rfl) (by decide) rfl (by decide) (List.mem_of_getElem? (i := 1) rfl) hc9 hv9 hf9 ?_
    refine W.eq (g2 := F0 m 11 ls [.ref q9]) rfl ?_
    refine lv_astore_n (lv' := [(2, .ref q9), (0, .ref (z 0 0)), (1, .ref qo)]) S.1 S.2.1 dL_shorten_11 rfl hl (by decide) rfl (fun ls hl => ?_)
    refine lv_iconst (v := nI 1) S.1 S.2.1 dL_shorten_12 (ofInt_nI 1) ?_
    exact nh_ret S w hr hlocks (cd1_s hE) (selW_s hE).symm (Nat.le_of_ble_eq_true rfl) (Nat.le_of_ble_eq_true rfl) dL_shorten_13
  · skip
    refine lv_i2l (v := (nI (X.1.2.2.2 - 1)).toInt64) S.1 S.2.1 dL_shorten_6 rfl ?_
    refine nv_lastE (tpO Z z ++ plB Z (z 8) P9 ++ stB Z (z 1) (stSho X) ++ ptB Z (z 7 0) (z 7 1) (z 7 2) tl ti ta tr t k ++ hiB Z (z 2 0) (z 2 1) (fun r => z (3 + r)) (svO o n) (svN n + 1) (svX o n Y X)) S w (by decide) (by decide) dL_shorten_7 (fun H locs w => ?_)
    refine lv_goto (tgt := 14) S.1 S.2.1 dL_shorten_8 (by decide) ?_
    refine lv_iconst (v := nI 0) S.1 S.2.1 dL_shorten_14 (ofInt_nI 0) ?_
    exact nh_ret S w hr hlocks (cd1_n hN) (selW_n hN).symm (Nat.le_of_ble_eq_true rfl) (Nat.le_of_ble_eq_true rfl) dL_shorten_15
