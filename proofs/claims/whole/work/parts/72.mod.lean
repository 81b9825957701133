set_option maxRecDepth 100000 in
set_option maxHeartbeats 4000000 in
theorem c_X8_in (l : Launch) (D : va_G) (Z : Nat → ClassId) (v u g : Int64)  : Ci l yX8_in wsX8_in 0 0 D Z [.long v, .long u, .long g] ([]) (nI (bP (¬ v < u ∧ ¬ g < v))) ([]) := by
  refine ne_i (cc := cX8_in) (maxL := 6) (by decide +kernel) rfl (Nat.le_of_ble_eq_true rfl) (fun p e s m args below meth c A ls (S : CallFix p m c cX8_in 6 s args wsX8_in RX8) hr hlocks hl w => ?_)
  have hl : lv_has ls 6 [(0, .long v), (2, .long u), (4, .long g)] := hl
  refine lv_lload_n S.1 S.2.1 dX8_in_0 rfl (lv_at hl 0 rfl) ?_
  refine lv_lload_n S.1 S.2.1 dX8_in_1 rfl (lv_at hl 1 rfl) ?_
  refine W.lcmp S.1 S.2.1 dX8_in_2 ?_
  refine lv_if_lt S.1 S.2.1 (tgt := 17) dX8_in_3 (by decide) (fun h_1 => ?_) (fun h_1 => ?_)
  · skip
    refine lv_iconst (v := nI 0) S.1 S.2.1 dX8_in_17 (ofInt_nI 0) ?_
    exact nv_iret S w hr hlocks (nI_bool (by decide)) (by rw [bP_f (fun z9 => z9.1 ((lg_cmp_lt _ _).mp h_1))]) rfl dX8_in_18
  · skip
    refine lv_lload_n S.1 S.2.1 dX8_in_6 rfl (lv_at hl 0 rfl) ?_
    refine lv_lload S.1 S.2.1 dX8_in_7 (lv_at hl 2 rfl) ?_
    refine W.lcmp S.1 S.2.1 dX8_in_9 ?_
    refine lv_if_gt S.1 S.2.1 (tgt := 17) dX8_in_10 (by decide) (fun h_2 => ?_) (fun h_2 => ?_)
    · skip
      refine lv_iconst (v := nI 0) S.1 S.2.1 dX8_in_17 (ofInt_nI 0) ?_
      exact nv_iret S w hr hlocks (nI_bool (by decide)) (by rw [bP_f (fun z9 => z9.2 ((lg_cmp_gt _ _).mp h_2))]) rfl dX8_in_18
    · skip
      refine lv_iconst (v := nI 1) S.1 S.2.1 dX8_in_13 (ofInt_nI 1) ?_
      refine lv_goto (tgt := 18) S.1 S.2.1 dX8_in_14 (by decide) ?_
      exact nv_iret S w hr hlocks (nI_bool (by decide)) (by rw [bP_t ⟨fun z9 => h_1 ((lg_cmp_lt _ _).mpr z9), fun z9 => h_2 ((lg_cmp_gt _ _).mpr z9)⟩]) rfl dX8_in_18

theorem c_X8_inI (l : Launch) (D : va_G) (Z : Nat → ClassId) (x : Int32) (u g : Nat) (hu : u < 2 ^ 31) (hg : g < 2 ^ 31) : Ci l yX8_in wsX8_in 0 0 D Z [.long x.toInt64, .long (lN u), .long (lN g)] [] (nI (bP (rgI u g x))) [] := by
  have h := c_X8_in l D Z x.toInt64 (lN u) (lN g)
  rwa [bP_congr (P := ¬ x.toInt64 < lN u ∧ ¬ lN g < x.toInt64) (Q := rgI u g x) (by rw [l_lt hu, l_lt' hg])] at h
theorem c_X8_inN (l : Launch) (D : va_G) (Z : Nat → ClassId) (x u g : Nat) (hx : x < 2 ^ 31) (hu : u < 2 ^ 31) (hg : g < 2 ^ 31) : Ci l yX8_in wsX8_in 0 0 D Z [.long (nI x).toInt64, .long (lN u), .long (lN g)] [] (nI (bP (u ≤ x ∧ x ≤ g))) [] := by
  have h := c_X8_inI l D Z (nI x) u g hu hg
  rwa [bP_congr (rgI_n hx hu hg)] at h

theorem hn_X8_thrown_8 : ∀ w ∈ wsX80, w ∈ wsX8_thrown := by decide +kernel
set_option maxRecDepth 100000 in
set_option maxHeartbeats 4000000 in
theorem c_X8_thrown (l : Launch) (D : va_G) (Z : Nat → ClassId) (b : Nat → Nat) (X : ST) (sv sd : Nat → Nat) (sm th tl pl ro nu : Nat) (t r : Nat → Nat)  : Ci l yX8_thrown wsX8_thrown 0 0 D Z [.ref (b 0)] (mdM Z b X sv sd sm th tl pl ro nu t r) (nI th) (mdM Z b X sv sd sm th tl pl ro nu t r) := by
  refine ne_i (cc := cX8_thrown) (maxL := 1) (by decide +kernel) rfl (Nat.le_of_ble_eq_true rfl) (fun p e s m args below meth c A ls (S : CallFix p m c cX8_thrown 1 s args wsX8_thrown RX8) hr hlocks hl w => ?_)
  have hl : lv_has ls 1 [(0, .ref (b 0))] := hl
  refine lv_aload_n S.1 S.2.1 dX8_thrown_0 rfl (lv_at hl 0 rfl) ?_
  refine nv_get S w (C := RX8) (T := TX8) (N := 11) hn_X8_thrown_8 0 rfl rfl 4 (by decide) (List.mem_of_getElem? (i := 1) rfl) (v := vI th) rfl dX8_thrown_1 ?_
  exact nv_iret S w hr hlocks rfl rfl rfl dX8_thrown_4

theorem hn_X8_fine_8 : ∀ w ∈ wsX80, w ∈ wsX8_fine := by decide +kernel
set_option maxRecDepth 100000 in
set_option maxHeartbeats 4000000 in
theorem c_X8_fine (l : Launch) (D : va_G) (Z : Nat → ClassId) (b : Nat → Nat) (X : ST) (sv sd : Nat → Nat) (sm th tl pl ro nu : Nat) (t r : Nat → Nat) (v : Int32)  : Ci l yX8_fine wsX8_fine 0 0 D Z [.ref (b 0), .int v] (mdM Z b X sv sd sm th tl pl ro nu t r) v (mdM Z b X sv sd sm 0 tl pl ro nu t r) := by
  refine ne_i (cc := cX8_fine) (maxL := 2) (by decide +kernel) rfl (Nat.le_of_ble_eq_true rfl) (fun p e s m args below meth c A ls (S : CallFix p m c cX8_fine 2 s args wsX8_fine RX8) hr hlocks hl w => ?_)
  have hl : lv_has ls 2 [(0, .ref (b 0)), (1, .int v)] := hl
  refine lv_aload_n S.1 S.2.1 dX8_fine_0 rfl (lv_at hl 0 rfl) ?_
  refine lv_iconst (v := nI 0) S.1 S.2.1 dX8_fine_1 (ofInt_nI 0) ?_
  refine nv_put S w (C := RX8) (T := TX8) (N := 11) hn_X8_fine_8 tyX8_ok nmX8 0 rfl rfl 4 (by decide) (List.mem_of_getElem? (i := 1) rfl) rfl rfl (Nat.le_of_ble_eq_true rfl) (ws' := [(b 0, .inr (7, [.ref (b 1), .ref (b 2), .ref (b 3), vI sm, vI 0, .ref (b 4), vI tl, vI pl, .ref (b 5), vI ro, vI nu])), (b 1, .inl (Z 0, 853, .inl (ar 853 (enc X)))), (b 2, .inl (Z 0, 3412, .inl (ar 3412 sv))), (b 3, .inl (Z 0, 853, .inl (ar 853 sd))), (b 4, .inl (Z 0, 100, .inl (ar 100 t))), (b 5, .inl (Z 0, 128, .inl (ar 128 r)))]) rfl dX8_fine_2 (fun H locs w => ?_)
  refine lv_iload_n S.1 S.2.1 dX8_fine_5 rfl (lv_at hl 1 rfl) ?_
  exact nv_iret S w hr hlocks rfl rfl rfl dX8_fine_6

theorem hn_X8_throwing_8 : ∀ w ∈ wsX80, w ∈ wsX8_throwing := by decide +kernel
set_option maxRecDepth 100000 in
set_option maxHeartbeats 4000000 in
theorem c_X8_throwing (l : Launch) (D : va_G) (Z : Nat → ClassId) (b : Nat → Nat) (X : ST) (sv sd : Nat → Nat) (sm th tl pl ro nu : Nat) (t r : Nat → Nat) (v : Nat)  : Ci l yX8_throwing wsX8_throwing 0 0 D Z [.ref (b 0), vI v] (mdM Z b X sv sd sm th tl pl ro nu t r) (nI 0) (mdM Z b X sv sd sm v tl pl ro nu t r) := by
  refine ne_i (cc := cX8_throwing) (maxL := 2) (by decide +kernel) rfl (Nat.le_of_ble_eq_true rfl) (fun p e s m args below meth c A ls (S : CallFix p m c cX8_throwing 2 s args wsX8_throwing RX8) hr hlocks hl w => ?_)
  have hl : lv_has ls 2 [(0, .ref (b 0)), (1, vI v)] := hl
  refine lv_aload_n S.1 S.2.1 dX8_throwing_0 rfl (lv_at hl 0 rfl) ?_
  refine lv_iload_n S.1 S.2.1 dX8_throwing_1 rfl (lv_at hl 1 rfl) ?_
  refine nv_put S w (C := RX8) (T := TX8) (N := 11) hn_X8_throwing_8 tyX8_ok nmX8 0 rfl rfl 4 (by decide) (List.mem_of_getElem? (i := 1) rfl) rfl rfl (Nat.le_of_ble_eq_true rfl) (ws' := [(b 0, .inr (7, [.ref (b 1), .ref (b 2), .ref (b 3), vI sm, vI v, .ref (b 4), vI tl, vI pl, .ref (b 5), vI ro, vI nu])), (b 1, .inl (Z 0, 853, .inl (ar 853 (enc X)))), (b 2, .inl (Z 0, 3412, .inl (ar 3412 sv))), (b 3, .inl (Z 0, 853, .inl (ar 853 sd))), (b 4, .inl (Z 0, 100, .inl (ar 100 t))), (b 5, .inl (Z 0, 128, .inl (ar 128 r)))]) rfl dX8_throwing_2 (fun H locs w => ?_)
  refine lv_iconst (v := nI 0) S.1 S.2.1 dX8_throwing_5 (ofInt_nI 0) ?_
  exact nv_iret S w hr hlocks rfl rfl rfl dX8_throwing_6

set_option maxRecDepth 100000 in
set_option maxHeartbeats 4000000 in
theorem c_X8_cellAt (l : Launch) (D : va_G) (Z : Nat → ClassId) (a f d : Nat)  : Ci l yX8_cellAt wsX8_cellAt 0 0 D Z [vI a, vI f, vI d] ([]) (nI (85 + 4 * cix a f d)) ([]) := by
  refine ne_i (cc := cX8_cellAt) (maxL := 3) (by decide +kernel) rfl (Nat.le_of_ble_eq_true rfl) (fun p e s m args below meth c A ls (S : CallFix p m c cX8_cellAt 3 s args wsX8_cellAt RX8) hr hlocks hl w => ?_)
  have hl : lv_has ls 3 [(0, vI a), (1, vI f), (2, vI d)] := hl
  refine lv_bipush (v := nI 85) S.1 S.2.1 dX8_cellAt_0 (by decide +kernel) ?_
  refine lv_iconst (v := nI 4) S.1 S.2.1 dX8_cellAt_2 (ofInt_nI 4) ?_
  refine lv_iconst (v := nI 4) S.1 S.2.1 dX8_cellAt_3 (ofInt_nI 4) ?_
  refine lv_bipush (v := nI 8) S.1 S.2.1 dX8_cellAt_4 (by decide +kernel) ?_
  refine lv_iload_n S.1 S.2.1 dX8_cellAt_6 rfl (lv_at hl 0 rfl) ?_
  refine nv_imul S dX8_cellAt_7 ?_
  refine lv_iload_n S.1 S.2.1 dX8_cellAt_8 rfl (lv_at hl 1 rfl) ?_
  refine nv_iadd S dX8_cellAt_9 ?_
  refine nv_imul S dX8_cellAt_10 ?_
  refine lv_iload_n S.1 S.2.1 dX8_cellAt_11 rfl (lv_at hl 2 rfl) ?_
  refine nv_iadd S dX8_cellAt_12 ?_
  refine nv_imul S dX8_cellAt_13 ?_
  refine nv_iadd S dX8_cellAt_14 ?_
  exact nv_iret S w hr hlocks rfl (by unfold cix; congr 1; omega) rfl dX8_cellAt_15

set_option maxRecDepth 100000 in
set_option maxHeartbeats 4000000 in
theorem c_X8_at (l : Launch) (D : va_G) (Z : Nat → ClassId) (d k : Nat)  : Ci l yX8_at wsX8_at 0 0 D Z [vI d, vI k] ([]) (nI (21 + 16 * d + k)) ([]) := by
  refine ne_i (cc := cX8_at) (maxL := 2) (by decide +kernel) rfl (Nat.le_of_ble_eq_true rfl) (fun p e s m args below meth c A ls (S : CallFix p m c cX8_at 2 s args wsX8_at RX8) hr hlocks hl w => ?_)
  have hl : lv_has ls 2 [(0, vI d), (1, vI k)] := hl
  refine lv_bipush (v := nI 21) S.1 S.2.1 dX8_at_0 (by decide +kernel) ?_
  refine lv_bipush (v := nI 16) S.1 S.2.1 dX8_at_2 (by decide +kernel) ?_
  refine lv_iload_n S.1 S.2.1 dX8_at_4 rfl (lv_at hl 0 rfl) ?_
  refine nv_imul S dX8_at_5 ?_
  refine nv_iadd S dX8_at_6 ?_
  refine lv_iload_n S.1 S.2.1 dX8_at_7 rfl (lv_at hl 1 rfl) ?_
  refine nv_iadd S dX8_at_8 ?_
  exact nv_iret S w hr hlocks rfl rfl rfl dX8_at_9

theorem hdS_X8_in : yX8_in.cls ≠ "java/lang/invoke/MethodHandle" ∧ yX8_in.cls ≠ "java/lang/invoke/VarHandle" ∧ (parseMethodDescriptor yX8_in.desc).map (fun d => d.parameters.length) = some 3 := by decide +kernel
set_option maxRecDepth 100000 in
set_option maxHeartbeats 4000000 in
theorem c_X8_isPattern (l : Launch) (D : va_G) (Z : Nat → ClassId) (x : Int32)  : Ci l yX8_isPattern wsX8_isPattern 1 25 D Z [.int x] ([]) (nI (bP (rgI 0 5 x))) ([]) := by
  refine ne_i (cc := cX8_isPattern) (maxL := 1) (by decide +kernel) rfl (Nat.le_of_ble_eq_true rfl) (fun p e s m args below meth c A ls (S : CallFix p m c cX8_isPattern 1 s args wsX8_isPattern RX8) hr hlocks hl w => ?_)
  have hl : lv_has ls 1 [(0, .int x)] := hl
  refine lv_iload_n S.1 S.2.1 dX8_isPattern_0 rfl (lv_at hl 0 rfl) ?_
  refine lv_i2l (v := x.toInt64) S.1 S.2.1 dX8_isPattern_1 rfl ?_
  refine lv_lconst (v := 0) S.1 S.2.1 dX8_isPattern_2 rfl ?_
  refine lv_ldc2 (v := 5) S.1 S.2.1 S.2.2.2.1 (S.2.2.2.2 _ (by decide +kernel)) dX8_isPattern_3 ?_
  refine nv_pSi (rest := []) S w hl.1 (c_X8_inI l D Z x 0 5 (by omega) (by omega)) gX8_isPattern_X8_in rfl hdS_X8_in ⟨Nat.le_of_ble_eq_true rfl, Nat.le_of_ble_eq_true rfl⟩ rfl rfl (Nat.le_of_ble_eq_true rfl) ⟨Nat.zero_le _, Nat.zero_le _⟩ dX8_isPattern_6 (fun H locs w => ?_)
  exact nv_iret S w hr hlocks bP_n rfl rfl dX8_isPattern_9

set_option maxRecDepth 100000 in
set_option maxHeartbeats 4000000 in
theorem c_X8_isChannel (l : Launch) (D : va_G) (Z : Nat → ClassId) (x : Int32)  : Ci l yX8_isChannel wsX8_isChannel 1 25 D Z [.int x] ([]) (nI (bP (rgI 0 3 x))) ([]) := by
  refine ne_i (cc := cX8_isChannel) (maxL := 1) (by decide +kernel) rfl (Nat.le_of_ble_eq_true rfl) (fun p e s m args below meth c A ls (S : CallFix p m c cX8_isChannel 1 s args wsX8_isChannel RX8) hr hlocks hl w => ?_)
  have hl : lv_has ls 1 [(0, .int x)] := hl
  refine lv_iload_n S.1 S.2.1 dX8_isChannel_0 rfl (lv_at hl 0 rfl) ?_
  refine lv_i2l (v := x.toInt64) S.1 S.2.1 dX8_isChannel_1 rfl ?_
  refine lv_lconst (v := 0) S.1 S.2.1 dX8_isChannel_2 rfl ?_
  refine lv_ldc2 (v := 3) S.1 S.2.1 S.2.2.2.1 (S.2.2.2.2 _ (by decide +kernel)) dX8_isChannel_3 ?_
  refine nv_pSi (rest := []) S w hl.1 (c_X8_inI l D Z x 0 3 (by omega) (by omega)) gX8_isChannel_X8_in rfl hdS_X8_in ⟨Nat.le_of_ble_eq_true rfl, Nat.le_of_ble_eq_true rfl⟩ rfl rfl (Nat.le_of_ble_eq_true rfl) ⟨Nat.zero_le _, Nat.zero_le _⟩ dX8_isChannel_6 (fun H locs w => ?_)
  exact nv_iret S w hr hlocks bP_n rfl rfl dX8_isChannel_9

theorem hdS_X8_isPattern : yX8_isPattern.cls ≠ "java/lang/invoke/MethodHandle" ∧ yX8_isPattern.cls ≠ "java/lang/invoke/VarHandle" ∧ (parseMethodDescriptor yX8_isPattern.desc).map (fun d => d.parameters.length) = some 1 := by decide +kernel
theorem hdS_X8_isChannel : yX8_isChannel.cls ≠ "java/lang/invoke/MethodHandle" ∧ yX8_isChannel.cls ≠ "java/lang/invoke/VarHandle" ∧ (parseMethodDescriptor yX8_isChannel.desc).map (fun d => d.parameters.length) = some 1 := by decide +kernel
set_option maxRecDepth 100000 in
set_option maxHeartbeats 4000000 in
theorem c_X8_isCell (l : Launch) (D : va_G) (Z : Nat → ClassId) (x y z : Int32)  : Ci l yX8_isCell wsX8_isCell 2 45 D Z [.int x, .int y, .int z] ([]) (nI (bP (rgI 0 5 x ∧ rgI 0 7 y ∧ rgI 0 3 z))) ([]) := by
  refine ne_i (cc := cX8_isCell) (maxL := 3) (by decide +kernel) rfl (Nat.le_of_ble_eq_true rfl) (fun p e s m args below meth c A ls (S : CallFix p m c cX8_isCell 3 s args wsX8_isCell RX8) hr hlocks hl w => ?_)
  have hl : lv_has ls 3 [(0, .int x), (1, .int y), (2, .int z)] := hl
  refine lv_iload_n S.1 S.2.1 dX8_isCell_0 rfl (lv_at hl 0 rfl) ?_
  refine nv_pSi (rest := []) S w hl.1 (c_X8_isPattern l D Z x ) gX8_isCell_X8_isPattern rfl hdS_X8_isPattern ⟨Nat.le_of_ble_eq_true rfl, Nat.le_of_ble_eq_true rfl⟩ rfl rfl (Nat.le_of_ble_eq_true rfl) ⟨Nat.zero_le _, Nat.zero_le _⟩ dX8_isCell_1 (fun H locs w => ?_)
  refine nv_if_eqB S (tgt := 30) dX8_isCell_4 (by decide) (fun h_1 => ?_) (fun h_1 => ?_)
  · skip
    refine lv_iconst (v := nI 0) S.1 S.2.1 dX8_isCell_30 (ofInt_nI 0) ?_
    exact nv_iret S w hr hlocks (nI_bool (by decide)) (by rw [bP_f (fun z9 => h_1 z9.1)]) rfl dX8_isCell_31
  · skip
    refine lv_iload_n S.1 S.2.1 dX8_isCell_7 rfl (lv_at hl 1 rfl) ?_
    refine lv_i2l (v := y.toInt64) S.1 S.2.1 dX8_isCell_8 rfl ?_
    refine lv_lconst (v := 0) S.1 S.2.1 dX8_isCell_9 rfl ?_
    refine lv_ldc2 (v := 7) S.1 S.2.1 S.2.2.2.1 (S.2.2.2.2 _ (by decide +kernel)) dX8_isCell_10 ?_
    refine nv_pSi (rest := []) S w hl.1 (c_X8_inI l D Z y 0 7 (by omega) (by omega)) gX8_isCell_X8_in rfl hdS_X8_in ⟨Nat.le_of_ble_eq_true rfl, Nat.le_of_ble_eq_true rfl⟩ rfl rfl (Nat.le_of_ble_eq_true rfl) ⟨Nat.zero_le _, Nat.zero_le _⟩ dX8_isCell_13 (fun H locs w => ?_)
    refine nv_if_eqB S (tgt := 30) dX8_isCell_16 (by decide) (fun h_2 => ?_) (fun h_2 => ?_)
    · skip
      refine lv_iconst (v := nI 0) S.1 S.2.1 dX8_isCell_30 (ofInt_nI 0) ?_
      exact nv_iret S w hr hlocks (nI_bool (by decide)) (by rw [bP_f (fun z9 => h_2 z9.2.1)]) rfl dX8_isCell_31
    · skip
      refine lv_iload_n S.1 S.2.1 dX8_isCell_19 rfl (lv_at hl 2 rfl) ?_
      refine nv_pSi (rest := []) S w hl.1 (c_X8_isChannel l D Z z ) gX8_isCell_X8_isChannel rfl hdS_X8_isChannel ⟨Nat.le_of_ble_eq_true rfl, Nat.le_of_ble_eq_true rfl⟩ rfl rfl (Nat.le_of_ble_eq_true rfl) ⟨Nat.zero_le _, Nat.zero_le _⟩ dX8_isCell_20 (fun H locs w => ?_)
      refine nv_if_eqB S (tgt := 30) dX8_isCell_23 (by decide) (fun h_3 => ?_) (fun h_3 => ?_)
      · skip
        refine lv_iconst (v := nI 0) S.1 S.2.1 dX8_isCell_30 (ofInt_nI 0) ?_
        exact nv_iret S w hr hlocks (nI_bool (by decide)) (by rw [bP_f (fun z9 => h_3 z9.2.2)]) rfl dX8_isCell_31
      · skip
        refine lv_iconst (v := nI 1) S.1 S.2.1 dX8_isCell_26 (ofInt_nI 1) ?_
        refine lv_goto (tgt := 31) S.1 S.2.1 dX8_isCell_27 (by decide) ?_
        exact nv_iret S w hr hlocks (nI_bool (by decide)) (by rw [bP_t ⟨h_1, h_2, h_3⟩]) rfl dX8_isCell_31

set_option maxRecDepth 100000 in
set_option maxHeartbeats 4000000 in
theorem c_X8_heardBy (l : Launch) (D : va_G) (Z : Nat → ClassId) (a : Nat)  : Ci l yX8_heardBy wsX8_heardBy 0 0 D Z [vI a] ([]) (nI (16 * (16 * a) + 15)) ([]) := by
  refine ne_i (cc := cX8_heardBy) (maxL := 1) (by decide +kernel) rfl (Nat.le_of_ble_eq_true rfl) (fun p e s m args below meth c A ls (S : CallFix p m c cX8_heardBy 1 s args wsX8_heardBy RX8) hr hlocks hl w => ?_)
  have hl : lv_has ls 1 [(0, vI a)] := hl
  refine lv_bipush (v := nI 16) S.1 S.2.1 dX8_heardBy_0 (by decide +kernel) ?_
  refine lv_bipush (v := nI 16) S.1 S.2.1 dX8_heardBy_2 (by decide +kernel) ?_
  refine lv_iload_n S.1 S.2.1 dX8_heardBy_4 rfl (lv_at hl 0 rfl) ?_
  refine nv_imul S dX8_heardBy_5 ?_
  refine nv_imul S dX8_heardBy_6 ?_
  refine lv_bipush (v := nI 15) S.1 S.2.1 dX8_heardBy_7 (by decide +kernel) ?_
  refine nv_iadd S dX8_heardBy_9 ?_
  exact nv_iret S w hr hlocks rfl rfl rfl dX8_heardBy_10

theorem hn_X8_of_8 : ∀ w ∈ wsX80, w ∈ wsX8_of := by decide +kernel
theorem hdS_X8_at : yX8_at.cls ≠ "java/lang/invoke/MethodHandle" ∧ yX8_at.cls ≠ "java/lang/invoke/VarHandle" ∧ (parseMethodDescriptor yX8_at.desc).map (fun d => d.parameters.length) = some 2 := by decide +kernel
set_option maxRecDepth 100000 in
set_option maxHeartbeats 4000000 in
theorem c_X8_of (l : Launch) (D : va_G) (Z : Nat → ClassId) (b : Nat → Nat) (X : ST) (sv sd : Nat → Nat) (sm th tl pl ro nu : Nat) (t r : Nat → Nat) (d k : Nat) (hd : d < 4) (hk : k < 16) : Ci l yX8_of wsX8_of 1 21 D Z [.ref (b 0), vI d, vI k] (mdM Z b X sv sd sm th tl pl ro nu t r) (nI (X.2.2 d k)) (mdM Z b X sv sd sm th tl pl ro nu t r) := by
  refine ne_i (cc := cX8_of) (maxL := 3) (by decide +kernel) rfl (Nat.le_of_ble_eq_true rfl) (fun p e s m args below meth c A ls (S : CallFix p m c cX8_of 3 s args wsX8_of RX8) hr hlocks hl w => ?_)
  have hl : lv_has ls 3 [(0, .ref (b 0)), (1, vI d), (2, vI k)] := hl
  refine lv_aload_n S.1 S.2.1 dX8_of_0 rfl (lv_at hl 0 rfl) ?_
  refine nv_get S w (C := RX8) (T := TX8) (N := 11) hn_X8_of_8 0 rfl rfl 0 (by decide) (List.mem_of_getElem? (i := 1) rfl) (v := .ref (b 1)) rfl dX8_of_1 ?_
  refine lv_iload_n S.1 S.2.1 dX8_of_4 rfl (lv_at hl 1 rfl) ?_
  refine lv_iload_n S.1 S.2.1 dX8_of_5 rfl (lv_at hl 2 rfl) ?_
  refine nv_pSi (rest := [.ref (b 1)]) S w hl.1 (c_X8_at l D Z d k ) gX8_of_X8_at rfl hdS_X8_at ⟨Nat.le_of_ble_eq_true rfl, Nat.le_of_ble_eq_true rfl⟩ rfl rfl (Nat.le_of_ble_eq_true rfl) ⟨Nat.zero_le _, Nat.zero_le _⟩ dX8_of_6 (fun H locs w => ?_)
  refine nv_iald S w (i := (21 + 16 * d + k)) (g := (enc X)) 1 rfl (by omega) (by decide) dX8_of_9 ?_
  refine W.eq (g2 := F0 m 10 ls [vI (X.2.2 d k)]) (by rw [enc_v hd hk]) ?_
  exact nv_iret S w hr hlocks rfl rfl rfl dX8_of_10

theorem hdV_X8_of : yX8_of.cls = RX8 ∧ yX8_of.cls ≠ "java/lang/invoke/MethodHandle" ∧ yX8_of.cls ≠ "java/lang/invoke/VarHandle" ∧ (parseMethodDescriptor yX8_of.desc).map (fun d => d.parameters.length) = some 2 := by decide +kernel
set_option maxRecDepth 100000 in
set_option maxHeartbeats 4000000 in
theorem c_X8_latest (l : Launch) (D : va_G) (Z : Nat → ClassId) (b : Nat → Nat) (X : ST) (sv sd : Nat → Nat) (sm th tl pl ro nu : Nat) (t r : Nat → Nat) (d : Nat) (hd : d < 4) (h1 : 1 ≤ X.2.2 d 4) : Ci l yX8_latest wsX8_latest 2 43 D Z [.ref (b 0), vI d] (mdM Z b X sv sd sm th tl pl ro nu t r) (nI (21 + 16 * d + (5 + 2 * (X.2.2 d 4 - 1)))) (mdM Z b X sv sd sm th tl pl ro nu t r) := by
  refine ne_i (cc := cX8_latest) (maxL := 2) (by decide +kernel) rfl (Nat.le_of_ble_eq_true rfl) (fun p e s m args below meth c A ls (S : CallFix p m c cX8_latest 2 s args wsX8_latest RX8) hr hlocks hl w => ?_)
  have hl : lv_has ls 2 [(0, .ref (b 0)), (1, vI d)] := hl
  refine lv_iload_n S.1 S.2.1 dX8_latest_0 rfl (lv_at hl 1 rfl) ?_
  refine lv_iconst (v := nI 5) S.1 S.2.1 dX8_latest_1 (ofInt_nI 5) ?_
  refine lv_iconst (v := nI 2) S.1 S.2.1 dX8_latest_2 (ofInt_nI 2) ?_
  refine lv_aload_n S.1 S.2.1 dX8_latest_3 rfl (lv_at hl 0 rfl) ?_
  refine lv_iload_n S.1 S.2.1 dX8_latest_4 rfl (lv_at hl 1 rfl) ?_
  refine lv_iconst (v := nI 4) S.1 S.2.1 dX8_latest_5 (ofInt_nI 4) ?_
  refine nv_rVi (rest := [vI 2, vI 5, vI d]) S w hl.1 (c_X8_of l D Z b X sv sd sm th tl pl ro nu t r d 4 (by omega) (by omega)) [0, 1, 2, 3, 4, 5] rfl rfl gX8_latest_X8_of rfl hdV_X8_of ⟨Nat.le_of_ble_eq_true rfl, Nat.le_of_ble_eq_true rfl⟩ (q0 := 0) rfl rfl rfl rfl (Nat.le_of_ble_eq_true rfl) ⟨Nat.zero_le _, Nat.zero_le _⟩ dX8_latest_6 (fun H locs w => ?_)
  refine lv_iconst (v := nI 1) S.1 S.2.1 dX8_latest_9 (ofInt_nI 1) ?_
  refine nv_isub S (by omega) dX8_latest_10 ?_
  refine nv_imul S dX8_latest_11 ?_
  refine nv_iadd S dX8_latest_12 ?_
  refine nv_pSi (rest := []) S w hl.1 (c_X8_at l D Z d (5 + (2 * ((X.2.2 d 4) - 1))) ) gX8_latest_X8_at rfl hdS_X8_at ⟨Nat.le_of_ble_eq_true rfl, Nat.le_of_ble_eq_true rfl⟩ rfl rfl (Nat.le_of_ble_eq_true rfl) ⟨Nat.zero_le _, Nat.zero_le _⟩ dX8_latest_13 (fun H locs w => ?_)
  exact nv_iret S w hr hlocks rfl rfl rfl dX8_latest_16

theorem hn_X8_patternAtPlace_8 : ∀ w ∈ wsX80, w ∈ wsX8_patternAtPlace := by decide +kernel
set_option maxRecDepth 100000 in
set_option maxHeartbeats 4000000 in
theorem c_X8_patternAtPlace (l : Launch) (D : va_G) (Z : Nat → ClassId) (b : Nat → Nat) (X : ST) (sv sd : Nat → Nat) (sm th tl pl ro nu : Nat) (t r : Nat → Nat) (h0 : X.2.1 0 < 8) : Ci l yX8_patternAtPlace wsX8_patternAtPlace 0 0 D Z [.ref (b 0)] (mdM Z b X sv sd sm th tl pl ro nu t r) (nI (X.1.2.2.1 (X.2.1 0))) (mdM Z b X sv sd sm th tl pl ro nu t r) := by
  refine ne_i (cc := cX8_patternAtPlace) (maxL := 1) (by decide +kernel) rfl (Nat.le_of_ble_eq_true rfl) (fun p e s m args below meth c A ls (S : CallFix p m c cX8_patternAtPlace 1 s args wsX8_patternAtPlace RX8) hr hlocks hl w => ?_)
  have hl : lv_has ls 1 [(0, .ref (b 0))] := hl
  refine lv_aload_n S.1 S.2.1 dX8_patternAtPlace_0 rfl (lv_at hl 0 rfl) ?_
  refine nv_get S w (C := RX8) (T := TX8) (N := 11) hn_X8_patternAtPlace_8 0 rfl rfl 0 (by decide) (List.mem_of_getElem? (i := 1) rfl) (v := .ref (b 1)) rfl dX8_patternAtPlace_1 ?_
  refine lv_bipush (v := nI 7) S.1 S.2.1 dX8_patternAtPlace_4 (by decide +kernel) ?_
  refine lv_aload_n S.1 S.2.1 dX8_patternAtPlace_6 rfl (lv_at hl 0 rfl) ?_
  refine nv_get S w (C := RX8) (T := TX8) (N := 11) hn_X8_patternAtPlace_8 0 rfl rfl 0 (by decide) (List.mem_of_getElem? (i := 1) rfl) (v := .ref (b 1)) rfl dX8_patternAtPlace_7 ?_
  refine lv_iconst (v := nI 0) S.1 S.2.1 dX8_patternAtPlace_10 (ofInt_nI 0) ?_
  refine nv_iald S w (i := 0) (g := (enc X)) 1 rfl (by omega) (by decide) dX8_patternAtPlace_11 ?_
  refine W.eq (g2 := F0 m 12 ls [vI (X.2.1 0), vI 7, .ref (b 1)]) (by rw [enc_g (by decide)]) ?_
  refine nv_iadd S dX8_patternAtPlace_12 ?_
  refine nv_iald S w (i := (7 + (X.2.1 0))) (g := (enc X)) 1 rfl (by omega) (by decide) dX8_patternAtPlace_13 ?_
  refine W.eq (g2 := F0 m 14 ls [vI (X.1.2.2.1 (X.2.1 0))]) (by rw [enc_o h0]) ?_
  exact nv_iret S w hr hlocks rfl rfl rfl dX8_patternAtPlace_14
