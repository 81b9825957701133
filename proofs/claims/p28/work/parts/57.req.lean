set_option maxRecDepth 100000 in
set_option maxHeartbeats 4000000 in
theorem c_X7_requireCell (l : Launch) (hst : l.stackTraces = false) (D : va_G) (Z : Nat → ClassId) (a b d : Int32)  : Xv l yX7_requireCell wsX7_requireCell 6 82 1 6 D Z [.int a, .int b, .int d] ([]) (xI (celI a b d) eIX none)  ([]) := by
  refine nxe_v (cc := cX7_requireCell) (maxL := 3) (by decide +kernel) rfl (Nat.le_of_ble_eq_true rfl) (fun p e s m args below meth c A ls (S : CallFix p m c cX7_requireCell 3 s args wsX7_requireCell RX7) hr hlocks htab X9 hl w => ?_)
  have hl : lv_has ls 3 [(0, .int a), (1, .int b), (2, .int d)] := hl
  refine lv_iload_n S.1 S.2.1 dX7_requireCell_0 rfl (lv_at hl 0 rfl) ?_
  refine lv_iload_n S.1 S.2.1 dX7_requireCell_1 rfl (lv_at hl 1 rfl) ?_
  refine lv_iload_n S.1 S.2.1 dX7_requireCell_2 rfl (lv_at hl 2 rfl) ?_
  refine nv_pSi (rest := []) S w hl.1 (c_X7_isCell l D Z a b d ) gX7_requireCell_X7_isCell rfl hdS_X7_isCell ⟨Nat.le_of_ble_eq_true rfl, Nat.le_of_ble_eq_true rfl⟩ rfl rfl (Nat.le_of_ble_eq_true rfl) ⟨Nat.le_of_ble_eq_true rfl, Nat.le_of_ble_eq_true rfl⟩ dX7_requireCell_3 (fun H locs w => ?_)
  refine nv_if_neB S (tgt := 19) dX7_requireCell_6 (by decide) (fun h_1 => ?_) (fun h_1 => ?_)
  · skip
    exact nx_vret S w hr hlocks (xI_t ⟨⟨h_1.1, h_1.2.1⟩, ⟨h_1.2.2.1, h_1.2.2.2.1⟩, ⟨h_1.2.2.2.2.1, h_1.2.2.2.2.2⟩⟩) rfl (Nat.le_of_ble_eq_true rfl) (Nat.le_of_ble_eq_true rfl) dX7_requireCell_19
  · skip
    exact nx_thr (cls := "java/lang/IndexOutOfBoundsException") (ik := 250) (is := 252) (ic := 254) (kS := 3) (text := "no such cell") S w X9 hst hl.1 htab hlocks (xI_f ⟨fun z9 => h_1 ⟨z9.1.1, z9.1.2, z9.2.1.1, z9.2.1.2, z9.2.2.1, z9.2.2.2⟩, rfl⟩) rfl (by decide +kernel) (List.mem_of_getElem? (i := 1) rfl) (List.mem_of_getElem? (i := 2) rfl) rfl (by decide +kernel) (by decide +kernel) (by decide +kernel) dX7_requireCell_9 dX7_requireCell_12 dX7_requireCell_13 dX7_requireCell_15 dX7_requireCell_18 (Nat.le_of_ble_eq_true rfl) (Nat.le_of_ble_eq_true rfl) (Nat.le_of_ble_eq_true rfl) (Nat.le_of_ble_eq_true rfl) (Nat.le_of_ble_eq_true rfl) (Nat.le_of_ble_eq_true rfl)

set_option maxRecDepth 100000 in
set_option maxHeartbeats 4000000 in
theorem c_X7_requireIndex (l : Launch) (hst : l.stackTraces = false) (D : va_G) (Z : Nat → ClassId) (a : Int32) (n : Nat)  : Xv l yX7_requireIndex wsX7_requireIndex 6 82 1 6 D Z [.int a, vI n] ([]) (xI (ixI n a) eIX none)  ([]) := by
  refine nxe_v (cc := cX7_requireIndex) (maxL := 2) (by decide +kernel) rfl (Nat.le_of_ble_eq_true rfl) (fun p e s m args below meth c A ls (S : CallFix p m c cX7_requireIndex 2 s args wsX7_requireIndex RX7) hr hlocks htab X9 hl w => ?_)
  have hl : lv_has ls 2 [(0, .int a), (1, vI n)] := hl
  refine lv_iload_n S.1 S.2.1 dX7_requireIndex_0 rfl (lv_at hl 0 rfl) ?_
  refine lv_iload_n S.1 S.2.1 dX7_requireIndex_1 rfl (lv_at hl 1 rfl) ?_
  refine nv_pSi (rest := []) S w hl.1 (c_X7_isIndex l D Z a (nI n) ) gX7_requireIndex_X7_isIndex rfl hdS_X7_isIndex ⟨Nat.le_of_ble_eq_true rfl, Nat.le_of_ble_eq_true rfl⟩ rfl rfl (Nat.le_of_ble_eq_true rfl) ⟨Nat.le_of_ble_eq_true rfl, Nat.le_of_ble_eq_true rfl⟩ dX7_requireIndex_2 (fun H locs w => ?_)
  refine nv_if_neB S (tgt := 19) dX7_requireIndex_5 (by decide) (fun h_1 => ?_) (fun h_1 => ?_)
  · skip
    exact nx_vret S w hr hlocks (xI_t h_1) rfl (Nat.le_of_ble_eq_true rfl) (Nat.le_of_ble_eq_true rfl) dX7_requireIndex_19
  · skip
    exact nx_thrW (cls := "java/lang/IndexOutOfBoundsException") (ik := 250) (is := 259) (ic := 254) (kS := 4) (text := "no such thing") S w X9 hst hl.1 htab hlocks (xI_f ⟨h_1, rfl⟩) rfl (by decide +kernel) (List.mem_of_getElem? (i := 1) rfl) (List.mem_of_getElem? (i := 2) rfl) rfl (by decide +kernel) (by decide +kernel) (by decide +kernel) dX7_requireIndex_8 dX7_requireIndex_11 dX7_requireIndex_12 dX7_requireIndex_15 dX7_requireIndex_18 (Nat.le_of_ble_eq_true rfl) (Nat.le_of_ble_eq_true rfl) (Nat.le_of_ble_eq_true rfl) (Nat.le_of_ble_eq_true rfl) (Nat.le_of_ble_eq_true rfl) (Nat.le_of_ble_eq_true rfl)

set_option maxRecDepth 100000 in
set_option maxHeartbeats 4000000 in
theorem c_X7_requireRange (l : Launch) (hst : l.stackTraces = false) (D : va_G) (Z : Nat → ClassId) (a : Int32) (lo hi : Nat)  : Xv l yX7_requireRange wsX7_requireRange 6 82 1 6 D Z [.int a, vI lo, vI hi] ([]) (xI (rgI lo hi a) eIA none)  ([]) := by
  refine nxe_v (cc := cX7_requireRange) (maxL := 3) (by decide +kernel) rfl (Nat.le_of_ble_eq_true rfl) (fun p e s m args below meth c A ls (S : CallFix p m c cX7_requireRange 3 s args wsX7_requireRange RX7) hr hlocks htab X9 hl w => ?_)
  have hl : lv_has ls 3 [(0, .int a), (1, vI lo), (2, vI hi)] := hl
  refine lv_iload_n S.1 S.2.1 dX7_requireRange_0 rfl (lv_at hl 0 rfl) ?_
  refine lv_iload_n S.1 S.2.1 dX7_requireRange_1 rfl (lv_at hl 1 rfl) ?_
  refine lv_icmp_lt S.1 S.2.1 (tgt := 10) dX7_requireRange_2 (by decide) (fun h_1 => ?_) (fun h_1 => ?_)
  · skip
    exact nx_thrW (cls := "java/lang/IllegalArgumentException") (ik := 261) (is := 263) (ic := 265) (kS := 5) (text := "out of range") S w X9 hst hl.1 htab hlocks (xI_f ⟨fun z9 => z9.1 h_1, rfl⟩) rfl (by decide +kernel) (List.mem_of_getElem? (i := 1) rfl) (List.mem_of_getElem? (i := 2) rfl) rfl (by decide +kernel) (by decide +kernel) (by decide +kernel) dX7_requireRange_10 dX7_requireRange_13 dX7_requireRange_14 dX7_requireRange_17 dX7_requireRange_20 (Nat.le_of_ble_eq_true rfl) (Nat.le_of_ble_eq_true rfl) (Nat.le_of_ble_eq_true rfl) (Nat.le_of_ble_eq_true rfl) (Nat.le_of_ble_eq_true rfl) (Nat.le_of_ble_eq_true rfl)
  · skip
    refine lv_iload_n S.1 S.2.1 dX7_requireRange_5 rfl (lv_at hl 0 rfl) ?_
    refine lv_iload_n S.1 S.2.1 dX7_requireRange_6 rfl (lv_at hl 2 rfl) ?_
    refine lv_icmp_le S.1 S.2.1 (tgt := 21) dX7_requireRange_7 (by decide) (fun h_2 => ?_) (fun h_2 => ?_)
    · skip
      exact nx_vret S w hr hlocks (xI_t ⟨h_1, Int32.not_lt.mpr h_2⟩) rfl (Nat.le_of_ble_eq_true rfl) (Nat.le_of_ble_eq_true rfl) dX7_requireRange_21
    · skip
      exact nx_thrW (cls := "java/lang/IllegalArgumentException") (ik := 261) (is := 263) (ic := 265) (kS := 5) (text := "out of range") S w X9 hst hl.1 htab hlocks (xI_f ⟨fun z9 => absurd z9.2 (fun q9 => q9 (Int32.not_le.mp h_2)), rfl⟩) rfl (by decide +kernel) (List.mem_of_getElem? (i := 1) rfl) (List.mem_of_getElem? (i := 2) rfl) rfl (by decide +kernel) (by decide +kernel) (by decide +kernel) dX7_requireRange_10 dX7_requireRange_13 dX7_requireRange_14 dX7_requireRange_17 dX7_requireRange_20 (Nat.le_of_ble_eq_true rfl) (Nat.le_of_ble_eq_true rfl) (Nat.le_of_ble_eq_true rfl) (Nat.le_of_ble_eq_true rfl) (Nat.le_of_ble_eq_true rfl) (Nat.le_of_ble_eq_true rfl)
