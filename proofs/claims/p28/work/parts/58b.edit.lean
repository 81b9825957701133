theorem hn_X7_setOrder_7 : ∀ w ∈ wsX70, w ∈ wsX7_setOrder := by decide +kernel
theorem hn_X7_setOrder_5 : ∀ w ∈ wsX50, w ∈ wsX7_setOrder := by decide +kernel
theorem hn_X7_setOrder_4 : ∀ w ∈ wsX40, w ∈ wsX7_setOrder := by decide +kernel
theorem hdV_X4_putPlace : yX4_putPlace.cls = RX4 ∧ yX4_putPlace.cls ≠ "java/lang/invoke/MethodHandle" ∧ yX4_putPlace.cls ≠ "java/lang/invoke/VarHandle" ∧ (parseMethodDescriptor yX4_putPlace.desc).map (fun d => d.parameters.length) = some 2 := by decide +kernel
set_option maxRecDepth 100000 in
set_option maxHeartbeats 4000000 in
theorem c_X7_setOrder (l : Launch) (hst : l.stackTraces = false) (D : va_G) (Z : Nat → ClassId) (z : Nat → Nat → Nat) (X : ST) (o n : Nat) (Y : Nat → ST) (tl ti ta tr : Nat) (t : Nat → Nat) (k : Nat → Nat → Nat) (P9 : PG) (xa xn : Int32) (ho : o < 4) (hn : n ≤ 4) (hX : XB X) : Xi l yX7_setOrder wsX7_setOrder 7 111 2 12 D Z [.ref (z 0 0), .int xa, .int xn] (tpO Z z ++ plB Z (z 8) P9 ++ stB Z (z 1) X ++ ptB Z (z 7 0) (z 7 1) (z 7 2) tl ti ta tr t k ++ hiB Z (z 2 0) (z 2 1) (fun r => z (3 + r)) o n Y) (xI (ixI (min (X.1.2.2.2 + 1) 8) xa) eIX (xI (rgI 0 5 xn) eIA none)) (nI (max X.1.2.2.2 (toN xa + 1))) (tpO Z z ++ plB Z (z 8) P9 ++ stB Z (z 1) (stOrd X (toN xa) (toN xn)) ++ ptB Z (z 7 0) (z 7 1) (z 7 2) tl ti ta tr t k ++ hiB Z (z 2 0) (z 2 1) (fun r => z (3 + r)) (svO o n) (svN n + 1) (svX o n Y X)) := by
  refine nxe_i (cc := cX7_setOrder) (maxL := 3) (by decide +kernel) rfl (Nat.le_of_ble_eq_true rfl) (fun p e s m args below meth c A ls (S : CallFix p m c cX7_setOrder 3 s args wsX7_setOrder RX7) hr hlocks htab X9 hl w => ?_)
  have hp8 := hX.1.2.2.2.1
  have hl : lv_has ls 3 [(0, .ref (z 0 0)), (1, .int xa), (2, .int xn)] := hl
  refine lv_iload_n S.1 S.2.1 dX7_setOrder_0 rfl (lv_at hl 1 rfl) ?_
  refine lv_aload_n S.1 S.2.1 dX7_setOrder_1 rfl (lv_at hl 0 rfl) ?_
  refine nv_get S w (C := RX7) (T := TX7) (N := 4) hn_X7_setOrder_7 0 rfl rfl 0 (by decide) (List.mem_of_getElem? (i := 1) rfl) (v := .ref (z 1 0)) rfl dX7_setOrder_2 ?_
  refine nv_get S w (C := RX5) (T := TX5) (N := 2) hn_X7_setOrder_5 15 rfl rfl 0 (by decide) (List.mem_of_getElem? (i := 2) rfl) (v := .ref ((z 1) 1)) rfl dX7_setOrder_5 ?_
  refine nv_get S w (C := RX4) (T := TX4) (N := 4) hn_X7_setOrder_4 30 rfl rfl 3 (by decide) (List.mem_of_getElem? (i := 3) rfl) (v := vI X.1.2.2.2) rfl dX7_setOrder_8 ?_
  refine lv_iconst (v := nI 1) S.1 S.2.1 dX7_setOrder_11 (ofInt_nI 1) ?_
  refine nv_iadd S dX7_setOrder_12 ?_
  refine lv_bipush (v := nI 8) S.1 S.2.1 dX7_setOrder_13 (by decide +kernel) ?_
  refine nv_imin (rest := [.int xa]) S hl.1 (by decide +kernel) (by decide +kernel) (by decide +kernel) (by decide +kernel) (Nat.le_of_ble_eq_true rfl) (Nat.le_of_ble_eq_true rfl) ⟨Nat.le_of_ble_eq_true rfl, Nat.le_of_ble_eq_true rfl⟩ (by omega) (by omega) dX7_setOrder_15 ?_
  refine nx_pSv (rest := []) S w X9 hl.1 (c_X7_requireIndex l hst D Z xa (min (X.1.2.2.2 + 1) 8) ) gX7_setOrder_X7_requireIndex rfl hdS_X7_requireIndex ⟨Nat.le_of_ble_eq_true rfl, Nat.le_of_ble_eq_true rfl⟩ rfl rfl (Nat.le_of_ble_eq_true rfl) ⟨Nat.le_of_ble_eq_true rfl, Nat.le_of_ble_eq_true rfl⟩ dX7_setOrder_18 (fun E9 ce q9 H locs hE w hc9 hv9 hf9 => ?_) (fun hN H locs w => ?_)
  · exact nx_out w htab hlocks hc9 hv9 hf9 (xI_f (xI_no hE)) (Nat.le_of_ble_eq_true rfl) (Nat.le_of_ble_eq_true rfl)
  · skip
    have h_1 := xI_yes hN
    refine lv_iload_n S.1 S.2.1 dX7_setOrder_21 rfl (lv_at hl 2 rfl) ?_
    refine lv_iconst (v := nI 0) S.1 S.2.1 dX7_setOrder_22 (ofInt_nI 0) ?_
    refine lv_iconst (v := nI 5) S.1 S.2.1 dX7_setOrder_23 (ofInt_nI 5) ?_
    refine nx_pSv (rest := []) S w X9 hl.1 (c_X7_requireRange l hst D Z xn 0 5 ) gX7_setOrder_X7_requireRange rfl hdS_X7_requireRange ⟨Nat.le_of_ble_eq_true rfl, Nat.le_of_ble_eq_true rfl⟩ rfl rfl (Nat.le_of_ble_eq_true rfl) ⟨Nat.le_of_ble_eq_true rfl, Nat.le_of_ble_eq_true rfl⟩ dX7_setOrder_24 (fun E9 ce q9 H locs hE w hc9 hv9 hf9 => ?_) (fun hN H locs w => ?_)
    · exact nx_out w htab hlocks hc9 hv9 hf9 ((xI_t h_1).trans (xI_f (xI_no hE))) (Nat.le_of_ble_eq_true rfl) (Nat.le_of_ble_eq_true rfl)
    · skip
      have h_2 := xI_yes hN
      obtain ⟨na, rfl, hna⟩ := ix_nat (by omega) h_1
      have eqna : toN (nI na) = na := toN_nI (by omega)
      obtain ⟨nn, rfl, hnn⟩ := rg_nat (by decide) (by decide) h_2
      have eqnn : toN (nI nn) = nn := toN_nI (by omega)
      refine lv_aload_n S.1 S.2.1 dX7_setOrder_27 rfl (lv_at hl 0 rfl) ?_
      refine nv_get S w (C := RX7) (T := TX7) (N := 4) hn_X7_setOrder_7 0 rfl rfl 1 (by decide) (List.mem_of_getElem? (i := 8) rfl) (v := .ref (z 2 0)) rfl dX7_setOrder_28 ?_
      refine lv_aload_n S.1 S.2.1 dX7_setOrder_31 rfl (lv_at hl 0 rfl) ?_
      refine nv_get S w (C := RX7) (T := TX7) (N := 4) hn_X7_setOrder_7 0 rfl rfl 0 (by decide) (List.mem_of_getElem? (i := 1) rfl) (v := .ref (z 1 0)) rfl dX7_setOrder_32 ?_
      have w := w.perm (ws' := tpO Z z ++ plB Z (z 8) P9 ++ hiB Z (z 2 0) (z 2 1) (fun r => z (3 + r)) o n Y ++ stB Z (z 1) X ++ ptB Z (z 7 0) (z 7 1) (z 7 2) tl ti ta tr t k) (List.Perm.trans sw2 (List.Perm.append_right _ sw2))
      refine nv_fVv (rest := []) (tpO Z z ++ plB Z (z 8) P9) (ptB Z (z 7 0) (z 7 1) (z 7 2) tl ti ta tr t k) (ws' := tpO Z z ++ plB Z (z 8) P9 ++ hiB Z (z 2 0) (z 2 1) (fun r => z (3 + r)) (svO o n) (svN n + 1) (svX o n Y X) ++ stB Z (z 1) X ++ ptB Z (z 7 0) (z 7 1) (z 7 2) tl ti ta tr t k) S w hl.1 (c_X1_save l D Z (z 2 0) (z 2 1) (fun r => z (3 + r)) o n Y (z 1) X (by omega) (by omega)) (by simp only [List.append_assoc, List.nil_append, List.append_nil]) rfl (by simp only [List.append_assoc, List.nil_append, List.append_nil]) gX7_setOrder_X1_save rfl hdV_X1_save ⟨Nat.le_of_ble_eq_true rfl, Nat.le_of_ble_eq_true rfl⟩ (q0 := 0) rfl rfl rfl rfl (Nat.le_of_ble_eq_true rfl) ⟨Nat.le_of_ble_eq_true rfl, Nat.le_of_ble_eq_true rfl⟩ dX7_setOrder_35 (fun H locs w => ?_)
      have w := w.perm (ws' := tpO Z z ++ plB Z (z 8) P9 ++ stB Z (z 1) X ++ ptB Z (z 7 0) (z 7 1) (z 7 2) tl ti ta tr t k ++ hiB Z (z 2 0) (z 2 1) (fun r => z (3 + r)) (svO o n) (svN n + 1) (svX o n Y X)) (List.Perm.trans (List.Perm.append_right _ sw2) sw2)
      have w := w.as (ws' := tpO Z z ++ plB Z (z 8) P9 ++ stO Z ((z 1) 0) ((z 1) 1) ((z 1) 5) ++ plB Z (fun k => (z 1) (5 + k)) X.2 ++ songB Z ((z 1) 1) ((z 1) 2) ((z 1) 3) ((z 1) 4) X.1 ++ ptB Z (z 7 0) (z 7 1) (z 7 2) tl ti ta tr t k ++ hiB Z (z 2 0) (z 2 1) (fun r => z (3 + r)) (svO o n) (svN n + 1) (svX o n Y X)) (by simp only [stB, List.append_assoc])
      refine lv_aload_n S.1 S.2.1 dX7_setOrder_38 rfl (lv_at hl 0 rfl) ?_
      refine nv_get S w (C := RX7) (T := TX7) (N := 4) hn_X7_setOrder_7 0 rfl rfl 0 (by decide) (List.mem_of_getElem? (i := 1) rfl) (v := .ref (z 1 0)) rfl dX7_setOrder_39 ?_
      refine nv_get S w (C := RX5) (T := TX5) (N := 2) hn_X7_setOrder_5 15 rfl rfl 0 (by decide) (List.mem_of_getElem? (i := 2) rfl) (v := .ref ((z 1) 1)) rfl dX7_setOrder_42 ?_
      refine lv_iload_n S.1 S.2.1 dX7_setOrder_45 rfl (lv_at hl 1 rfl) ?_
      refine lv_iload_n S.1 S.2.1 dX7_setOrder_46 rfl (lv_at hl 2 rfl) ?_
      refine nv_fVv (rest := []) (tpO Z z ++ plB Z (z 8) P9 ++ stO Z ((z 1) 0) ((z 1) 1) ((z 1) 5) ++ plB Z (fun k => (z 1) (5 + k)) X.2) (ptB Z (z 7 0) (z 7 1) (z 7 2) tl ti ta tr t k ++ hiB Z (z 2 0) (z 2 1) (fun r => z (3 + r)) (svO o n) (svN n + 1) (svX o n Y X)) (ws' := tpO Z z ++ plB Z (z 8) P9 ++ stO Z ((z 1) 0) ((z 1) 1) ((z 1) 5) ++ plB Z (fun k => (z 1) (5 + k)) X.2 ++ songB Z ((z 1) 1) ((z 1) 2) ((z 1) 3) ((z 1) 4) (X.1.1, X.1.2.1, un X.1.2.2.1 na nn, max X.1.2.2.2 (na + 1)) ++ ptB Z (z 7 0) (z 7 1) (z 7 2) tl ti ta tr t k ++ hiB Z (z 2 0) (z 2 1) (fun r => z (3 + r)) (svO o n) (svN n + 1) (svX o n Y X)) S w hl.1 (c_X4_putPlace l D Z ((z 1) 1) ((z 1) 2) ((z 1) 3) ((z 1) 4) X.1 na nn (by omega) (by omega)) (by simp only [List.append_assoc, List.nil_append, List.append_nil]) rfl (by simp only [List.append_assoc, List.nil_append, List.append_nil]) gX7_setOrder_X4_putPlace rfl hdV_X4_putPlace ⟨Nat.le_of_ble_eq_true rfl, Nat.le_of_ble_eq_true rfl⟩ (q0 := 0) rfl rfl rfl rfl (Nat.le_of_ble_eq_true rfl) ⟨Nat.le_of_ble_eq_true rfl, Nat.le_of_ble_eq_true rfl⟩ dX7_setOrder_47 (fun H locs w => ?_)
      refine lv_aload_n S.1 S.2.1 dX7_setOrder_50 rfl (lv_at hl 0 rfl) ?_
      refine nv_get S w (C := RX7) (T := TX7) (N := 4) hn_X7_setOrder_7 0 rfl rfl 0 (by decide) (List.mem_of_getElem? (i := 1) rfl) (v := .ref (z 1 0)) rfl dX7_setOrder_51 ?_
      refine nv_get S w (C := RX5) (T := TX5) (N := 2) hn_X7_setOrder_5 15 rfl rfl 0 (by decide) (List.mem_of_getElem? (i := 2) rfl) (v := .ref ((z 1) 1)) rfl dX7_setOrder_54 ?_
      refine nv_get S w (C := RX4) (T := TX4) (N := 4) hn_X7_setOrder_4 30 rfl rfl 3 (by decide) (List.mem_of_getElem? (i := 3) rfl) (v := vI ((X.1.1, X.1.2.1, un X.1.2.2.1 na nn, max X.1.2.2.2 (na + 1)).2.2.2)) rfl dX7_setOrder_57 ?_
      exact nx_iret S w hr hlocks rfl ((xI_t h_1).trans ((xI_t h_2).trans (rfl))) (by simp only [eqna, eqnn]) (by simp only [eqna, eqnn, stB, List.append_assoc, stOrd]) (Nat.le_of_ble_eq_true rfl) (Nat.le_of_ble_eq_true rfl) dX7_setOrder_60

theorem hn_X7_shorten_7 : ∀ w ∈ wsX70, w ∈ wsX7_shorten := by decide +kernel
theorem hn_X7_shorten_5 : ∀ w ∈ wsX50, w ∈ wsX7_shorten := by decide +kernel
theorem hn_X7_shorten_4 : ∀ w ∈ wsX40, w ∈ wsX7_shorten := by decide +kernel
theorem hn_X7_shorten_3 : ∀ w ∈ wsX30, w ∈ wsX7_shorten := by decide +kernel
set_option maxRecDepth 100000 in
set_option maxHeartbeats 4000000 in
theorem c_X7_shorten (l : Launch) (hst : l.stackTraces = false) (D : va_G) (Z : Nat → ClassId) (z : Nat → Nat → Nat) (X : ST) (o n : Nat) (Y : Nat → ST) (tl ti ta tr : Nat) (t : Nat → Nat) (k : Nat → Nat → Nat) (P9 : PG) (ho : o < 4) (hn : n ≤ 4) (hX : XB X) : Xi l yX7_shorten wsX7_shorten 6 111 1 6 D Z [.ref (z 0 0)] (tpO Z z ++ plB Z (z 8) P9 ++ stB Z (z 1) X ++ ptB Z (z 7 0) (z 7 1) (z 7 2) tl ti ta tr t k ++ hiB Z (z 2 0) (z 2 1) (fun r => z (3 + r)) o n Y) (xI (¬ (X.1.2.2.2 - 1 = 0) ∧ X.2.1 0 ≠ X.1.2.2.2 - 1) eIS none) (nI (X.1.2.2.2 - 1)) (tpO Z z ++ plB Z (z 8) P9 ++ stB Z (z 1) (stSho X) ++ ptB Z (z 7 0) (z 7 1) (z 7 2) tl ti ta tr t k ++ hiB Z (z 2 0) (z 2 1) (fun r => z (3 + r)) (svO o n) (svN n + 1) (svX o n Y X)) := by
  refine nxe_i (cc := cX7_shorten) (maxL := 2) (by decide +kernel) rfl (Nat.le_of_ble_eq_true rfl) (fun p e s m args below meth c A ls (S : CallFix p m c cX7_shorten 2 s args wsX7_shorten RX7) hr hlocks htab X9 hl w => ?_)
  have hp8 := hX.1.2.2.2.1
  have hp1 := hX.1.2.2.1
  have hpl := hX.2.1.1
  have hl : lv_has ls 2 [(0, .ref (z 0 0))] := hl
  refine lv_aload_n S.1 S.2.1 dX7_shorten_0 rfl (lv_at hl 0 rfl) ?_
  refine nv_get S w (C := RX7) (T := TX7) (N := 4) hn_X7_shorten_7 0 rfl rfl 0 (by decide) (List.mem_of_getElem? (i := 3) rfl) (v := .ref (z 1 0)) rfl dX7_shorten_1 ?_
  refine nv_get S w (C := RX5) (T := TX5) (N := 2) hn_X7_shorten_5 15 rfl rfl 0 (by decide) (List.mem_of_getElem? (i := 4) rfl) (v := .ref ((z 1) 1)) rfl dX7_shorten_4 ?_
  refine nv_get S w (C := RX4) (T := TX4) (N := 4) hn_X7_shorten_4 30 rfl rfl 3 (by decide) (List.mem_of_getElem? (i := 5) rfl) (v := vI X.1.2.2.2) rfl dX7_shorten_7 ?_
  refine lv_iconst (v := nI 1) S.1 S.2.1 dX7_shorten_10 (ofInt_nI 1) ?_
  refine nv_isub S (by omega) dX7_shorten_11 ?_
  refine lv_istore_n (lv' := [(1, vI (X.1.2.2.2 - 1)), (0, .ref (z 0 0))]) S.1 S.2.1 dX7_shorten_12 rfl hl (by decide) rfl (fun ls hl => ?_)
  refine lv_iload_n S.1 S.2.1 dX7_shorten_13 rfl (lv_at hl 0 rfl) ?_
  refine nv_if_eq S (by omega) (tgt := 31) dX7_shorten_14 (by decide) (fun h_1 => ?_) (fun h_1 => ?_)
  · skip
    exact nx_thr (cls := "java/lang/IllegalStateException") (ik := 110) (is := 112) (ic := 114) (kS := 0) (text := "the last place is needed") S w X9 hst hl.1 htab hlocks (xI_f ⟨fun z9 => z9.1 h_1, rfl⟩) rfl (by decide +kernel) (List.mem_of_getElem? (i := 1) rfl) (List.mem_of_getElem? (i := 2) rfl) rfl (by decide +kernel) (by decide +kernel) (by decide +kernel) dX7_shorten_31 dX7_shorten_34 dX7_shorten_35 dX7_shorten_37 dX7_shorten_40 (Nat.le_of_ble_eq_true rfl) (Nat.le_of_ble_eq_true rfl) (Nat.le_of_ble_eq_true rfl) (Nat.le_of_ble_eq_true rfl) (Nat.le_of_ble_eq_true rfl) (Nat.le_of_ble_eq_true rfl)
  · skip
    refine lv_aload_n S.1 S.2.1 dX7_shorten_17 rfl (lv_at hl 1 rfl) ?_
    refine nv_get S w (C := RX7) (T := TX7) (N := 4) hn_X7_shorten_7 0 rfl rfl 0 (by decide) (List.mem_of_getElem? (i := 3) rfl) (v := .ref (z 1 0)) rfl dX7_shorten_18 ?_
    refine nv_get S w (C := RX5) (T := TX5) (N := 2) hn_X7_shorten_5 15 rfl rfl 1 (by decide) (List.mem_of_getElem? (i := 6) rfl) (v := .ref ((z 1) 5)) rfl dX7_shorten_21 ?_
    refine nv_get S w (C := RX3) (T := TX3) (N := 7) hn_X7_shorten_3 16 rfl rfl 0 (by decide) (List.mem_of_getElem? (i := 7) rfl) (v := vI (X.2.1 0)) rfl dX7_shorten_24 ?_
    refine lv_iload_n S.1 S.2.1 dX7_shorten_27 rfl (lv_at hl 0 rfl) ?_
    refine nv_icmp_ne S (by omega) (by omega) (tgt := 41) dX7_shorten_28 (by decide) (fun h_2 => ?_) (fun h_2 => ?_)
    · skip
      refine lv_aload_n S.1 S.2.1 dX7_shorten_41 rfl (lv_at hl 1 rfl) ?_
      refine nv_get S w (C := RX7) (T := TX7) (N := 4) hn_X7_shorten_7 0 rfl rfl 1 (by decide) (List.mem_of_getElem? (i := 8) rfl) (v := .ref (z 2 0)) rfl dX7_shorten_42 ?_
      refine lv_aload_n S.1 S.2.1 dX7_shorten_45 rfl (lv_at hl 1 rfl) ?_
      refine nv_get S w (C := RX7) (T := TX7) (N := 4) hn_X7_shorten_7 0 rfl rfl 0 (by decide) (List.mem_of_getElem? (i := 3) rfl) (v := .ref (z 1 0)) rfl dX7_shorten_46 ?_
      have w := w.perm (ws' := tpO Z z ++ plB Z (z 8) P9 ++ hiB Z (z 2 0) (z 2 1) (fun r => z (3 + r)) o n Y ++ stB Z (z 1) X ++ ptB Z (z 7 0) (z 7 1) (z 7 2) tl ti ta tr t k) (List.Perm.trans sw2 (List.Perm.append_right _ sw2))
      refine nv_fVv (rest := []) (tpO Z z ++ plB Z (z 8) P9) (ptB Z (z 7 0) (z 7 1) (z 7 2) tl ti ta tr t k) (ws' := tpO Z z ++ plB Z (z 8) P9 ++ hiB Z (z 2 0) (z 2 1) (fun r => z (3 + r)) (svO o n) (svN n + 1) (svX o n Y X) ++ stB Z (z 1) X ++ ptB Z (z 7 0) (z 7 1) (z 7 2) tl ti ta tr t k) S w hl.1 (c_X1_save l D Z (z 2 0) (z 2 1) (fun r => z (3 + r)) o n Y (z 1) X (by omega) (by omega)) (by simp only [List.append_assoc, List.nil_append, List.append_nil]) rfl (by simp only [List.append_assoc, List.nil_append, List.append_nil]) gX7_shorten_X1_save rfl hdV_X1_save ⟨Nat.le_of_ble_eq_true rfl, Nat.le_of_ble_eq_true rfl⟩ (q0 := 0) rfl rfl rfl rfl (Nat.le_of_ble_eq_true rfl) ⟨Nat.le_of_ble_eq_true rfl, Nat.le_of_ble_eq_true rfl⟩ dX7_shorten_49 (fun H locs w => ?_)
      have w := w.perm (ws' := tpO Z z ++ plB Z (z 8) P9 ++ stB Z (z 1) X ++ ptB Z (z 7 0) (z 7 1) (z 7 2) tl ti ta tr t k ++ hiB Z (z 2 0) (z 2 1) (fun r => z (3 + r)) (svO o n) (svN n + 1) (svX o n Y X)) (List.Perm.trans (List.Perm.append_right _ sw2) sw2)
      have w := w.as (ws' := tpO Z z ++ plB Z (z 8) P9 ++ stO Z ((z 1) 0) ((z 1) 1) ((z 1) 5) ++ plB Z (fun k => (z 1) (5 + k)) X.2 ++ songB Z ((z 1) 1) ((z 1) 2) ((z 1) 3) ((z 1) 4) X.1 ++ ptB Z (z 7 0) (z 7 1) (z 7 2) tl ti ta tr t k ++ hiB Z (z 2 0) (z 2 1) (fun r => z (3 + r)) (svO o n) (svN n + 1) (svX o n Y X)) (by simp only [stB, List.append_assoc])
      refine lv_aload_n S.1 S.2.1 dX7_shorten_52 rfl (lv_at hl 1 rfl) ?_
      refine nv_get S w (C := RX7) (T := TX7) (N := 4) hn_X7_shorten_7 0 rfl rfl 0 (by decide) (List.mem_of_getElem? (i := 3) rfl) (v := .ref (z 1 0)) rfl dX7_shorten_53 ?_
      refine nv_get S w (C := RX5) (T := TX5) (N := 2) hn_X7_shorten_5 15 rfl rfl 0 (by decide) (List.mem_of_getElem? (i := 4) rfl) (v := .ref ((z 1) 1)) rfl dX7_shorten_56 ?_
      refine lv_iload_n S.1 S.2.1 dX7_shorten_59 rfl (lv_at hl 0 rfl) ?_
      have w := w.as (ws' := tpO Z z ++ plB Z (z 8) P9 ++ stO Z ((z 1) 0) ((z 1) 1) ((z 1) 5) ++ plB Z (fun k => (z 1) (5 + k)) X.2 ++ [((z 1) 1, .inr (3, [.ref ((z 1) 2), .ref ((z 1) 3), .ref ((z 1) 4), vI X.1.2.2.2])), ((z 1) 2, .inl (Z 0, 192, .inl (ar 192 (fun i => pk (X.1.1 i))))), ((z 1) 3, .inl (Z 0, 6, .inl (ar 6 X.1.2.1))), ((z 1) 4, .inl (Z 0, 8, .inl (ar 8 X.1.2.2.1)))] ++ ptB Z (z 7 0) (z 7 1) (z 7 2) tl ti ta tr t k ++ hiB Z (z 2 0) (z 2 1) (fun r => z (3 + r)) (svO o n) (svN n + 1) (svX o n Y X)) rfl
      refine nv_putF (tpO Z z ++ plB Z (z 8) P9 ++ stO Z ((z 1) 0) ((z 1) 1) ((z 1) 5) ++ plB Z (fun k => (z 1) (5 + k)) X.2) (ptB Z (z 7 0) (z 7 1) (z 7 2) tl ti ta tr t k ++ hiB Z (z 2 0) (z 2 1) (fun r => z (3 + r)) (svO o n) (svN n + 1) (svX o n Y X)) S w (C := RX4) (T := TX4) (N := 4) hn_X7_shorten_4 tyX4_ok nmX4 (wc := [((z 1) 1, .inr (3, [.ref ((z 1) 2), .ref ((z 1) 3), .ref ((z 1) 4), vI X.1.2.2.2])), ((z 1) 2, .inl (Z 0, 192, .inl (ar 192 (fun i => pk (X.1.1 i))))), ((z 1) 3, .inl (Z 0, 6, .inl (ar 6 X.1.2.1))), ((z 1) 4, .inl (Z 0, 8, .inl (ar 8 X.1.2.2.1)))]) (wp := [((z 1) 1, .inr (3, [.ref ((z 1) 2), .ref ((z 1) 3), .ref ((z 1) 4), vI (X.1.2.2.2 - 1)])), ((z 1) 2, .inl (Z 0, 192, .inl (ar 192 (fun i => pk (X.1.1 i))))), ((z 1) 3, .inl (Z 0, 6, .inl (ar 6 X.1.2.1))), ((z 1) 4, .inl (Z 0, 8, .inl (ar 8 X.1.2.2.1)))]) (by simp only [List.append_assoc, List.nil_append, List.append_nil]) 0 rfl rfl 3 (by decide) (List.mem_of_getElem? (i := 5) rfl) rfl rfl (Nat.le_of_ble_eq_true rfl) rfl (ws' := tpO Z z ++ plB Z (z 8) P9 ++ stO Z ((z 1) 0) ((z 1) 1) ((z 1) 5) ++ plB Z (fun k => (z 1) (5 + k)) X.2 ++ [((z 1) 1, .inr (3, [.ref ((z 1) 2), .ref ((z 1) 3), .ref ((z 1) 4), vI (X.1.2.2.2 - 1)])), ((z 1) 2, .inl (Z 0, 192, .inl (ar 192 (fun i => pk (X.1.1 i))))), ((z 1) 3, .inl (Z 0, 6, .inl (ar 6 X.1.2.1))), ((z 1) 4, .inl (Z 0, 8, .inl (ar 8 X.1.2.2.1)))] ++ ptB Z (z 7 0) (z 7 1) (z 7 2) tl ti ta tr t k ++ hiB Z (z 2 0) (z 2 1) (fun r => z (3 + r)) (svO o n) (svN n + 1) (svX o n Y X)) (by simp only [List.append_assoc, List.nil_append, List.append_nil]) dX7_shorten_60 (fun H locs w => ?_)
      refine lv_iload_n S.1 S.2.1 dX7_shorten_63 rfl (lv_at hl 0 rfl) ?_
      exact nx_iret S w hr hlocks rfl (xI_t ⟨h_1, h_2⟩) rfl (by simp only [stB, List.append_assoc, stSho]; rfl) (Nat.le_of_ble_eq_true rfl) (Nat.le_of_ble_eq_true rfl) dX7_shorten_64
    · skip
      exact nx_thr (cls := "java/lang/IllegalStateException") (ik := 110) (is := 112) (ic := 114) (kS := 0) (text := "the last place is needed") S w X9 hst hl.1 htab hlocks (xI_f ⟨fun z9 => z9.2 h_2, rfl⟩) rfl (by decide +kernel) (List.mem_of_getElem? (i := 1) rfl) (List.mem_of_getElem? (i := 2) rfl) rfl (by decide +kernel) (by decide +kernel) (by decide +kernel) dX7_shorten_31 dX7_shorten_34 dX7_shorten_35 dX7_shorten_37 dX7_shorten_40 (Nat.le_of_ble_eq_true rfl) (Nat.le_of_ble_eq_true rfl) (Nat.le_of_ble_eq_true rfl) (Nat.le_of_ble_eq_true rfl) (Nat.le_of_ble_eq_true rfl) (Nat.le_of_ble_eq_true rfl)

theorem hn_X7_pattern_7 : ∀ w ∈ wsX70, w ∈ wsX7_pattern := by decide +kernel
theorem hn_X7_pattern_5 : ∀ w ∈ wsX50, w ∈ wsX7_pattern := by decide +kernel
theorem hdV_X4_patternFact : yX4_patternFact.cls = RX4 ∧ yX4_patternFact.cls ≠ "java/lang/invoke/MethodHandle" ∧ yX4_patternFact.cls ≠ "java/lang/invoke/VarHandle" ∧ (parseMethodDescriptor yX4_patternFact.desc).map (fun d => d.parameters.length) = some 2 := by decide +kernel
set_option maxRecDepth 100000 in
set_option maxHeartbeats 4000000 in
theorem c_X7_pattern (l : Launch) (hst : l.stackTraces = false) (D : va_G) (Z : Nat → ClassId) (z : Nat → Nat → Nat) (X : ST) (o n : Nat) (Y : Nat → ST) (tl ti ta tr : Nat) (t : Nat → Nat) (k : Nat → Nat → Nat) (P9 : PG) (xa xn : Int32) (hX : XB X) : Xi l yX7_pattern wsX7_pattern 7 117 2 12 D Z [.ref (z 0 0), .int xa, .int xn] (tpO Z z ++ plB Z (z 8) P9 ++ stB Z (z 1) X ++ ptB Z (z 7 0) (z 7 1) (z 7 2) tl ti ta tr t k ++ hiB Z (z 2 0) (z 2 1) (fun r => z (3 + r)) o n Y) (xI (ixI 6 xa) eIX (xI (rgI 0 4 xn) eIA none)) (nI (factP X.1 (toN xa) (toN xn))) (tpO Z z ++ plB Z (z 8) P9 ++ stB Z (z 1) X ++ ptB Z (z 7 0) (z 7 1) (z 7 2) tl ti ta tr t k ++ hiB Z (z 2 0) (z 2 1) (fun r => z (3 + r)) o n Y) := by
  refine nxe_i (cc := cX7_pattern) (maxL := 3) (by decide +kernel) rfl (Nat.le_of_ble_eq_true rfl) (fun p e s m args below meth c A ls (S : CallFix p m c cX7_pattern 3 s args wsX7_pattern RX7) hr hlocks htab X9 hl w => ?_)
  have hl : lv_has ls 3 [(0, .ref (z 0 0)), (1, .int xa), (2, .int xn)] := hl
  refine lv_iload_n S.1 S.2.1 dX7_pattern_0 rfl (lv_at hl 1 rfl) ?_
  refine lv_bipush (v := nI 6) S.1 S.2.1 dX7_pattern_1 (by decide +kernel) ?_
  refine nx_pSv (rest := []) S w X9 hl.1 (c_X7_requireIndex l hst D Z xa 6 ) gX7_pattern_X7_requireIndex rfl hdS_X7_requireIndex ⟨Nat.le_of_ble_eq_true rfl, Nat.le_of_ble_eq_true rfl⟩ rfl rfl (Nat.le_of_ble_eq_true rfl) ⟨Nat.le_of_ble_eq_true rfl, Nat.le_of_ble_eq_true rfl⟩ dX7_pattern_3 (fun E9 ce q9 H locs hE w hc9 hv9 hf9 => ?_) (fun hN H locs w => ?_)
  · exact nx_out w htab hlocks hc9 hv9 hf9 (xI_f (xI_no hE)) (Nat.le_of_ble_eq_true rfl) (Nat.le_of_ble_eq_true rfl)
  · skip
    have h_1 := xI_yes hN
    refine lv_iload_n S.1 S.2.1 dX7_pattern_6 rfl (lv_at hl 2 rfl) ?_
    refine lv_iconst (v := nI 0) S.1 S.2.1 dX7_pattern_7 (ofInt_nI 0) ?_
    refine lv_iconst (v := nI 4) S.1 S.2.1 dX7_pattern_8 (ofInt_nI 4) ?_
    refine nx_pSv (rest := []) S w X9 hl.1 (c_X7_requireRange l hst D Z xn 0 4 ) gX7_pattern_X7_requireRange rfl hdS_X7_requireRange ⟨Nat.le_of_ble_eq_true rfl, Nat.le_of_ble_eq_true rfl⟩ rfl rfl (Nat.le_of_ble_eq_true rfl) ⟨Nat.le_of_ble_eq_true rfl, Nat.le_of_ble_eq_true rfl⟩ dX7_pattern_9 (fun E9 ce q9 H locs hE w hc9 hv9 hf9 => ?_) (fun hN H locs w => ?_)
    · exact nx_out w htab hlocks hc9 hv9 hf9 ((xI_t h_1).trans (xI_f (xI_no hE))) (Nat.le_of_ble_eq_true rfl) (Nat.le_of_ble_eq_true rfl)
    · skip
      have h_2 := xI_yes hN
      obtain ⟨na, rfl, hna⟩ := ix_nat (by decide) h_1
      have eqna : toN (nI na) = na := toN_nI (by omega)
      obtain ⟨nn, rfl, hnn⟩ := rg_nat (by decide) (by decide) h_2
      have eqnn : toN (nI nn) = nn := toN_nI (by omega)
      refine lv_aload_n S.1 S.2.1 dX7_pattern_12 rfl (lv_at hl 0 rfl) ?_
      refine nv_get S w (C := RX7) (T := TX7) (N := 4) hn_X7_pattern_7 0 rfl rfl 0 (by decide) (List.mem_of_getElem? (i := 1) rfl) (v := .ref (z 1 0)) rfl dX7_pattern_13 ?_
      refine nv_get S w (C := RX5) (T := TX5) (N := 2) hn_X7_pattern_5 15 rfl rfl 0 (by decide) (List.mem_of_getElem? (i := 2) rfl) (v := .ref ((z 1) 1)) rfl dX7_pattern_16 ?_
      have w := w.as (ws' := tpO Z z ++ plB Z (z 8) P9 ++ stO Z ((z 1) 0) ((z 1) 1) ((z 1) 5) ++ plB Z (fun k => (z 1) (5 + k)) X.2 ++ songB Z ((z 1) 1) ((z 1) 2) ((z 1) 3) ((z 1) 4) X.1 ++ ptB Z (z 7 0) (z 7 1) (z 7 2) tl ti ta tr t k ++ hiB Z (z 2 0) (z 2 1) (fun r => z (3 + r)) o n Y) (by simp only [stB, List.append_assoc])
      refine lv_iload_n S.1 S.2.1 dX7_pattern_19 rfl (lv_at hl 1 rfl) ?_
      refine lv_iload_n S.1 S.2.1 dX7_pattern_20 rfl (lv_at hl 2 rfl) ?_
      refine nv_gVi (rest := []) (tpO Z z ++ plB Z (z 8) P9 ++ stO Z ((z 1) 0) ((z 1) 1) ((z 1) 5) ++ plB Z (fun k => (z 1) (5 + k)) X.2) (ptB Z (z 7 0) (z 7 1) (z 7 2) tl ti ta tr t k ++ hiB Z (z 2 0) (z 2 1) (fun r => z (3 + r)) o n Y) S w hl.1 (c_X4_patternFact l D Z ((z 1) 1) ((z 1) 2) ((z 1) 3) ((z 1) 4) X.1 na nn hX.1 (by omega) (by omega)) (by simp only [List.append_assoc, List.nil_append, List.append_nil]) gX7_pattern_X4_patternFact rfl hdV_X4_patternFact ⟨Nat.le_of_ble_eq_true rfl, Nat.le_of_ble_eq_true rfl⟩ (q0 := 0) rfl rfl rfl rfl (Nat.le_of_ble_eq_true rfl) ⟨Nat.le_of_ble_eq_true rfl, Nat.le_of_ble_eq_true rfl⟩ dX7_pattern_21 (fun H locs w => ?_)
      exact nx_iret S w hr hlocks rfl ((xI_t h_1).trans ((xI_t h_2).trans (rfl))) (by simp only [eqna, eqnn]) (by simp only [eqna, eqnn, stB, List.append_assoc]) (Nat.le_of_ble_eq_true rfl) (Nat.le_of_ble_eq_true rfl) dX7_pattern_24

theorem hn_X7_order_7 : ∀ w ∈ wsX70, w ∈ wsX7_order := by decide +kernel
theorem hn_X7_order_5 : ∀ w ∈ wsX50, w ∈ wsX7_order := by decide +kernel
theorem hn_X7_order_4 : ∀ w ∈ wsX40, w ∈ wsX7_order := by decide +kernel
set_option maxRecDepth 100000 in
set_option maxHeartbeats 4000000 in
theorem c_X7_order (l : Launch) (hst : l.stackTraces = false) (D : va_G) (Z : Nat → ClassId) (z : Nat → Nat → Nat) (X : ST) (o n : Nat) (Y : Nat → ST) (tl ti ta tr : Nat) (t : Nat → Nat) (k : Nat → Nat → Nat) (P9 : PG) (xa : Int32) (hX : XB X) : Xi l yX7_order wsX7_order 7 103 1 6 D Z [.ref (z 0 0), .int xa] (tpO Z z ++ plB Z (z 8) P9 ++ stB Z (z 1) X ++ ptB Z (z 7 0) (z 7 1) (z 7 2) tl ti ta tr t k ++ hiB Z (z 2 0) (z 2 1) (fun r => z (3 + r)) o n Y) (xI (ixI X.1.2.2.2 xa) eIX none) (nI (X.1.2.2.1 (toN xa))) (tpO Z z ++ plB Z (z 8) P9 ++ stB Z (z 1) X ++ ptB Z (z 7 0) (z 7 1) (z 7 2) tl ti ta tr t k ++ hiB Z (z 2 0) (z 2 1) (fun r => z (3 + r)) o n Y) := by
  refine nxe_i (cc := cX7_order) (maxL := 2) (by decide +kernel) rfl (Nat.le_of_ble_eq_true rfl) (fun p e s m args below meth c A ls (S : CallFix p m c cX7_order 2 s args wsX7_order RX7) hr hlocks htab X9 hl w => ?_)
  have hp8 := hX.1.2.2.2.1
  have hl : lv_has ls 2 [(0, .ref (z 0 0)), (1, .int xa)] := hl
  refine lv_iload_n S.1 S.2.1 dX7_order_0 rfl (lv_at hl 1 rfl) ?_
  refine lv_aload_n S.1 S.2.1 dX7_order_1 rfl (lv_at hl 0 rfl) ?_
  refine nv_get S w (C := RX7) (T := TX7) (N := 4) hn_X7_order_7 0 rfl rfl 0 (by decide) (List.mem_of_getElem? (i := 1) rfl) (v := .ref (z 1 0)) rfl dX7_order_2 ?_
  refine nv_get S w (C := RX5) (T := TX5) (N := 2) hn_X7_order_5 15 rfl rfl 0 (by decide) (List.mem_of_getElem? (i := 2) rfl) (v := .ref ((z 1) 1)) rfl dX7_order_5 ?_
  refine nv_get S w (C := RX4) (T := TX4) (N := 4) hn_X7_order_4 30 rfl rfl 3 (by decide) (List.mem_of_getElem? (i := 3) rfl) (v := vI X.1.2.2.2) rfl dX7_order_8 ?_
  refine nx_pSv (rest := []) S w X9 hl.1 (c_X7_requireIndex l hst D Z xa X.1.2.2.2 ) gX7_order_X7_requireIndex rfl hdS_X7_requireIndex ⟨Nat.le_of_ble_eq_true rfl, Nat.le_of_ble_eq_true rfl⟩ rfl rfl (Nat.le_of_ble_eq_true rfl) ⟨Nat.le_of_ble_eq_true rfl, Nat.le_of_ble_eq_true rfl⟩ dX7_order_11 (fun E9 ce q9 H locs hE w hc9 hv9 hf9 => ?_) (fun hN H locs w => ?_)
  · exact nx_out w htab hlocks hc9 hv9 hf9 (xI_f (xI_no hE)) (Nat.le_of_ble_eq_true rfl) (Nat.le_of_ble_eq_true rfl)
  · skip
    have h_1 := xI_yes hN
    obtain ⟨na, rfl, hna⟩ := ix_nat (by omega) h_1
    have eqna : toN (nI na) = na := toN_nI (by omega)
    refine lv_aload_n S.1 S.2.1 dX7_order_14 rfl (lv_at hl 0 rfl) ?_
    refine nv_get S w (C := RX7) (T := TX7) (N := 4) hn_X7_order_7 0 rfl rfl 0 (by decide) (List.mem_of_getElem? (i := 1) rfl) (v := .ref (z 1 0)) rfl dX7_order_15 ?_
    refine nv_get S w (C := RX5) (T := TX5) (N := 2) hn_X7_order_5 15 rfl rfl 0 (by decide) (List.mem_of_getElem? (i := 2) rfl) (v := .ref ((z 1) 1)) rfl dX7_order_18 ?_
    have w := w.as (ws' := tpO Z z ++ plB Z (z 8) P9 ++ stO Z ((z 1) 0) ((z 1) 1) ((z 1) 5) ++ plB Z (fun k => (z 1) (5 + k)) X.2 ++ songB Z ((z 1) 1) ((z 1) 2) ((z 1) 3) ((z 1) 4) X.1 ++ ptB Z (z 7 0) (z 7 1) (z 7 2) tl ti ta tr t k ++ hiB Z (z 2 0) (z 2 1) (fun r => z (3 + r)) o n Y) (by simp only [stB, List.append_assoc])
    refine lv_iload_n S.1 S.2.1 dX7_order_21 rfl (lv_at hl 1 rfl) ?_
    refine nv_gVi (rest := []) (tpO Z z ++ plB Z (z 8) P9 ++ stO Z ((z 1) 0) ((z 1) 1) ((z 1) 5) ++ plB Z (fun k => (z 1) (5 + k)) X.2) (ptB Z (z 7 0) (z 7 1) (z 7 2) tl ti ta tr t k ++ hiB Z (z 2 0) (z 2 1) (fun r => z (3 + r)) o n Y) S w hl.1 (c_X4_patternAt l D Z ((z 1) 1) ((z 1) 2) ((z 1) 3) ((z 1) 4) X.1 na (by omega) (by omega)) (by simp only [List.append_assoc, List.nil_append, List.append_nil]) gX7_order_X4_patternAt rfl hdV_X4_patternAt ⟨Nat.le_of_ble_eq_true rfl, Nat.le_of_ble_eq_true rfl⟩ (q0 := 0) rfl rfl rfl rfl (Nat.le_of_ble_eq_true rfl) ⟨Nat.le_of_ble_eq_true rfl, Nat.le_of_ble_eq_true rfl⟩ dX7_order_22 (fun H locs w => ?_)
    exact nx_iret S w hr hlocks rfl ((xI_t h_1).trans (rfl)) (by simp only [eqna]) (by simp only [eqna, stB, List.append_assoc]) (Nat.le_of_ble_eq_true rfl) (Nat.le_of_ble_eq_true rfl) dX7_order_25
