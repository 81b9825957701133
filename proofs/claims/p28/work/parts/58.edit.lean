theorem hdS_X7_requireCell : yX7_requireCell.cls ≠ "java/lang/invoke/MethodHandle" ∧ yX7_requireCell.cls ≠ "java/lang/invoke/VarHandle" ∧ (parseMethodDescriptor yX7_requireCell.desc).map (fun d => d.parameters.length) = some 3 := by decide +kernel
theorem hdS_X7_requireRange : yX7_requireRange.cls ≠ "java/lang/invoke/MethodHandle" ∧ yX7_requireRange.cls ≠ "java/lang/invoke/VarHandle" ∧ (parseMethodDescriptor yX7_requireRange.desc).map (fun d => d.parameters.length) = some 3 := by decide +kernel
theorem hn_X7_setNote_7 : ∀ w ∈ wsX70, w ∈ wsX7_setNote := by decide +kernel
theorem hdV_X1_save : yX1_save.cls = RX1 ∧ yX1_save.cls ≠ "java/lang/invoke/MethodHandle" ∧ yX1_save.cls ≠ "java/lang/invoke/VarHandle" ∧ (parseMethodDescriptor yX1_save.desc).map (fun d => d.parameters.length) = some 1 := by decide +kernel
theorem hn_X7_setNote_5 : ∀ w ∈ wsX50, w ∈ wsX7_setNote := by decide +kernel
theorem hdS_X0_packed : yX0_packed.cls ≠ "java/lang/invoke/MethodHandle" ∧ yX0_packed.cls ≠ "java/lang/invoke/VarHandle" ∧ (parseMethodDescriptor yX0_packed.desc).map (fun d => d.parameters.length) = some 4 := by decide +kernel
theorem hdV_X4_putCell : yX4_putCell.cls = RX4 ∧ yX4_putCell.cls ≠ "java/lang/invoke/MethodHandle" ∧ yX4_putCell.cls ≠ "java/lang/invoke/VarHandle" ∧ (parseMethodDescriptor yX4_putCell.desc).map (fun d => d.parameters.length) = some 4 := by decide +kernel
set_option maxRecDepth 100000 in
set_option maxHeartbeats 4000000 in
theorem c_X7_setNote (l : Launch) (hst : l.stackTraces = false) (D : va_G) (Z : Nat → ClassId) (z : Nat → Nat → Nat) (X : ST) (o n : Nat) (Y : Nat → ST) (tl ti ta tr : Nat) (t : Nat → Nat) (k : Nat → Nat → Nat) (P9 : PG) (xa xb xd xn xv : Int32) (ho : o < 4) (hn : n ≤ 4) (hX : XB X) : Xi l yX7_setNote wsX7_setNote 7 111 3 18 D Z [.ref (z 0 0), .int xa, .int xb, .int xd, .int xn, .int xv] (tpO Z z ++ plB Z (z 8) P9 ++ stB Z (z 1) X ++ ptB Z (z 7 0) (z 7 1) (z 7 2) tl ti ta tr t k ++ hiB Z (z 2 0) (z 2 1) (fun r => z (3 + r)) o n Y) (xI (celI xa xb xd) eIX (xI (rgI 0 61 xn) eIA (xI (rgI 0 15 xv) eIA none))) (nI (X.1.1 (cix (toN xa) (toN xb) (toN xd)) 0)) (tpO Z z ++ plB Z (z 8) P9 ++ stB Z (z 1) (stNote X (cix (toN xa) (toN xb) (toN xd)) (toN xn) (toN xv)) ++ ptB Z (z 7 0) (z 7 1) (z 7 2) tl ti ta tr t k ++ hiB Z (z 2 0) (z 2 1) (fun r => z (3 + r)) (svO o n) (svN n + 1) (svX o n Y X)) := by
  refine nxe_i (cc := cX7_setNote) (maxL := 8) (by decide +kernel) rfl (Nat.le_of_ble_eq_true rfl) (fun p e s m args below meth c A ls (S : CallFix p m c cX7_setNote 8 s args wsX7_setNote RX7) hr hlocks htab X9 hl w => ?_)
  have hl : lv_has ls 8 [(0, .ref (z 0 0)), (1, .int xa), (2, .int xb), (3, .int xd), (4, .int xn), (5, .int xv)] := hl
  refine lv_iload_n S.1 S.2.1 dX7_setNote_0 rfl (lv_at hl 1 rfl) ?_
  refine lv_iload_n S.1 S.2.1 dX7_setNote_1 rfl (lv_at hl 2 rfl) ?_
  refine lv_iload_n S.1 S.2.1 dX7_setNote_2 rfl (lv_at hl 3 rfl) ?_
  refine nx_pSv (rest := []) S w X9 hl.1 (c_X7_requireCell l hst D Z xa xb xd ) gX7_setNote_X7_requireCell rfl hdS_X7_requireCell ⟨Nat.le_of_ble_eq_true rfl, Nat.le_of_ble_eq_true rfl⟩ rfl rfl (Nat.le_of_ble_eq_true rfl) ⟨Nat.le_of_ble_eq_true rfl, Nat.le_of_ble_eq_true rfl⟩ dX7_setNote_3 (fun E9 ce q9 H locs hE w hc9 hv9 hf9 => ?_) (fun hN H locs w => ?_)
  · exact nx_out w htab hlocks hc9 hv9 hf9 (xI_f (xI_no hE)) (Nat.le_of_ble_eq_true rfl) (Nat.le_of_ble_eq_true rfl)
  · skip
    have h_1 := xI_yes hN
    refine lv_iload S.1 S.2.1 dX7_setNote_6 (lv_at hl 4 rfl) ?_
    refine lv_iconst (v := nI 0) S.1 S.2.1 dX7_setNote_8 (ofInt_nI 0) ?_
    refine lv_bipush (v := nI 61) S.1 S.2.1 dX7_setNote_9 (by decide +kernel) ?_
    refine nx_pSv (rest := []) S w X9 hl.1 (c_X7_requireRange l hst D Z xn 0 61 ) gX7_setNote_X7_requireRange rfl hdS_X7_requireRange ⟨Nat.le_of_ble_eq_true rfl, Nat.le_of_ble_eq_true rfl⟩ rfl rfl (Nat.le_of_ble_eq_true rfl) ⟨Nat.le_of_ble_eq_true rfl, Nat.le_of_ble_eq_true rfl⟩ dX7_setNote_11 (fun E9 ce q9 H locs hE w hc9 hv9 hf9 => ?_) (fun hN H locs w => ?_)
    · exact nx_out w htab hlocks hc9 hv9 hf9 ((xI_t h_1).trans (xI_f (xI_no hE))) (Nat.le_of_ble_eq_true rfl) (Nat.le_of_ble_eq_true rfl)
    · skip
      have h_2 := xI_yes hN
      refine lv_iload S.1 S.2.1 dX7_setNote_14 (lv_at hl 5 rfl) ?_
      refine lv_iconst (v := nI 0) S.1 S.2.1 dX7_setNote_16 (ofInt_nI 0) ?_
      refine lv_bipush (v := nI 15) S.1 S.2.1 dX7_setNote_17 (by decide +kernel) ?_
      refine nx_pSv (rest := []) S w X9 hl.1 (c_X7_requireRange l hst D Z xv 0 15 ) gX7_setNote_X7_requireRange rfl hdS_X7_requireRange ⟨Nat.le_of_ble_eq_true rfl, Nat.le_of_ble_eq_true rfl⟩ rfl rfl (Nat.le_of_ble_eq_true rfl) ⟨Nat.le_of_ble_eq_true rfl, Nat.le_of_ble_eq_true rfl⟩ dX7_setNote_19 (fun E9 ce q9 H locs hE w hc9 hv9 hf9 => ?_) (fun hN H locs w => ?_)
      · exact nx_out w htab hlocks hc9 hv9 hf9 ((xI_t h_1).trans ((xI_t h_2).trans (xI_f (xI_no hE)))) (Nat.le_of_ble_eq_true rfl) (Nat.le_of_ble_eq_true rfl)
      · skip
        have h_3 := xI_yes hN
        obtain ⟨na, rfl, hna⟩ := ix_nat (by decide) h_1.1
        have eqna : toN (nI na) = na := toN_nI (by omega)
        obtain ⟨nb, rfl, hnb⟩ := ix_nat (by decide) h_1.2.1
        have eqnb : toN (nI nb) = nb := toN_nI (by omega)
        obtain ⟨nd, rfl, hnd⟩ := ix_nat (by decide) h_1.2.2
        have eqnd : toN (nI nd) = nd := toN_nI (by omega)
        obtain ⟨nn, rfl, hnn⟩ := rg_nat (by decide) (by decide) h_2
        have eqnn : toN (nI nn) = nn := toN_nI (by omega)
        obtain ⟨nv, rfl, hnv⟩ := rg_nat (by decide) (by decide) h_3
        have eqnv : toN (nI nv) = nv := toN_nI (by omega)
        refine lv_aload_n S.1 S.2.1 dX7_setNote_22 rfl (lv_at hl 0 rfl) ?_
        refine nv_get S w (C := RX7) (T := TX7) (N := 4) hn_X7_setNote_7 0 rfl rfl 1 (by decide) (List.mem_of_getElem? (i := 1) rfl) (v := .ref (z 2 0)) rfl dX7_setNote_23 ?_
        refine lv_aload_n S.1 S.2.1 dX7_setNote_26 rfl (lv_at hl 0 rfl) ?_
        refine nv_get S w (C := RX7) (T := TX7) (N := 4) hn_X7_setNote_7 0 rfl rfl 0 (by decide) (List.mem_of_getElem? (i := 2) rfl) (v := .ref (z 1 0)) rfl dX7_setNote_27 ?_
        have w := w.perm (ws' := tpO Z z ++ plB Z (z 8) P9 ++ hiB Z (z 2 0) (z 2 1) (fun r => z (3 + r)) o n Y ++ stB Z (z 1) X ++ ptB Z (z 7 0) (z 7 1) (z 7 2) tl ti ta tr t k) (List.Perm.trans sw2 (List.Perm.append_right _ sw2))
        refine nv_fVv (rest := []) (tpO Z z ++ plB Z (z 8) P9) (ptB Z (z 7 0) (z 7 1) (z 7 2) tl ti ta tr t k) (ws' := tpO Z z ++ plB Z (z 8) P9 ++ hiB Z (z 2 0) (z 2 1) (fun r => z (3 + r)) (svO o n) (svN n + 1) (svX o n Y X) ++ stB Z (z 1) X ++ ptB Z (z 7 0) (z 7 1) (z 7 2) tl ti ta tr t k) S w hl.1 (c_X1_save l D Z (z 2 0) (z 2 1) (fun r => z (3 + r)) o n Y (z 1) X (by omega) (by omega)) (by simp only [List.append_assoc, List.nil_append, List.append_nil]) rfl (by simp only [List.append_assoc, List.nil_append, List.append_nil]) gX7_setNote_X1_save rfl hdV_X1_save ⟨Nat.le_of_ble_eq_true rfl, Nat.le_of_ble_eq_true rfl⟩ (q0 := 0) rfl rfl rfl rfl (Nat.le_of_ble_eq_true rfl) ⟨Nat.le_of_ble_eq_true rfl, Nat.le_of_ble_eq_true rfl⟩ dX7_setNote_30 (fun H locs w => ?_)
        have w := w.perm (ws' := tpO Z z ++ plB Z (z 8) P9 ++ stB Z (z 1) X ++ ptB Z (z 7 0) (z 7 1) (z 7 2) tl ti ta tr t k ++ hiB Z (z 2 0) (z 2 1) (fun r => z (3 + r)) (svO o n) (svN n + 1) (svX o n Y X)) (List.Perm.trans (List.Perm.append_right _ sw2) sw2)
        have w := w.as (ws' := tpO Z z ++ plB Z (z 8) P9 ++ stO Z ((z 1) 0) ((z 1) 1) ((z 1) 5) ++ plB Z (fun k => (z 1) (5 + k)) X.2 ++ songB Z ((z 1) 1) ((z 1) 2) ((z 1) 3) ((z 1) 4) X.1 ++ ptB Z (z 7 0) (z 7 1) (z 7 2) tl ti ta tr t k ++ hiB Z (z 2 0) (z 2 1) (fun r => z (3 + r)) (svO o n) (svN n + 1) (svX o n Y X)) (by simp only [stB, List.append_assoc])
        refine lv_aload_n S.1 S.2.1 dX7_setNote_33 rfl (lv_at hl 0 rfl) ?_
        refine nv_get S w (C := RX7) (T := TX7) (N := 4) hn_X7_setNote_7 0 rfl rfl 0 (by decide) (List.mem_of_getElem? (i := 2) rfl) (v := .ref (z 1 0)) rfl dX7_setNote_34 ?_
        refine nv_get S w (C := RX5) (T := TX5) (N := 2) hn_X7_setNote_5 15 rfl rfl 0 (by decide) (List.mem_of_getElem? (i := 3) rfl) (v := .ref ((z 1) 1)) rfl dX7_setNote_37 ?_
        refine lv_iload_n S.1 S.2.1 dX7_setNote_40 rfl (lv_at hl 1 rfl) ?_
        refine lv_iload_n S.1 S.2.1 dX7_setNote_41 rfl (lv_at hl 2 rfl) ?_
        refine lv_iload_n S.1 S.2.1 dX7_setNote_42 rfl (lv_at hl 3 rfl) ?_
        refine nv_gVi (rest := []) (tpO Z z ++ plB Z (z 8) P9 ++ stO Z ((z 1) 0) ((z 1) 1) ((z 1) 5) ++ plB Z (fun k => (z 1) (5 + k)) X.2) (ptB Z (z 7 0) (z 7 1) (z 7 2) tl ti ta tr t k ++ hiB Z (z 2 0) (z 2 1) (fun r => z (3 + r)) (svO o n) (svN n + 1) (svX o n Y X)) S w hl.1 (c_X4_cellAt l D Z ((z 1) 1) ((z 1) 2) ((z 1) 3) ((z 1) 4) X.1 na nb nd (by omega) (by omega) (by omega)) (by simp only [List.append_assoc, List.nil_append, List.append_nil]) gX7_setNote_X4_cellAt rfl hdV_X4_cellAt ⟨Nat.le_of_ble_eq_true rfl, Nat.le_of_ble_eq_true rfl⟩ (q0 := 0) rfl rfl rfl rfl (Nat.le_of_ble_eq_true rfl) ⟨Nat.le_of_ble_eq_true rfl, Nat.le_of_ble_eq_true rfl⟩ dX7_setNote_43 (fun H locs w => ?_)
        refine lv_istore (lv' := [(6, vI (pk (X.1.1 (cix na nb nd)))), (0, .ref (z 0 0)), (1, vI na), (2, vI nb), (3, vI nd), (4, vI nn), (5, vI nv)]) S.1 S.2.1 dX7_setNote_46 hl (by decide) rfl (fun ls hl => ?_)
        refine lv_iload S.1 S.2.1 dX7_setNote_48 (lv_at hl 5 rfl) ?_
        refine lv_iload S.1 S.2.1 dX7_setNote_50 (lv_at hl 6 rfl) ?_
        refine lv_iload S.1 S.2.1 dX7_setNote_52 (lv_at hl 0 rfl) ?_
        refine nv_pSi (rest := [vI nv, vI nn]) S w hl.1 (c_X0_effectOf l D Z (X.1.1 (cix na nb nd)) (hX.1.1 _ (cix_lt hna hnb hnd))) gX7_setNote_X0_effectOf rfl hdS_X0_effectOf ⟨Nat.le_of_ble_eq_true rfl, Nat.le_of_ble_eq_true rfl⟩ rfl rfl (Nat.le_of_ble_eq_true rfl) ⟨Nat.le_of_ble_eq_true rfl, Nat.le_of_ble_eq_true rfl⟩ dX7_setNote_54 (fun H locs w => ?_)
        refine lv_iload S.1 S.2.1 dX7_setNote_57 (lv_at hl 0 rfl) ?_
        refine nv_pSi (rest := [vI ((X.1.1 (cix na nb nd)) 2), vI nv, vI nn]) S w hl.1 (c_X0_numberOf l D Z (X.1.1 (cix na nb nd)) (hX.1.1 _ (cix_lt hna hnb hnd))) gX7_setNote_X0_numberOf rfl hdS_X0_numberOf ⟨Nat.le_of_ble_eq_true rfl, Nat.le_of_ble_eq_true rfl⟩ rfl rfl (Nat.le_of_ble_eq_true rfl) ⟨Nat.le_of_ble_eq_true rfl, Nat.le_of_ble_eq_true rfl⟩ dX7_setNote_59 (fun H locs w => ?_)
        refine nv_pSi (rest := []) S w hl.1 (c_X0_packed l D Z nn nv ((X.1.1 (cix na nb nd)) 2) ((X.1.1 (cix na nb nd)) 3) (by have := hX.1.1 _ (cix_lt hna hnb hnd); unfold RB at this; omega)) gX7_setNote_X0_packed rfl hdS_X0_packed ⟨Nat.le_of_ble_eq_true rfl, Nat.le_of_ble_eq_true rfl⟩ rfl rfl (Nat.le_of_ble_eq_true rfl) ⟨Nat.le_of_ble_eq_true rfl, Nat.le_of_ble_eq_true rfl⟩ dX7_setNote_62 (fun H locs w => ?_)
        refine W.eq (g2 := F0 m 65 ls [vI (pk (cel nn nv (X.1.1 (cix na nb nd) 2) (X.1.1 (cix na nb nd) 3)))]) (by rw [pk_cel]) ?_
        refine lv_istore (lv' := [(7, vI (pk (cel nn nv (X.1.1 (cix na nb nd) 2) (X.1.1 (cix na nb nd) 3)))), (6, vI (pk (X.1.1 (cix na nb nd)))), (0, .ref (z 0 0)), (1, vI na), (2, vI nb), (3, vI nd), (4, vI nn), (5, vI nv)]) S.1 S.2.1 dX7_setNote_65 hl (by decide) rfl (fun ls hl => ?_)
        refine lv_aload_n S.1 S.2.1 dX7_setNote_67 rfl (lv_at hl 2 rfl) ?_
        refine nv_get S w (C := RX7) (T := TX7) (N := 4) hn_X7_setNote_7 0 rfl rfl 0 (by decide) (List.mem_of_getElem? (i := 2) rfl) (v := .ref (z 1 0)) rfl dX7_setNote_68 ?_
        refine nv_get S w (C := RX5) (T := TX5) (N := 2) hn_X7_setNote_5 15 rfl rfl 0 (by decide) (List.mem_of_getElem? (i := 3) rfl) (v := .ref ((z 1) 1)) rfl dX7_setNote_71 ?_
        refine lv_iload_n S.1 S.2.1 dX7_setNote_74 rfl (lv_at hl 3 rfl) ?_
        refine lv_iload_n S.1 S.2.1 dX7_setNote_75 rfl (lv_at hl 4 rfl) ?_
        refine lv_iload_n S.1 S.2.1 dX7_setNote_76 rfl (lv_at hl 5 rfl) ?_
        refine lv_iload S.1 S.2.1 dX7_setNote_77 (lv_at hl 0 rfl) ?_
        refine nv_fVv (rest := []) (tpO Z z ++ plB Z (z 8) P9 ++ stO Z ((z 1) 0) ((z 1) 1) ((z 1) 5) ++ plB Z (fun k => (z 1) (5 + k)) X.2) (ptB Z (z 7 0) (z 7 1) (z 7 2) tl ti ta tr t k ++ hiB Z (z 2 0) (z 2 1) (fun r => z (3 + r)) (svO o n) (svN n + 1) (svX o n Y X)) (ws' := tpO Z z ++ plB Z (z 8) P9 ++ stO Z ((z 1) 0) ((z 1) 1) ((z 1) 5) ++ plB Z (fun k => (z 1) (5 + k)) X.2 ++ songB Z ((z 1) 1) ((z 1) 2) ((z 1) 3) ((z 1) 4) (uc X.1.1 (cix na nb nd) (cel nn nv (X.1.1 (cix na nb nd) 2) (X.1.1 (cix na nb nd) 3)), X.1.2) ++ ptB Z (z 7 0) (z 7 1) (z 7 2) tl ti ta tr t k ++ hiB Z (z 2 0) (z 2 1) (fun r => z (3 + r)) (svO o n) (svN n + 1) (svX o n Y X)) S w hl.1 (c_X4_putCell l D Z ((z 1) 1) ((z 1) 2) ((z 1) 3) ((z 1) 4) X.1 na nb nd (cel nn nv (X.1.1 (cix na nb nd) 2) (X.1.1 (cix na nb nd) 3)) (by omega) (by omega) (by omega)) (by simp only [List.append_assoc, List.nil_append, List.append_nil]) rfl (by simp only [List.append_assoc, List.nil_append, List.append_nil]) gX7_setNote_X4_putCell rfl hdV_X4_putCell ⟨Nat.le_of_ble_eq_true rfl, Nat.le_of_ble_eq_true rfl⟩ (q0 := 0) rfl rfl rfl rfl (Nat.le_of_ble_eq_true rfl) ⟨Nat.le_of_ble_eq_true rfl, Nat.le_of_ble_eq_true rfl⟩ dX7_setNote_79 (fun H locs w => ?_)
        refine lv_iload S.1 S.2.1 dX7_setNote_82 (lv_at hl 1 rfl) ?_
        refine nv_pSi (rest := []) S w hl.1 (c_X0_noteOf l D Z (X.1.1 (cix na nb nd)) (hX.1.1 _ (cix_lt hna hnb hnd))) gX7_setNote_X0_noteOf rfl hdS_X0_noteOf ⟨Nat.le_of_ble_eq_true rfl, Nat.le_of_ble_eq_true rfl⟩ rfl rfl (Nat.le_of_ble_eq_true rfl) ⟨Nat.le_of_ble_eq_true rfl, Nat.le_of_ble_eq_true rfl⟩ dX7_setNote_84 (fun H locs w => ?_)
        exact nx_iret S w hr hlocks rfl ((xI_t h_1).trans ((xI_t h_2).trans ((xI_t h_3).trans (rfl)))) (by simp only [eqna, eqnb, eqnd, eqnn, eqnv]) (by simp only [eqna, eqnb, eqnd, eqnn, eqnv, stB, List.append_assoc, stNote]) (Nat.le_of_ble_eq_true rfl) (Nat.le_of_ble_eq_true rfl) dX7_setNote_87

theorem hn_X7_setEffect_7 : ∀ w ∈ wsX70, w ∈ wsX7_setEffect := by decide +kernel
theorem hn_X7_setEffect_5 : ∀ w ∈ wsX50, w ∈ wsX7_setEffect := by decide +kernel
set_option maxRecDepth 100000 in
set_option maxHeartbeats 4000000 in
theorem c_X7_setEffect (l : Launch) (hst : l.stackTraces = false) (D : va_G) (Z : Nat → ClassId) (z : Nat → Nat → Nat) (X : ST) (o n : Nat) (Y : Nat → ST) (tl ti ta tr : Nat) (t : Nat → Nat) (k : Nat → Nat → Nat) (P9 : PG) (xa xb xd xn xv : Int32) (ho : o < 4) (hn : n ≤ 4) (hX : XB X) : Xi l yX7_setEffect wsX7_setEffect 7 111 3 18 D Z [.ref (z 0 0), .int xa, .int xb, .int xd, .int xn, .int xv] (tpO Z z ++ plB Z (z 8) P9 ++ stB Z (z 1) X ++ ptB Z (z 7 0) (z 7 1) (z 7 2) tl ti ta tr t k ++ hiB Z (z 2 0) (z 2 1) (fun r => z (3 + r)) o n Y) (xI (celI xa xb xd) eIX (xI (rgI 0 7 xn) eIA (xI (rgI 0 9 xv) eIA none))) (nI (X.1.1 (cix (toN xa) (toN xb) (toN xd)) 2)) (tpO Z z ++ plB Z (z 8) P9 ++ stB Z (z 1) (stEff X (cix (toN xa) (toN xb) (toN xd)) (toN xn) (toN xv)) ++ ptB Z (z 7 0) (z 7 1) (z 7 2) tl ti ta tr t k ++ hiB Z (z 2 0) (z 2 1) (fun r => z (3 + r)) (svO o n) (svN n + 1) (svX o n Y X)) := by
  refine nxe_i (cc := cX7_setEffect) (maxL := 8) (by decide +kernel) rfl (Nat.le_of_ble_eq_true rfl) (fun p e s m args below meth c A ls (S : CallFix p m c cX7_setEffect 8 s args wsX7_setEffect RX7) hr hlocks htab X9 hl w => ?_)
  have hl : lv_has ls 8 [(0, .ref (z 0 0)), (1, .int xa), (2, .int xb), (3, .int xd), (4, .int xn), (5, .int xv)] := hl
  refine lv_iload_n S.1 S.2.1 dX7_setEffect_0 rfl (lv_at hl 1 rfl) ?_
  refine lv_iload_n S.1 S.2.1 dX7_setEffect_1 rfl (lv_at hl 2 rfl) ?_
  refine lv_iload_n S.1 S.2.1 dX7_setEffect_2 rfl (lv_at hl 3 rfl) ?_
  refine nx_pSv (rest := []) S w X9 hl.1 (c_X7_requireCell l hst D Z xa xb xd ) gX7_setEffect_X7_requireCell rfl hdS_X7_requireCell ⟨Nat.le_of_ble_eq_true rfl, Nat.le_of_ble_eq_true rfl⟩ rfl rfl (Nat.le_of_ble_eq_true rfl) ⟨Nat.le_of_ble_eq_true rfl, Nat.le_of_ble_eq_true rfl⟩ dX7_setEffect_3 (fun E9 ce q9 H locs hE w hc9 hv9 hf9 => ?_) (fun hN H locs w => ?_)
  · exact nx_out w htab hlocks hc9 hv9 hf9 (xI_f (xI_no hE)) (Nat.le_of_ble_eq_true rfl) (Nat.le_of_ble_eq_true rfl)
  · skip
    have h_1 := xI_yes hN
    refine lv_iload S.1 S.2.1 dX7_setEffect_6 (lv_at hl 4 rfl) ?_
    refine lv_iconst (v := nI 0) S.1 S.2.1 dX7_setEffect_8 (ofInt_nI 0) ?_
    refine lv_bipush (v := nI 7) S.1 S.2.1 dX7_setEffect_9 (by decide +kernel) ?_
    refine nx_pSv (rest := []) S w X9 hl.1 (c_X7_requireRange l hst D Z xn 0 7 ) gX7_setEffect_X7_requireRange rfl hdS_X7_requireRange ⟨Nat.le_of_ble_eq_true rfl, Nat.le_of_ble_eq_true rfl⟩ rfl rfl (Nat.le_of_ble_eq_true rfl) ⟨Nat.le_of_ble_eq_true rfl, Nat.le_of_ble_eq_true rfl⟩ dX7_setEffect_11 (fun E9 ce q9 H locs hE w hc9 hv9 hf9 => ?_) (fun hN H locs w => ?_)
    · exact nx_out w htab hlocks hc9 hv9 hf9 ((xI_t h_1).trans (xI_f (xI_no hE))) (Nat.le_of_ble_eq_true rfl) (Nat.le_of_ble_eq_true rfl)
    · skip
      have h_2 := xI_yes hN
      refine lv_iload S.1 S.2.1 dX7_setEffect_14 (lv_at hl 5 rfl) ?_
      refine lv_iconst (v := nI 0) S.1 S.2.1 dX7_setEffect_16 (ofInt_nI 0) ?_
      refine lv_bipush (v := nI 9) S.1 S.2.1 dX7_setEffect_17 (by decide +kernel) ?_
      refine nx_pSv (rest := []) S w X9 hl.1 (c_X7_requireRange l hst D Z xv 0 9 ) gX7_setEffect_X7_requireRange rfl hdS_X7_requireRange ⟨Nat.le_of_ble_eq_true rfl, Nat.le_of_ble_eq_true rfl⟩ rfl rfl (Nat.le_of_ble_eq_true rfl) ⟨Nat.le_of_ble_eq_true rfl, Nat.le_of_ble_eq_true rfl⟩ dX7_setEffect_19 (fun E9 ce q9 H locs hE w hc9 hv9 hf9 => ?_) (fun hN H locs w => ?_)
      · exact nx_out w htab hlocks hc9 hv9 hf9 ((xI_t h_1).trans ((xI_t h_2).trans (xI_f (xI_no hE)))) (Nat.le_of_ble_eq_true rfl) (Nat.le_of_ble_eq_true rfl)
      · skip
        have h_3 := xI_yes hN
        obtain ⟨na, rfl, hna⟩ := ix_nat (by decide) h_1.1
        have eqna : toN (nI na) = na := toN_nI (by omega)
        obtain ⟨nb, rfl, hnb⟩ := ix_nat (by decide) h_1.2.1
        have eqnb : toN (nI nb) = nb := toN_nI (by omega)
        obtain ⟨nd, rfl, hnd⟩ := ix_nat (by decide) h_1.2.2
        have eqnd : toN (nI nd) = nd := toN_nI (by omega)
        obtain ⟨nn, rfl, hnn⟩ := rg_nat (by decide) (by decide) h_2
        have eqnn : toN (nI nn) = nn := toN_nI (by omega)
        obtain ⟨nv, rfl, hnv⟩ := rg_nat (by decide) (by decide) h_3
        have eqnv : toN (nI nv) = nv := toN_nI (by omega)
        refine lv_aload_n S.1 S.2.1 dX7_setEffect_22 rfl (lv_at hl 0 rfl) ?_
        refine nv_get S w (C := RX7) (T := TX7) (N := 4) hn_X7_setEffect_7 0 rfl rfl 1 (by decide) (List.mem_of_getElem? (i := 1) rfl) (v := .ref (z 2 0)) rfl dX7_setEffect_23 ?_
        refine lv_aload_n S.1 S.2.1 dX7_setEffect_26 rfl (lv_at hl 0 rfl) ?_
        refine nv_get S w (C := RX7) (T := TX7) (N := 4) hn_X7_setEffect_7 0 rfl rfl 0 (by decide) (List.mem_of_getElem? (i := 2) rfl) (v := .ref (z 1 0)) rfl dX7_setEffect_27 ?_
        have w := w.perm (ws' := tpO Z z ++ plB Z (z 8) P9 ++ hiB Z (z 2 0) (z 2 1) (fun r => z (3 + r)) o n Y ++ stB Z (z 1) X ++ ptB Z (z 7 0) (z 7 1) (z 7 2) tl ti ta tr t k) (List.Perm.trans sw2 (List.Perm.append_right _ sw2))
        refine nv_fVv (rest := []) (tpO Z z ++ plB Z (z 8) P9) (ptB Z (z 7 0) (z 7 1) (z 7 2) tl ti ta tr t k) (ws' := tpO Z z ++ plB Z (z 8) P9 ++ hiB Z (z 2 0) (z 2 1) (fun r => z (3 + r)) (svO o n) (svN n + 1) (svX o n Y X) ++ stB Z (z 1) X ++ ptB Z (z 7 0) (z 7 1) (z 7 2) tl ti ta tr t k) S w hl.1 (c_X1_save l D Z (z 2 0) (z 2 1) (fun r => z (3 + r)) o n Y (z 1) X (by omega) (by omega)) (by simp only [List.append_assoc, List.nil_append, List.append_nil]) rfl (by simp only [List.append_assoc, List.nil_append, List.append_nil]) gX7_setEffect_X1_save rfl hdV_X1_save ⟨Nat.le_of_ble_eq_true rfl, Nat.le_of_ble_eq_true rfl⟩ (q0 := 0) rfl rfl rfl rfl (Nat.le_of_ble_eq_true rfl) ⟨Nat.le_of_ble_eq_true rfl, Nat.le_of_ble_eq_true rfl⟩ dX7_setEffect_30 (fun H locs w => ?_)
        have w := w.perm (ws' := tpO Z z ++ plB Z (z 8) P9 ++ stB Z (z 1) X ++ ptB Z (z 7 0) (z 7 1) (z 7 2) tl ti ta tr t k ++ hiB Z (z 2 0) (z 2 1) (fun r => z (3 + r)) (svO o n) (svN n + 1) (svX o n Y X)) (List.Perm.trans (List.Perm.append_right _ sw2) sw2)
        have w := w.as (ws' := tpO Z z ++ plB Z (z 8) P9 ++ stO Z ((z 1) 0) ((z 1) 1) ((z 1) 5) ++ plB Z (fun k => (z 1) (5 + k)) X.2 ++ songB Z ((z 1) 1) ((z 1) 2) ((z 1) 3) ((z 1) 4) X.1 ++ ptB Z (z 7 0) (z 7 1) (z 7 2) tl ti ta tr t k ++ hiB Z (z 2 0) (z 2 1) (fun r => z (3 + r)) (svO o n) (svN n + 1) (svX o n Y X)) (by simp only [stB, List.append_assoc])
        refine lv_aload_n S.1 S.2.1 dX7_setEffect_33 rfl (lv_at hl 0 rfl) ?_
        refine nv_get S w (C := RX7) (T := TX7) (N := 4) hn_X7_setEffect_7 0 rfl rfl 0 (by decide) (List.mem_of_getElem? (i := 2) rfl) (v := .ref (z 1 0)) rfl dX7_setEffect_34 ?_
        refine nv_get S w (C := RX5) (T := TX5) (N := 2) hn_X7_setEffect_5 15 rfl rfl 0 (by decide) (List.mem_of_getElem? (i := 3) rfl) (v := .ref ((z 1) 1)) rfl dX7_setEffect_37 ?_
        refine lv_iload_n S.1 S.2.1 dX7_setEffect_40 rfl (lv_at hl 1 rfl) ?_
        refine lv_iload_n S.1 S.2.1 dX7_setEffect_41 rfl (lv_at hl 2 rfl) ?_
        refine lv_iload_n S.1 S.2.1 dX7_setEffect_42 rfl (lv_at hl 3 rfl) ?_
        refine nv_gVi (rest := []) (tpO Z z ++ plB Z (z 8) P9 ++ stO Z ((z 1) 0) ((z 1) 1) ((z 1) 5) ++ plB Z (fun k => (z 1) (5 + k)) X.2) (ptB Z (z 7 0) (z 7 1) (z 7 2) tl ti ta tr t k ++ hiB Z (z 2 0) (z 2 1) (fun r => z (3 + r)) (svO o n) (svN n + 1) (svX o n Y X)) S w hl.1 (c_X4_cellAt l D Z ((z 1) 1) ((z 1) 2) ((z 1) 3) ((z 1) 4) X.1 na nb nd (by omega) (by omega) (by omega)) (by simp only [List.append_assoc, List.nil_append, List.append_nil]) gX7_setEffect_X4_cellAt rfl hdV_X4_cellAt ⟨Nat.le_of_ble_eq_true rfl, Nat.le_of_ble_eq_true rfl⟩ (q0 := 0) rfl rfl rfl rfl (Nat.le_of_ble_eq_true rfl) ⟨Nat.le_of_ble_eq_true rfl, Nat.le_of_ble_eq_true rfl⟩ dX7_setEffect_43 (fun H locs w => ?_)
        refine lv_istore (lv' := [(6, vI (pk (X.1.1 (cix na nb nd)))), (0, .ref (z 0 0)), (1, vI na), (2, vI nb), (3, vI nd), (4, vI nn), (5, vI nv)]) S.1 S.2.1 dX7_setEffect_46 hl (by decide) rfl (fun ls hl => ?_)
        refine lv_iload S.1 S.2.1 dX7_setEffect_48 (lv_at hl 0 rfl) ?_
        refine nv_pSi (rest := []) S w hl.1 (c_X0_noteOf l D Z (X.1.1 (cix na nb nd)) (hX.1.1 _ (cix_lt hna hnb hnd))) gX7_setEffect_X0_noteOf rfl hdS_X0_noteOf ⟨Nat.le_of_ble_eq_true rfl, Nat.le_of_ble_eq_true rfl⟩ rfl rfl (Nat.le_of_ble_eq_true rfl) ⟨Nat.le_of_ble_eq_true rfl, Nat.le_of_ble_eq_true rfl⟩ dX7_setEffect_50 (fun H locs w => ?_)
        refine lv_iload S.1 S.2.1 dX7_setEffect_53 (lv_at hl 0 rfl) ?_
        refine nv_pSi (rest := [vI ((X.1.1 (cix na nb nd)) 0)]) S w hl.1 (c_X0_volumeOf l D Z (X.1.1 (cix na nb nd)) (hX.1.1 _ (cix_lt hna hnb hnd))) gX7_setEffect_X0_volumeOf rfl hdS_X0_volumeOf ⟨Nat.le_of_ble_eq_true rfl, Nat.le_of_ble_eq_true rfl⟩ rfl rfl (Nat.le_of_ble_eq_true rfl) ⟨Nat.le_of_ble_eq_true rfl, Nat.le_of_ble_eq_true rfl⟩ dX7_setEffect_55 (fun H locs w => ?_)
        refine lv_iload S.1 S.2.1 dX7_setEffect_58 (lv_at hl 5 rfl) ?_
        refine lv_iload S.1 S.2.1 dX7_setEffect_60 (lv_at hl 6 rfl) ?_
        refine nv_pSi (rest := []) S w hl.1 (c_X0_packed l D Z ((X.1.1 (cix na nb nd)) 0) ((X.1.1 (cix na nb nd)) 1) nn nv (by have := hX.1.1 _ (cix_lt hna hnb hnd); unfold RB at this; omega)) gX7_setEffect_X0_packed rfl hdS_X0_packed ⟨Nat.le_of_ble_eq_true rfl, Nat.le_of_ble_eq_true rfl⟩ rfl rfl (Nat.le_of_ble_eq_true rfl) ⟨Nat.le_of_ble_eq_true rfl, Nat.le_of_ble_eq_true rfl⟩ dX7_setEffect_62 (fun H locs w => ?_)
        refine W.eq (g2 := F0 m 65 ls [vI (pk (cel (X.1.1 (cix na nb nd) 0) (X.1.1 (cix na nb nd) 1) nn nv))]) (by rw [pk_cel]) ?_
        refine lv_istore (lv' := [(7, vI (pk (cel (X.1.1 (cix na nb nd) 0) (X.1.1 (cix na nb nd) 1) nn nv))), (6, vI (pk (X.1.1 (cix na nb nd)))), (0, .ref (z 0 0)), (1, vI na), (2, vI nb), (3, vI nd), (4, vI nn), (5, vI nv)]) S.1 S.2.1 dX7_setEffect_65 hl (by decide) rfl (fun ls hl => ?_)
        refine lv_aload_n S.1 S.2.1 dX7_setEffect_67 rfl (lv_at hl 2 rfl) ?_
        refine nv_get S w (C := RX7) (T := TX7) (N := 4) hn_X7_setEffect_7 0 rfl rfl 0 (by decide) (List.mem_of_getElem? (i := 2) rfl) (v := .ref (z 1 0)) rfl dX7_setEffect_68 ?_
        refine nv_get S w (C := RX5) (T := TX5) (N := 2) hn_X7_setEffect_5 15 rfl rfl 0 (by decide) (List.mem_of_getElem? (i := 3) rfl) (v := .ref ((z 1) 1)) rfl dX7_setEffect_71 ?_
        refine lv_iload_n S.1 S.2.1 dX7_setEffect_74 rfl (lv_at hl 3 rfl) ?_
        refine lv_iload_n S.1 S.2.1 dX7_setEffect_75 rfl (lv_at hl 4 rfl) ?_
        refine lv_iload_n S.1 S.2.1 dX7_setEffect_76 rfl (lv_at hl 5 rfl) ?_
        refine lv_iload S.1 S.2.1 dX7_setEffect_77 (lv_at hl 0 rfl) ?_
        refine nv_fVv (rest := []) (tpO Z z ++ plB Z (z 8) P9 ++ stO Z ((z 1) 0) ((z 1) 1) ((z 1) 5) ++ plB Z (fun k => (z 1) (5 + k)) X.2) (ptB Z (z 7 0) (z 7 1) (z 7 2) tl ti ta tr t k ++ hiB Z (z 2 0) (z 2 1) (fun r => z (3 + r)) (svO o n) (svN n + 1) (svX o n Y X)) (ws' := tpO Z z ++ plB Z (z 8) P9 ++ stO Z ((z 1) 0) ((z 1) 1) ((z 1) 5) ++ plB Z (fun k => (z 1) (5 + k)) X.2 ++ songB Z ((z 1) 1) ((z 1) 2) ((z 1) 3) ((z 1) 4) (uc X.1.1 (cix na nb nd) (cel (X.1.1 (cix na nb nd) 0) (X.1.1 (cix na nb nd) 1) nn nv), X.1.2) ++ ptB Z (z 7 0) (z 7 1) (z 7 2) tl ti ta tr t k ++ hiB Z (z 2 0) (z 2 1) (fun r => z (3 + r)) (svO o n) (svN n + 1) (svX o n Y X)) S w hl.1 (c_X4_putCell l D Z ((z 1) 1) ((z 1) 2) ((z 1) 3) ((z 1) 4) X.1 na nb nd (cel (X.1.1 (cix na nb nd) 0) (X.1.1 (cix na nb nd) 1) nn nv) (by omega) (by omega) (by omega)) (by simp only [List.append_assoc, List.nil_append, List.append_nil]) rfl (by simp only [List.append_assoc, List.nil_append, List.append_nil]) gX7_setEffect_X4_putCell rfl hdV_X4_putCell ⟨Nat.le_of_ble_eq_true rfl, Nat.le_of_ble_eq_true rfl⟩ (q0 := 0) rfl rfl rfl rfl (Nat.le_of_ble_eq_true rfl) ⟨Nat.le_of_ble_eq_true rfl, Nat.le_of_ble_eq_true rfl⟩ dX7_setEffect_79 (fun H locs w => ?_)
        refine lv_iload S.1 S.2.1 dX7_setEffect_82 (lv_at hl 1 rfl) ?_
        refine nv_pSi (rest := []) S w hl.1 (c_X0_effectOf l D Z (X.1.1 (cix na nb nd)) (hX.1.1 _ (cix_lt hna hnb hnd))) gX7_setEffect_X0_effectOf rfl hdS_X0_effectOf ⟨Nat.le_of_ble_eq_true rfl, Nat.le_of_ble_eq_true rfl⟩ rfl rfl (Nat.le_of_ble_eq_true rfl) ⟨Nat.le_of_ble_eq_true rfl, Nat.le_of_ble_eq_true rfl⟩ dX7_setEffect_84 (fun H locs w => ?_)
        exact nx_iret S w hr hlocks rfl ((xI_t h_1).trans ((xI_t h_2).trans ((xI_t h_3).trans (rfl)))) (by simp only [eqna, eqnb, eqnd, eqnn, eqnv]) (by simp only [eqna, eqnb, eqnd, eqnn, eqnv, stB, List.append_assoc, stEff]) (Nat.le_of_ble_eq_true rfl) (Nat.le_of_ble_eq_true rfl) dX7_setEffect_87

theorem hdS_X7_requireIndex : yX7_requireIndex.cls ≠ "java/lang/invoke/MethodHandle" ∧ yX7_requireIndex.cls ≠ "java/lang/invoke/VarHandle" ∧ (parseMethodDescriptor yX7_requireIndex.desc).map (fun d => d.parameters.length) = some 2 := by decide +kernel
theorem hn_X7_setRows_7 : ∀ w ∈ wsX70, w ∈ wsX7_setRows := by decide +kernel
theorem hn_X7_setRows_5 : ∀ w ∈ wsX50, w ∈ wsX7_setRows := by decide +kernel
theorem hdV_X4_putRows : yX4_putRows.cls = RX4 ∧ yX4_putRows.cls ≠ "java/lang/invoke/MethodHandle" ∧ yX4_putRows.cls ≠ "java/lang/invoke/VarHandle" ∧ (parseMethodDescriptor yX4_putRows.desc).map (fun d => d.parameters.length) = some 2 := by decide +kernel
set_option maxRecDepth 100000 in
set_option maxHeartbeats 4000000 in
theorem c_X7_setRows (l : Launch) (hst : l.stackTraces = false) (D : va_G) (Z : Nat → ClassId) (z : Nat → Nat → Nat) (X : ST) (o n : Nat) (Y : Nat → ST) (tl ti ta tr : Nat) (t : Nat → Nat) (k : Nat → Nat → Nat) (P9 : PG) (xa xn : Int32) (ho : o < 4) (hn : n ≤ 4) (hX : XB X) : Xi l yX7_setRows wsX7_setRows 7 111 2 12 D Z [.ref (z 0 0), .int xa, .int xn] (tpO Z z ++ plB Z (z 8) P9 ++ stB Z (z 1) X ++ ptB Z (z 7 0) (z 7 1) (z 7 2) tl ti ta tr t k ++ hiB Z (z 2 0) (z 2 1) (fun r => z (3 + r)) o n Y) (xI (ixI 6 xa) eIX (xI (rgI 1 8 xn) eIA none)) (nI (X.1.2.1 (toN xa))) (tpO Z z ++ plB Z (z 8) P9 ++ stB Z (z 1) (stRows X (toN xa) (toN xn)) ++ ptB Z (z 7 0) (z 7 1) (z 7 2) tl ti ta tr t k ++ hiB Z (z 2 0) (z 2 1) (fun r => z (3 + r)) (svO o n) (svN n + 1) (svX o n Y X)) := by
  refine nxe_i (cc := cX7_setRows) (maxL := 4) (by decide +kernel) rfl (Nat.le_of_ble_eq_true rfl) (fun p e s m args below meth c A ls (S : CallFix p m c cX7_setRows 4 s args wsX7_setRows RX7) hr hlocks htab X9 hl w => ?_)
  have hl : lv_has ls 4 [(0, .ref (z 0 0)), (1, .int xa), (2, .int xn)] := hl
  refine lv_iload_n S.1 S.2.1 dX7_setRows_0 rfl (lv_at hl 1 rfl) ?_
  refine lv_bipush (v := nI 6) S.1 S.2.1 dX7_setRows_1 (by decide +kernel) ?_
  refine nx_pSv (rest := []) S w X9 hl.1 (c_X7_requireIndex l hst D Z xa 6 ) gX7_setRows_X7_requireIndex rfl hdS_X7_requireIndex ⟨Nat.le_of_ble_eq_true rfl, Nat.le_of_ble_eq_true rfl⟩ rfl rfl (Nat.le_of_ble_eq_true rfl) ⟨Nat.le_of_ble_eq_true rfl, Nat.le_of_ble_eq_true rfl⟩ dX7_setRows_3 (fun E9 ce q9 H locs hE w hc9 hv9 hf9 => ?_) (fun hN H locs w => ?_)
  · exact nx_out w htab hlocks hc9 hv9 hf9 (xI_f (xI_no hE)) (Nat.le_of_ble_eq_true rfl) (Nat.le_of_ble_eq_true rfl)
  · skip
    have h_1 := xI_yes hN
    refine lv_iload_n S.1 S.2.1 dX7_setRows_6 rfl (lv_at hl 2 rfl) ?_
    refine lv_iconst (v := nI 1) S.1 S.2.1 dX7_setRows_7 (ofInt_nI 1) ?_
    refine lv_bipush (v := nI 8) S.1 S.2.1 dX7_setRows_8 (by decide +kernel) ?_
    refine nx_pSv (rest := []) S w X9 hl.1 (c_X7_requireRange l hst D Z xn 1 8 ) gX7_setRows_X7_requireRange rfl hdS_X7_requireRange ⟨Nat.le_of_ble_eq_true rfl, Nat.le_of_ble_eq_true rfl⟩ rfl rfl (Nat.le_of_ble_eq_true rfl) ⟨Nat.le_of_ble_eq_true rfl, Nat.le_of_ble_eq_true rfl⟩ dX7_setRows_10 (fun E9 ce q9 H locs hE w hc9 hv9 hf9 => ?_) (fun hN H locs w => ?_)
    · exact nx_out w htab hlocks hc9 hv9 hf9 ((xI_t h_1).trans (xI_f (xI_no hE))) (Nat.le_of_ble_eq_true rfl) (Nat.le_of_ble_eq_true rfl)
    · skip
      have h_2 := xI_yes hN
      obtain ⟨na, rfl, hna⟩ := ix_nat (by decide) h_1
      have eqna : toN (nI na) = na := toN_nI (by omega)
      obtain ⟨nn, rfl, hnn⟩ := rg_nat (by decide) (by decide) h_2
      have eqnn : toN (nI nn) = nn := toN_nI (by omega)
      refine lv_aload_n S.1 S.2.1 dX7_setRows_13 rfl (lv_at hl 0 rfl) ?_
      refine nv_get S w (C := RX7) (T := TX7) (N := 4) hn_X7_setRows_7 0 rfl rfl 1 (by decide) (List.mem_of_getElem? (i := 1) rfl) (v := .ref (z 2 0)) rfl dX7_setRows_14 ?_
      refine lv_aload_n S.1 S.2.1 dX7_setRows_17 rfl (lv_at hl 0 rfl) ?_
      refine nv_get S w (C := RX7) (T := TX7) (N := 4) hn_X7_setRows_7 0 rfl rfl 0 (by decide) (List.mem_of_getElem? (i := 2) rfl) (v := .ref (z 1 0)) rfl dX7_setRows_18 ?_
      have w := w.perm (ws' := tpO Z z ++ plB Z (z 8) P9 ++ hiB Z (z 2 0) (z 2 1) (fun r => z (3 + r)) o n Y ++ stB Z (z 1) X ++ ptB Z (z 7 0) (z 7 1) (z 7 2) tl ti ta tr t k) (List.Perm.trans sw2 (List.Perm.append_right _ sw2))
      refine nv_fVv (rest := []) (tpO Z z ++ plB Z (z 8) P9) (ptB Z (z 7 0) (z 7 1) (z 7 2) tl ti ta tr t k) (ws' := tpO Z z ++ plB Z (z 8) P9 ++ hiB Z (z 2 0) (z 2 1) (fun r => z (3 + r)) (svO o n) (svN n + 1) (svX o n Y X) ++ stB Z (z 1) X ++ ptB Z (z 7 0) (z 7 1) (z 7 2) tl ti ta tr t k) S w hl.1 (c_X1_save l D Z (z 2 0) (z 2 1) (fun r => z (3 + r)) o n Y (z 1) X (by omega) (by omega)) (by simp only [List.append_assoc, List.nil_append, List.append_nil]) rfl (by simp only [List.append_assoc, List.nil_append, List.append_nil]) gX7_setRows_X1_save rfl hdV_X1_save ⟨Nat.le_of_ble_eq_true rfl, Nat.le_of_ble_eq_true rfl⟩ (q0 := 0) rfl rfl rfl rfl (Nat.le_of_ble_eq_true rfl) ⟨Nat.le_of_ble_eq_true rfl, Nat.le_of_ble_eq_true rfl⟩ dX7_setRows_21 (fun H locs w => ?_)
      have w := w.perm (ws' := tpO Z z ++ plB Z (z 8) P9 ++ stB Z (z 1) X ++ ptB Z (z 7 0) (z 7 1) (z 7 2) tl ti ta tr t k ++ hiB Z (z 2 0) (z 2 1) (fun r => z (3 + r)) (svO o n) (svN n + 1) (svX o n Y X)) (List.Perm.trans (List.Perm.append_right _ sw2) sw2)
      have w := w.as (ws' := tpO Z z ++ plB Z (z 8) P9 ++ stO Z ((z 1) 0) ((z 1) 1) ((z 1) 5) ++ plB Z (fun k => (z 1) (5 + k)) X.2 ++ songB Z ((z 1) 1) ((z 1) 2) ((z 1) 3) ((z 1) 4) X.1 ++ ptB Z (z 7 0) (z 7 1) (z 7 2) tl ti ta tr t k ++ hiB Z (z 2 0) (z 2 1) (fun r => z (3 + r)) (svO o n) (svN n + 1) (svX o n Y X)) (by simp only [stB, List.append_assoc])
      refine lv_aload_n S.1 S.2.1 dX7_setRows_24 rfl (lv_at hl 0 rfl) ?_
      refine nv_get S w (C := RX7) (T := TX7) (N := 4) hn_X7_setRows_7 0 rfl rfl 0 (by decide) (List.mem_of_getElem? (i := 2) rfl) (v := .ref (z 1 0)) rfl dX7_setRows_25 ?_
      refine nv_get S w (C := RX5) (T := TX5) (N := 2) hn_X7_setRows_5 15 rfl rfl 0 (by decide) (List.mem_of_getElem? (i := 3) rfl) (v := .ref ((z 1) 1)) rfl dX7_setRows_28 ?_
      refine lv_iload_n S.1 S.2.1 dX7_setRows_31 rfl (lv_at hl 1 rfl) ?_
      refine nv_gVi (rest := []) (tpO Z z ++ plB Z (z 8) P9 ++ stO Z ((z 1) 0) ((z 1) 1) ((z 1) 5) ++ plB Z (fun k => (z 1) (5 + k)) X.2) (ptB Z (z 7 0) (z 7 1) (z 7 2) tl ti ta tr t k ++ hiB Z (z 2 0) (z 2 1) (fun r => z (3 + r)) (svO o n) (svN n + 1) (svX o n Y X)) S w hl.1 (c_X4_rowsOf l D Z ((z 1) 1) ((z 1) 2) ((z 1) 3) ((z 1) 4) X.1 na (by omega)) (by simp only [List.append_assoc, List.nil_append, List.append_nil]) gX7_setRows_X4_rowsOf rfl hdV_X4_rowsOf ⟨Nat.le_of_ble_eq_true rfl, Nat.le_of_ble_eq_true rfl⟩ (q0 := 0) rfl rfl rfl rfl (Nat.le_of_ble_eq_true rfl) ⟨Nat.le_of_ble_eq_true rfl, Nat.le_of_ble_eq_true rfl⟩ dX7_setRows_32 (fun H locs w => ?_)
      refine lv_istore_n (lv' := [(3, vI (X.1.2.1 na)), (0, .ref (z 0 0)), (1, vI na), (2, vI nn)]) S.1 S.2.1 dX7_setRows_35 rfl hl (by decide) rfl (fun ls hl => ?_)
      refine lv_aload_n S.1 S.2.1 dX7_setRows_36 rfl (lv_at hl 1 rfl) ?_
      refine nv_get S w (C := RX7) (T := TX7) (N := 4) hn_X7_setRows_7 0 rfl rfl 0 (by decide) (List.mem_of_getElem? (i := 2) rfl) (v := .ref (z 1 0)) rfl dX7_setRows_37 ?_
      refine nv_get S w (C := RX5) (T := TX5) (N := 2) hn_X7_setRows_5 15 rfl rfl 0 (by decide) (List.mem_of_getElem? (i := 3) rfl) (v := .ref ((z 1) 1)) rfl dX7_setRows_40 ?_
      refine lv_iload_n S.1 S.2.1 dX7_setRows_43 rfl (lv_at hl 2 rfl) ?_
      refine lv_iload_n S.1 S.2.1 dX7_setRows_44 rfl (lv_at hl 3 rfl) ?_
      refine nv_fVv (rest := []) (tpO Z z ++ plB Z (z 8) P9 ++ stO Z ((z 1) 0) ((z 1) 1) ((z 1) 5) ++ plB Z (fun k => (z 1) (5 + k)) X.2) (ptB Z (z 7 0) (z 7 1) (z 7 2) tl ti ta tr t k ++ hiB Z (z 2 0) (z 2 1) (fun r => z (3 + r)) (svO o n) (svN n + 1) (svX o n Y X)) (ws' := tpO Z z ++ plB Z (z 8) P9 ++ stO Z ((z 1) 0) ((z 1) 1) ((z 1) 5) ++ plB Z (fun k => (z 1) (5 + k)) X.2 ++ songB Z ((z 1) 1) ((z 1) 2) ((z 1) 3) ((z 1) 4) (X.1.1, un X.1.2.1 na nn, X.1.2.2) ++ ptB Z (z 7 0) (z 7 1) (z 7 2) tl ti ta tr t k ++ hiB Z (z 2 0) (z 2 1) (fun r => z (3 + r)) (svO o n) (svN n + 1) (svX o n Y X)) S w hl.1 (c_X4_putRows l D Z ((z 1) 1) ((z 1) 2) ((z 1) 3) ((z 1) 4) X.1 na nn (by omega)) (by simp only [List.append_assoc, List.nil_append, List.append_nil]) rfl (by simp only [List.append_assoc, List.nil_append, List.append_nil]) gX7_setRows_X4_putRows rfl hdV_X4_putRows ⟨Nat.le_of_ble_eq_true rfl, Nat.le_of_ble_eq_true rfl⟩ (q0 := 0) rfl rfl rfl rfl (Nat.le_of_ble_eq_true rfl) ⟨Nat.le_of_ble_eq_true rfl, Nat.le_of_ble_eq_true rfl⟩ dX7_setRows_45 (fun H locs w => ?_)
      refine lv_iload_n S.1 S.2.1 dX7_setRows_48 rfl (lv_at hl 0 rfl) ?_
      exact nx_iret S w hr hlocks rfl ((xI_t h_1).trans ((xI_t h_2).trans (rfl))) (by simp only [eqna, eqnn]) (by simp only [eqna, eqnn, stB, List.append_assoc, stRows]) (Nat.le_of_ble_eq_true rfl) (Nat.le_of_ble_eq_true rfl) dX7_setRows_49
