set_option maxRecDepth 100000 in
set_option maxHeartbeats 4000000 in
theorem c_X7_isCell (l : Launch) (D : va_G) (Z : Nat → ClassId) (x y z : Int32)  : Ci l yX7_isCell wsX7_isCell 0 0 D Z [.int x, .int y, .int z] ([]) (nI (bP (¬ x < 0 ∧ ¬ nI 6 ≤ x ∧ ¬ y < 0 ∧ ¬ nI 8 ≤ y ∧ ¬ z < 0 ∧ ¬ nI 4 ≤ z))) ([]) := by
  refine ne_i (cc := cX7_isCell) (maxL := 3) (by decide +kernel) rfl (Nat.le_of_ble_eq_true rfl) (fun p e s m args below meth c A ls (S : CallFix p m c cX7_isCell 3 s args wsX7_isCell RX7) hr hlocks hl w => ?_)
  have hl : lv_has ls 3 [(0, .int x), (1, .int y), (2, .int z)] := hl
  refine lv_iload_n S.1 S.2.1 dX7_isCell_0 rfl (lv_at hl 0 rfl) ?_
  refine lv_if_lt S.1 S.2.1 (tgt := 33) dX7_isCell_1 (by decide) (fun h_1 => ?_) (fun h_1 => ?_)
  · skip
    refine lv_iconst (v := nI 0) S.1 S.2.1 dX7_isCell_33 (ofInt_nI 0) ?_
    exact nv_iret S w hr hlocks (nI_bool (by decide)) (by rw [bP_f (fun z9 => z9.1 h_1)]) rfl dX7_isCell_34
  · skip
    refine lv_iload_n S.1 S.2.1 dX7_isCell_4 rfl (lv_at hl 0 rfl) ?_
    refine lv_bipush (v := nI 6) S.1 S.2.1 dX7_isCell_5 (by decide +kernel) ?_
    refine lv_icmp_ge S.1 S.2.1 (tgt := 33) dX7_isCell_7 (by decide) (fun h_2 => ?_) (fun h_2 => ?_)
    · skip
      refine lv_iconst (v := nI 0) S.1 S.2.1 dX7_isCell_33 (ofInt_nI 0) ?_
      exact nv_iret S w hr hlocks (nI_bool (by decide)) (by rw [bP_f (fun z9 => z9.2.1 h_2)]) rfl dX7_isCell_34
    · skip
      refine lv_iload_n S.1 S.2.1 dX7_isCell_10 rfl (lv_at hl 1 rfl) ?_
      refine lv_if_lt S.1 S.2.1 (tgt := 33) dX7_isCell_11 (by decide) (fun h_3 => ?_) (fun h_3 => ?_)
      · skip
        refine lv_iconst (v := nI 0) S.1 S.2.1 dX7_isCell_33 (ofInt_nI 0) ?_
        exact nv_iret S w hr hlocks (nI_bool (by decide)) (by rw [bP_f (fun z9 => z9.2.2.1 h_3)]) rfl dX7_isCell_34
      · skip
        refine lv_iload_n S.1 S.2.1 dX7_isCell_14 rfl (lv_at hl 1 rfl) ?_
        refine lv_bipush (v := nI 8) S.1 S.2.1 dX7_isCell_15 (by decide +kernel) ?_
        refine lv_icmp_ge S.1 S.2.1 (tgt := 33) dX7_isCell_17 (by decide) (fun h_4 => ?_) (fun h_4 => ?_)
        · skip
          refine lv_iconst (v := nI 0) S.1 S.2.1 dX7_isCell_33 (ofInt_nI 0) ?_
          exact nv_iret S w hr hlocks (nI_bool (by decide)) (by rw [bP_f (fun z9 => z9.2.2.2.1 h_4)]) rfl dX7_isCell_34
        · skip
          refine lv_iload_n S.1 S.2.1 dX7_isCell_20 rfl (lv_at hl 2 rfl) ?_
          refine lv_if_lt S.1 S.2.1 (tgt := 33) dX7_isCell_21 (by decide) (fun h_5 => ?_) (fun h_5 => ?_)
          · skip
            refine lv_iconst (v := nI 0) S.1 S.2.1 dX7_isCell_33 (ofInt_nI 0) ?_
            exact nv_iret S w hr hlocks (nI_bool (by decide)) (by rw [bP_f (fun z9 => z9.2.2.2.2.1 h_5)]) rfl dX7_isCell_34
          · skip
            refine lv_iload_n S.1 S.2.1 dX7_isCell_24 rfl (lv_at hl 2 rfl) ?_
            refine lv_iconst (v := nI 4) S.1 S.2.1 dX7_isCell_25 (ofInt_nI 4) ?_
            refine lv_icmp_ge S.1 S.2.1 (tgt := 33) dX7_isCell_26 (by decide) (fun h_6 => ?_) (fun h_6 => ?_)
            · skip
              refine lv_iconst (v := nI 0) S.1 S.2.1 dX7_isCell_33 (ofInt_nI 0) ?_
              exact nv_iret S w hr hlocks (nI_bool (by decide)) (by rw [bP_f (fun z9 => z9.2.2.2.2.2 h_6)]) rfl dX7_isCell_34
            · skip
              refine lv_iconst (v := nI 1) S.1 S.2.1 dX7_isCell_29 (ofInt_nI 1) ?_
              refine lv_goto (tgt := 34) S.1 S.2.1 dX7_isCell_30 (by decide) ?_
              exact nv_iret S w hr hlocks (nI_bool (by decide)) (by rw [bP_t ⟨h_1, h_2, h_3, h_4, h_5, h_6⟩]) rfl dX7_isCell_34

theorem nI_nn {a b : Nat} (ha : a < 2 ^ 31) (hb : b < 2 ^ 31) : (¬ nI a < 0 ∧ ¬ nI b ≤ nI a) ↔ a < b :=
  ⟨fun z => Nat.lt_of_not_le fun q => z.2 ((nI_leI hb ha).mpr q), fun z => ⟨nI_pos ha, fun q => absurd ((nI_leI hb ha).mp q) (Nat.not_le.mpr z)⟩⟩
theorem c_X7_isCellN (l : Launch) (D : va_G) (Z : Nat → ClassId) (a b d : Nat) (ha : a < 2 ^ 31) (hb : b < 2 ^ 31) (hd : d < 2 ^ 31) : Ci l yX7_isCell wsX7_isCell 0 0 D Z [vI a, vI b, vI d] [] (nI (bP (a < 6 ∧ b < 8 ∧ d < 4))) [] := by
  have h := c_X7_isCell l D Z (nI a) (nI b) (nI d)
  have h1 := nI_nn (b := 6) ha (by decide)
  have h2 := nI_nn (b := 8) hb (by decide)
  have h3 := nI_nn (b := 4) hd (by decide)
  rwa [bP_congr (P := ¬ nI a < 0 ∧ ¬ nI 6 ≤ nI a ∧ ¬ nI b < 0 ∧ ¬ nI 8 ≤ nI b ∧ ¬ nI d < 0 ∧ ¬ nI 4 ≤ nI d) (Q := a < 6 ∧ b < 8 ∧ d < 4) ⟨fun z => ⟨h1.mp ⟨z.1, z.2.1⟩, h2.mp ⟨z.2.2.1, z.2.2.2.1⟩, h3.mp z.2.2.2.2⟩, fun z => ⟨(h1.mpr z.1).1, (h1.mpr z.1).2, (h2.mpr z.2.1).1, (h2.mpr z.2.1).2, h3.mpr z.2.2⟩⟩] at h

set_option maxRecDepth 100000 in
set_option maxHeartbeats 4000000 in
theorem c_X4_cellIndex (l : Launch) (D : va_G) (Z : Nat → ClassId) (a r d : Nat)  : Ci l yX4_cellIndex wsX4_cellIndex 0 0 D Z [vI a, vI r, vI d] ([]) (nI (cix a r d)) ([]) := by
  refine ne_i (cc := cX4_cellIndex) (maxL := 3) (by decide +kernel) rfl (Nat.le_of_ble_eq_true rfl) (fun p e s m args below meth c A ls (S : CallFix p m c cX4_cellIndex 3 s args wsX4_cellIndex RX4) hr hlocks hl w => ?_)
  have hl : lv_has ls 3 [(0, vI a), (1, vI r), (2, vI d)] := hl
  refine lv_iload_n S.1 S.2.1 dX4_cellIndex_0 rfl (lv_at hl 0 rfl) ?_
  refine lv_bipush (v := nI 8) S.1 S.2.1 dX4_cellIndex_1 (by decide +kernel) ?_
  refine nv_imul S dX4_cellIndex_3 ?_
  refine lv_iload_n S.1 S.2.1 dX4_cellIndex_4 rfl (lv_at hl 1 rfl) ?_
  refine nv_iadd S dX4_cellIndex_5 ?_
  refine lv_iconst (v := nI 4) S.1 S.2.1 dX4_cellIndex_6 (ofInt_nI 4) ?_
  refine nv_imul S dX4_cellIndex_7 ?_
  refine lv_iload_n S.1 S.2.1 dX4_cellIndex_8 rfl (lv_at hl 2 rfl) ?_
  refine nv_iadd S dX4_cellIndex_9 ?_
  exact nv_iret S w hr hlocks rfl rfl rfl dX4_cellIndex_10

theorem hdS_X7_isCell : yX7_isCell.cls ≠ "java/lang/invoke/MethodHandle" ∧ yX7_isCell.cls ≠ "java/lang/invoke/VarHandle" ∧ (parseMethodDescriptor yX7_isCell.desc).map (fun d => d.parameters.length) = some 3 := by decide +kernel
theorem hn_X4_cellAt_4 : ∀ w ∈ wsX40, w ∈ wsX4_cellAt := by decide +kernel
theorem hdS_X4_cellIndex : yX4_cellIndex.cls ≠ "java/lang/invoke/MethodHandle" ∧ yX4_cellIndex.cls ≠ "java/lang/invoke/VarHandle" ∧ (parseMethodDescriptor yX4_cellIndex.desc).map (fun d => d.parameters.length) = some 3 := by decide +kernel
set_option maxRecDepth 100000 in
set_option maxHeartbeats 4000000 in
theorem c_X4_cellAt (l : Launch) (D : va_G) (Z : Nat → ClassId) (q qc qw qo : Nat) (G : SG) (a r d : Nat) (ha : a < 6) (hr9 : r < 8) (hd : d < 4) : Ci l yX4_cellAt wsX4_cellAt 1 22 D Z [.ref q, vI a, vI r, vI d] (songB Z q qc qw qo G) (nI (pk (G.1 (cix a r d)))) (songB Z q qc qw qo G) := by
  refine ne_i (cc := cX4_cellAt) (maxL := 4) (by decide +kernel) rfl (Nat.le_of_ble_eq_true rfl) (fun p e s m args below meth c A ls (S : CallFix p m c cX4_cellAt 4 s args wsX4_cellAt RX4) hr hlocks hl w => ?_)
  have hl : lv_has ls 4 [(0, .ref q), (1, vI a), (2, vI r), (3, vI d)] := hl
  refine lv_iload_n S.1 S.2.1 dX4_cellAt_0 rfl (lv_at hl 1 rfl) ?_
  refine lv_iload_n S.1 S.2.1 dX4_cellAt_1 rfl (lv_at hl 2 rfl) ?_
  refine lv_iload_n S.1 S.2.1 dX4_cellAt_2 rfl (lv_at hl 3 rfl) ?_
  refine nv_pNi (rest := []) S w hl.1 (c_X7_isCellN l D Z a r d (by omega) (by omega) (by omega)) gX4_cellAt_X7_isCell_n33 rfl (kN := 4) rfl (List.mem_of_getElem? (i := 3) rfl) (List.mem_of_getElem? (i := 2) rfl) hdS_X7_isCell ⟨Nat.le_of_ble_eq_true rfl, Nat.le_of_ble_eq_true rfl⟩ rfl rfl (Nat.le_of_ble_eq_true rfl) ⟨Nat.zero_le _, Nat.zero_le _⟩ dX4_cellAt_3 (fun H locs w => ?_)
  refine nv_if_eqB S (tgt := 23) dX4_cellAt_6 (by decide) (fun h_1 => ?_) (fun h_1 => ?_)
  · skip
    exfalso; omega
  · skip
    refine lv_aload_n S.1 S.2.1 dX4_cellAt_9 rfl (lv_at hl 0 rfl) ?_
    refine nv_get S w (C := RX4) (T := TX4) (N := 4) hn_X4_cellAt_4 0 rfl rfl 0 (by decide) (List.mem_of_getElem? (i := 1) rfl) (v := .ref qc) rfl dX4_cellAt_10 ?_
    refine lv_iload_n S.1 S.2.1 dX4_cellAt_13 rfl (lv_at hl 1 rfl) ?_
    refine lv_iload_n S.1 S.2.1 dX4_cellAt_14 rfl (lv_at hl 2 rfl) ?_
    refine lv_iload_n S.1 S.2.1 dX4_cellAt_15 rfl (lv_at hl 3 rfl) ?_
    refine nv_pSi (rest := [.ref qc]) S w hl.1 (c_X4_cellIndex l D Z a r d ) gX4_cellAt_X4_cellIndex rfl hdS_X4_cellIndex ⟨Nat.le_of_ble_eq_true rfl, Nat.le_of_ble_eq_true rfl⟩ rfl rfl (Nat.le_of_ble_eq_true rfl) ⟨Nat.zero_le _, Nat.zero_le _⟩ dX4_cellAt_16 (fun H locs w => ?_)
    refine nv_iald S w (i := (cix a r d)) (g := (fun i => pk (G.1 i))) 1 rfl (cix_lt ha hr9 hd) (by decide) dX4_cellAt_19 ?_
    refine W.eq (g2 := F0 m 20 ls [vI (pk (G.1 (cix a r d)))]) rfl ?_
    refine lv_goto (tgt := 26) S.1 S.2.1 dX4_cellAt_20 (by decide) ?_
    exact nv_iret S w hr hlocks rfl rfl rfl dX4_cellAt_26

theorem hn_X4_putCell_4 : ∀ w ∈ wsX40, w ∈ wsX4_putCell := by decide +kernel
set_option maxRecDepth 100000 in
set_option maxHeartbeats 4000000 in
theorem c_X4_putCell (l : Launch) (D : va_G) (Z : Nat → ClassId) (q qc qw qo : Nat) (G : SG) (a r d : Nat) (k : Nat → Nat) (ha : a < 6) (hr9 : r < 8) (hd : d < 4) : Cv l yX4_putCell wsX4_putCell 1 22 D Z [.ref q, vI a, vI r, vI d, vI (pk k)] (songB Z q qc qw qo G)  (songB Z q qc qw qo (uc G.1 (cix a r d) k, G.2)) := by
  refine ne_v (cc := cX4_putCell) (maxL := 5) (by decide +kernel) rfl (Nat.le_of_ble_eq_true rfl) (fun p e s m args below meth c A ls (S : CallFix p m c cX4_putCell 5 s args wsX4_putCell RX4) hr hlocks hl w => ?_)
  have hl : lv_has ls 5 [(0, .ref q), (1, vI a), (2, vI r), (3, vI d), (4, vI (pk k))] := hl
  refine lv_iload_n S.1 S.2.1 dX4_putCell_0 rfl (lv_at hl 1 rfl) ?_
  refine lv_iload_n S.1 S.2.1 dX4_putCell_1 rfl (lv_at hl 2 rfl) ?_
  refine lv_iload_n S.1 S.2.1 dX4_putCell_2 rfl (lv_at hl 3 rfl) ?_
  refine nv_pNi (rest := []) S w hl.1 (c_X7_isCellN l D Z a r d (by omega) (by omega) (by omega)) gX4_putCell_X7_isCell_n33 rfl (kN := 4) rfl (List.mem_of_getElem? (i := 3) rfl) (List.mem_of_getElem? (i := 2) rfl) hdS_X7_isCell ⟨Nat.le_of_ble_eq_true rfl, Nat.le_of_ble_eq_true rfl⟩ rfl rfl (Nat.le_of_ble_eq_true rfl) ⟨Nat.zero_le _, Nat.zero_le _⟩ dX4_putCell_3 (fun H locs w => ?_)
  refine nv_if_eqB S (tgt := 22) dX4_putCell_6 (by decide) (fun h_1 => ?_) (fun h_1 => ?_)
  · skip
    exfalso; omega
  · skip
    refine lv_aload_n S.1 S.2.1 dX4_putCell_9 rfl (lv_at hl 0 rfl) ?_
    refine nv_get S w (C := RX4) (T := TX4) (N := 4) hn_X4_putCell_4 0 rfl rfl 0 (by decide) (List.mem_of_getElem? (i := 1) rfl) (v := .ref qc) rfl dX4_putCell_10 ?_
    refine lv_iload_n S.1 S.2.1 dX4_putCell_13 rfl (lv_at hl 1 rfl) ?_
    refine lv_iload_n S.1 S.2.1 dX4_putCell_14 rfl (lv_at hl 2 rfl) ?_
    refine lv_iload_n S.1 S.2.1 dX4_putCell_15 rfl (lv_at hl 3 rfl) ?_
    refine nv_pSi (rest := [.ref qc]) S w hl.1 (c_X4_cellIndex l D Z a r d ) gX4_putCell_X4_cellIndex rfl hdS_X4_cellIndex ⟨Nat.le_of_ble_eq_true rfl, Nat.le_of_ble_eq_true rfl⟩ rfl rfl (Nat.le_of_ble_eq_true rfl) ⟨Nat.zero_le _, Nat.zero_le _⟩ dX4_putCell_16 (fun H locs w => ?_)
    refine lv_iload S.1 S.2.1 dX4_putCell_19 (lv_at hl 4 rfl) ?_
    refine nv_iast S w (i := (cix a r d)) (x := (pk k)) (g := (fun i => pk (G.1 i))) 1 rfl (cix_lt ha hr9 hd) (by decide) (ws' := [(q, .inr (3, [.ref qc, .ref qw, .ref qo, vI G.2.2.2])), (qc, .inl (Z 0, 192, .inl (ar 192 (un (fun i => pk (G.1 i)) (cix a r d) (pk k))))), (qw, .inl (Z 0, 6, .inl (ar 6 G.2.1))), (qo, .inl (Z 0, 8, .inl (ar 8 G.2.2.1)))]) rfl dX4_putCell_21 (fun H locs w => ?_)
    exact nv_vret S w hr hlocks (by apply songB_mk <;> first | rfl | (intro j hj; rfl) | (intro j hj; simp only [uc, un_at]; split <;> rfl)) dX4_putCell_22

theorem hn_X4_rowsOf_4 : ∀ w ∈ wsX40, w ∈ wsX4_rowsOf := by decide +kernel
set_option maxRecDepth 100000 in
set_option maxHeartbeats 4000000 in
theorem c_X4_rowsOf (l : Launch) (D : va_G) (Z : Nat → ClassId) (q qc qw qo : Nat) (G : SG) (a : Nat) (ha : a < 6) : Ci l yX4_rowsOf wsX4_rowsOf 1 21 D Z [.ref q, vI a] (songB Z q qc qw qo G) (nI (G.2.1 a)) (songB Z q qc qw qo G) := by
  refine ne_i (cc := cX4_rowsOf) (maxL := 2) (by decide +kernel) rfl (Nat.le_of_ble_eq_true rfl) (fun p e s m args below meth c A ls (S : CallFix p m c cX4_rowsOf 2 s args wsX4_rowsOf RX4) hr hlocks hl w => ?_)
  have hl : lv_has ls 2 [(0, .ref q), (1, vI a)] := hl
  refine lv_iload_n S.1 S.2.1 dX4_rowsOf_0 rfl (lv_at hl 1 rfl) ?_
  refine lv_bipush (v := nI 6) S.1 S.2.1 dX4_rowsOf_1 (by decide +kernel) ?_
  refine nv_pNi (rest := []) S w hl.1 (c_X7_isIndexN l D Z a 6 (by omega) (by omega)) gX4_rowsOf_X7_isIndex_n41 rfl (kN := 5) rfl (List.mem_of_getElem? (i := 3) rfl) (List.mem_of_getElem? (i := 2) rfl) hdS_X7_isIndex ⟨Nat.le_of_ble_eq_true rfl, Nat.le_of_ble_eq_true rfl⟩ rfl rfl (Nat.le_of_ble_eq_true rfl) ⟨Nat.zero_le _, Nat.zero_le _⟩ dX4_rowsOf_3 (fun H locs w => ?_)
  refine nv_if_eqB S (tgt := 18) dX4_rowsOf_6 (by decide) (fun h_1 => ?_) (fun h_1 => ?_)
  · skip
    refine lv_iconst (v := nI 0) S.1 S.2.1 dX4_rowsOf_18 (ofInt_nI 0) ?_
    exact nv_iret S w hr hlocks rfl (by first | rfl | (simp [h_1]; done) | (congr 1; omega)) rfl dX4_rowsOf_19
  · skip
    refine lv_aload_n S.1 S.2.1 dX4_rowsOf_9 rfl (lv_at hl 0 rfl) ?_
    refine nv_get S w (C := RX4) (T := TX4) (N := 4) hn_X4_rowsOf_4 0 rfl rfl 1 (by decide) (List.mem_of_getElem? (i := 1) rfl) (v := .ref qw) rfl dX4_rowsOf_10 ?_
    refine lv_iload_n S.1 S.2.1 dX4_rowsOf_13 rfl (lv_at hl 1 rfl) ?_
    refine nv_iald S w (i := a) (g := G.2.1) 2 rfl (by omega) (by decide) dX4_rowsOf_14 ?_
    refine lv_goto (tgt := 19) S.1 S.2.1 dX4_rowsOf_15 (by decide) ?_
    exact nv_iret S w hr hlocks rfl rfl rfl dX4_rowsOf_19

theorem hn_X4_putRows_4 : ∀ w ∈ wsX40, w ∈ wsX4_putRows := by decide +kernel
set_option maxRecDepth 100000 in
set_option maxHeartbeats 4000000 in
theorem c_X4_putRows (l : Launch) (D : va_G) (Z : Nat → ClassId) (q qc qw qo : Nat) (G : SG) (a n : Nat) (ha : a < 6) : Cv l yX4_putRows wsX4_putRows 1 21 D Z [.ref q, vI a, vI n] (songB Z q qc qw qo G)  (songB Z q qc qw qo (G.1, un G.2.1 a n, G.2.2)) := by
  refine ne_v (cc := cX4_putRows) (maxL := 3) (by decide +kernel) rfl (Nat.le_of_ble_eq_true rfl) (fun p e s m args below meth c A ls (S : CallFix p m c cX4_putRows 3 s args wsX4_putRows RX4) hr hlocks hl w => ?_)
  have hl : lv_has ls 3 [(0, .ref q), (1, vI a), (2, vI n)] := hl
  refine lv_iload_n S.1 S.2.1 dX4_putRows_0 rfl (lv_at hl 1 rfl) ?_
  refine lv_bipush (v := nI 6) S.1 S.2.1 dX4_putRows_1 (by decide +kernel) ?_
  refine nv_pNi (rest := []) S w hl.1 (c_X7_isIndexN l D Z a 6 (by omega) (by omega)) gX4_putRows_X7_isIndex_n41 rfl (kN := 5) rfl (List.mem_of_getElem? (i := 3) rfl) (List.mem_of_getElem? (i := 2) rfl) hdS_X7_isIndex ⟨Nat.le_of_ble_eq_true rfl, Nat.le_of_ble_eq_true rfl⟩ rfl rfl (Nat.le_of_ble_eq_true rfl) ⟨Nat.zero_le _, Nat.zero_le _⟩ dX4_putRows_3 (fun H locs w => ?_)
  refine nv_if_eqB S (tgt := 16) dX4_putRows_6 (by decide) (fun h_1 => ?_) (fun h_1 => ?_)
  · skip
    exfalso; omega
  · skip
    refine lv_aload_n S.1 S.2.1 dX4_putRows_9 rfl (lv_at hl 0 rfl) ?_
    refine nv_get S w (C := RX4) (T := TX4) (N := 4) hn_X4_putRows_4 0 rfl rfl 1 (by decide) (List.mem_of_getElem? (i := 1) rfl) (v := .ref qw) rfl dX4_putRows_10 ?_
    refine lv_iload_n S.1 S.2.1 dX4_putRows_13 rfl (lv_at hl 1 rfl) ?_
    refine lv_iload_n S.1 S.2.1 dX4_putRows_14 rfl (lv_at hl 2 rfl) ?_
    refine nv_iast S w (i := a) (x := n) (g := G.2.1) 2 rfl (by omega) (by decide) (ws' := [(q, .inr (3, [.ref qc, .ref qw, .ref qo, vI G.2.2.2])), (qc, .inl (Z 0, 192, .inl (ar 192 (fun i => pk (G.1 i))))), (qw, .inl (Z 0, 6, .inl (ar 6 (un G.2.1 a n)))), (qo, .inl (Z 0, 8, .inl (ar 8 G.2.2.1)))]) rfl dX4_putRows_15 (fun H locs w => ?_)
    exact nv_vret S w hr hlocks (by apply songB_mk <;> first | rfl | (intro j hj; rfl) | (simp [un_at, h_1]; done) | (intro j hj; simp [un_at, h_1]; done)) dX4_putRows_16

theorem hn_X4_patternAt_4 : ∀ w ∈ wsX40, w ∈ wsX4_patternAt := by decide +kernel
set_option maxRecDepth 100000 in
set_option maxHeartbeats 4000000 in
theorem c_X4_patternAt (l : Launch) (D : va_G) (Z : Nat → ClassId) (q qc qw qo : Nat) (G : SG) (i : Nat) (hi9 : i < G.2.2.2) (hG : G.2.2.2 ≤ 8) : Ci l yX4_patternAt wsX4_patternAt 1 21 D Z [.ref q, vI i] (songB Z q qc qw qo G) (nI (G.2.2.1 i)) (songB Z q qc qw qo G) := by
  refine ne_i (cc := cX4_patternAt) (maxL := 2) (by decide +kernel) rfl (Nat.le_of_ble_eq_true rfl) (fun p e s m args below meth c A ls (S : CallFix p m c cX4_patternAt 2 s args wsX4_patternAt RX4) hr hlocks hl w => ?_)
  have hl : lv_has ls 2 [(0, .ref q), (1, vI i)] := hl
  refine lv_iload_n S.1 S.2.1 dX4_patternAt_0 rfl (lv_at hl 1 rfl) ?_
  refine lv_aload_n S.1 S.2.1 dX4_patternAt_1 rfl (lv_at hl 0 rfl) ?_
  refine nv_get S w (C := RX4) (T := TX4) (N := 4) hn_X4_patternAt_4 0 rfl rfl 3 (by decide) (List.mem_of_getElem? (i := 1) rfl) (v := vI G.2.2.2) rfl dX4_patternAt_2 ?_
  refine nv_pNi (rest := []) S w hl.1 (c_X7_isIndexN l D Z i G.2.2.2 (by omega) (by omega)) gX4_patternAt_X7_isIndex_n41 rfl (kN := 5) rfl (List.mem_of_getElem? (i := 4) rfl) (List.mem_of_getElem? (i := 3) rfl) hdS_X7_isIndex ⟨Nat.le_of_ble_eq_true rfl, Nat.le_of_ble_eq_true rfl⟩ rfl rfl (Nat.le_of_ble_eq_true rfl) ⟨Nat.zero_le _, Nat.zero_le _⟩ dX4_patternAt_5 (fun H locs w => ?_)
  refine nv_if_eqB S (tgt := 26) dX4_patternAt_8 (by decide) (fun h_1 => ?_) (fun h_1 => ?_)
  · skip
    exfalso; omega
  · skip
    refine lv_iload_n S.1 S.2.1 dX4_patternAt_11 rfl (lv_at hl 1 rfl) ?_
    refine lv_bipush (v := nI 8) S.1 S.2.1 dX4_patternAt_12 (by decide +kernel) ?_
    refine nv_icmp_ge S (by omega) (by omega) (tgt := 26) dX4_patternAt_14 (by decide) (fun h_2 => ?_) (fun h_2 => ?_)
    · skip
      exfalso; omega
    · skip
      refine lv_aload_n S.1 S.2.1 dX4_patternAt_17 rfl (lv_at hl 0 rfl) ?_
      refine nv_get S w (C := RX4) (T := TX4) (N := 4) hn_X4_patternAt_4 0 rfl rfl 2 (by decide) (List.mem_of_getElem? (i := 2) rfl) (v := .ref qo) rfl dX4_patternAt_18 ?_
      refine lv_iload_n S.1 S.2.1 dX4_patternAt_21 rfl (lv_at hl 1 rfl) ?_
      refine nv_iald S w (i := i) (g := G.2.2.1) 3 rfl (by omega) (by decide) dX4_patternAt_22 ?_
      refine lv_goto (tgt := 27) S.1 S.2.1 dX4_patternAt_23 (by decide) ?_
      exact nv_iret S w hr hlocks rfl rfl rfl dX4_patternAt_27

theorem hn_X4_putPlace_4 : ∀ w ∈ wsX40, w ∈ wsX4_putPlace := by decide +kernel
set_option maxRecDepth 100000 in
set_option maxHeartbeats 4000000 in
theorem c_X4_putPlace (l : Launch) (D : va_G) (Z : Nat → ClassId) (q qc qw qo : Nat) (G : SG) (i a : Nat) (hi9 : i < 8) (hG : G.2.2.2 ≤ 8) : Cv l yX4_putPlace wsX4_putPlace 1 21 D Z [.ref q, vI i, vI a] (songB Z q qc qw qo G)  (songB Z q qc qw qo (G.1, G.2.1, un G.2.2.1 i a, max G.2.2.2 (i + 1))) := by
  refine ne_v (cc := cX4_putPlace) (maxL := 3) (by decide +kernel) rfl (Nat.le_of_ble_eq_true rfl) (fun p e s m args below meth c A ls (S : CallFix p m c cX4_putPlace 3 s args wsX4_putPlace RX4) hr hlocks hl w => ?_)
  have hl : lv_has ls 3 [(0, .ref q), (1, vI i), (2, vI a)] := hl
  refine lv_iload_n S.1 S.2.1 dX4_putPlace_0 rfl (lv_at hl 1 rfl) ?_
  refine lv_bipush (v := nI 8) S.1 S.2.1 dX4_putPlace_1 (by decide +kernel) ?_
  refine nv_pNi (rest := []) S w hl.1 (c_X7_isIndexN l D Z i 8 (by omega) (by omega)) gX4_putPlace_X7_isIndex_n41 rfl (kN := 5) rfl (List.mem_of_getElem? (i := 8) rfl) (List.mem_of_getElem? (i := 7) rfl) hdS_X7_isIndex ⟨Nat.le_of_ble_eq_true rfl, Nat.le_of_ble_eq_true rfl⟩ rfl rfl (Nat.le_of_ble_eq_true rfl) ⟨Nat.zero_le _, Nat.zero_le _⟩ dX4_putPlace_3 (fun H locs w => ?_)
  refine nv_if_eqB S (tgt := 30) dX4_putPlace_6 (by decide) (fun h_1 => ?_) (fun h_1 => ?_)
  · skip
    exfalso; omega
  · skip
    refine lv_aload_n S.1 S.2.1 dX4_putPlace_9 rfl (lv_at hl 0 rfl) ?_
    refine nv_get S w (C := RX4) (T := TX4) (N := 4) hn_X4_putPlace_4 0 rfl rfl 2 (by decide) (List.mem_of_getElem? (i := 1) rfl) (v := .ref qo) rfl dX4_putPlace_10 ?_
    refine lv_iload_n S.1 S.2.1 dX4_putPlace_13 rfl (lv_at hl 1 rfl) ?_
    refine lv_iload_n S.1 S.2.1 dX4_putPlace_14 rfl (lv_at hl 2 rfl) ?_
    refine nv_iast S w (i := i) (x := a) (g := G.2.2.1) 3 rfl (by omega) (by decide) (ws' := [(q, .inr (3, [.ref qc, .ref qw, .ref qo, vI G.2.2.2])), (qc, .inl (Z 0, 192, .inl (ar 192 (fun i => pk (G.1 i))))), (qw, .inl (Z 0, 6, .inl (ar 6 G.2.1))), (qo, .inl (Z 0, 8, .inl (ar 8 (un G.2.2.1 i a))))]) rfl dX4_putPlace_15 (fun H locs w => ?_)
    refine lv_aload_n S.1 S.2.1 dX4_putPlace_16 rfl (lv_at hl 0 rfl) ?_
    refine lv_aload_n S.1 S.2.1 dX4_putPlace_17 rfl (lv_at hl 0 rfl) ?_
    refine nv_get S w (C := RX4) (T := TX4) (N := 4) hn_X4_putPlace_4 0 rfl rfl 3 (by decide) (List.mem_of_getElem? (i := 2) rfl) (v := vI G.2.2.2) rfl dX4_putPlace_18 ?_
    refine lv_iload_n S.1 S.2.1 dX4_putPlace_21 rfl (lv_at hl 1 rfl) ?_
    refine lv_iconst (v := nI 1) S.1 S.2.1 dX4_putPlace_22 (ofInt_nI 1) ?_
    refine nv_iadd S dX4_putPlace_23 ?_
    refine nv_imax (rest := [.ref q]) S hl.1 (by decide +kernel) (by decide +kernel) (by decide +kernel) (by decide +kernel) (Nat.le_of_ble_eq_true rfl) (Nat.le_of_ble_eq_true rfl) ⟨Nat.zero_le _, Nat.zero_le _⟩ (by omega) (by omega) dX4_putPlace_24 ?_
    refine nv_put S w (C := RX4) (T := TX4) (N := 4) hn_X4_putPlace_4 tyX4_ok nmX4 0 rfl rfl 3 (by decide) (List.mem_of_getElem? (i := 2) rfl) rfl rfl (Nat.le_of_ble_eq_true rfl) (ws' := [(q, .inr (3, [.ref qc, .ref qw, .ref qo, vI (max G.2.2.2 (i + 1))])), (qc, .inl (Z 0, 192, .inl (ar 192 (fun i => pk (G.1 i))))), (qw, .inl (Z 0, 6, .inl (ar 6 G.2.1))), (qo, .inl (Z 0, 8, .inl (ar 8 (un G.2.2.1 i a))))]) rfl dX4_putPlace_27 (fun H locs w => ?_)
    exact nv_vret S w hr hlocks (by apply songB_mk <;> first | rfl | (intro j hj; rfl) | (simp [un_at, h_1]; done) | (intro j hj; simp [un_at, h_1]; done)) dX4_putPlace_30

theorem hn_X4_copyFrom_4 : ∀ w ∈ wsX40, w ∈ wsX4_copyFrom := by decide +kernel
set_option maxRecDepth 100000 in
set_option maxHeartbeats 4000000 in
theorem c_X4_copyFrom (l : Launch) (D : va_G) (Z : Nat → ClassId) (q qc qw qo : Nat) (G : SG) (q9 qc9 qw9 qo9 : Nat) (G9 : SG)  : Cv l yX4_copyFrom wsX4_copyFrom 1 26 D Z [.ref q, .ref q9] (songB Z q qc qw qo G ++ songB Z q9 qc9 qw9 qo9 G9)  (songB Z q qc qw qo G9 ++ songB Z q9 qc9 qw9 qo9 G9) := by
  refine ne_v (cc := cX4_copyFrom) (maxL := 2) (by decide +kernel) rfl (Nat.le_of_ble_eq_true rfl) (fun p e s m args below meth c A ls (S : CallFix p m c cX4_copyFrom 2 s args wsX4_copyFrom RX4) hr hlocks hl w => ?_)
  have hl : lv_has ls 2 [(0, .ref q), (1, .ref q9)] := hl
  refine lv_aload_n S.1 S.2.1 dX4_copyFrom_0 rfl (lv_at hl 1 rfl) ?_
  refine nv_get S w (C := RX4) (T := TX4) (N := 4) hn_X4_copyFrom_4 4 rfl rfl 0 (by decide) (List.mem_of_getElem? (i := 1) rfl) (v := .ref qc9) rfl dX4_copyFrom_1 ?_
  refine lv_iconst (v := nI 0) S.1 S.2.1 dX4_copyFrom_4 (ofInt_nI 0) ?_
  refine lv_aload_n S.1 S.2.1 dX4_copyFrom_5 rfl (lv_at hl 0 rfl) ?_
  refine nv_get S w (C := RX4) (T := TX4) (N := 4) hn_X4_copyFrom_4 0 rfl rfl 0 (by decide) (List.mem_of_getElem? (i := 1) rfl) (v := .ref qc) rfl dX4_copyFrom_6 ?_
  refine lv_iconst (v := nI 0) S.1 S.2.1 dX4_copyFrom_9 (ofInt_nI 0) ?_
  refine lv_sipush (v := nI 192) S.1 S.2.1 dX4_copyFrom_10 (by decide +kernel) ?_
  refine nv_icopy (rest := []) S w hl.1 (by decide +kernel) (by decide +kernel) (by decide +kernel) (by decide +kernel) (Nat.le_of_ble_eq_true rfl) (Nat.le_of_ble_eq_true rfl) 5 1 (g := (fun i => pk (G9.1 i))) (h := (fun i => pk (G.1 i))) rfl rfl (by decide) (by decide) (r := ar 192 (fun i => pk (G9.1 i))) ar_cpy (ws' := [(q, .inr (3, [.ref qc, .ref qw, .ref qo, vI G.2.2.2])), (qc, .inl (Z 0, 192, .inl (ar 192 (fun i => pk (G9.1 i))))), (qw, .inl (Z 0, 6, .inl (ar 6 G.2.1))), (qo, .inl (Z 0, 8, .inl (ar 8 G.2.2.1)))] ++ songB Z q9 qc9 qw9 qo9 G9) rfl dX4_copyFrom_13 (fun H locs w => ?_)
  refine lv_aload_n S.1 S.2.1 dX4_copyFrom_16 rfl (lv_at hl 1 rfl) ?_
  refine nv_get S w (C := RX4) (T := TX4) (N := 4) hn_X4_copyFrom_4 4 rfl rfl 1 (by decide) (List.mem_of_getElem? (i := 6) rfl) (v := .ref qw9) rfl dX4_copyFrom_17 ?_
  refine lv_iconst (v := nI 0) S.1 S.2.1 dX4_copyFrom_20 (ofInt_nI 0) ?_
  refine lv_aload_n S.1 S.2.1 dX4_copyFrom_21 rfl (lv_at hl 0 rfl) ?_
  refine nv_get S w (C := RX4) (T := TX4) (N := 4) hn_X4_copyFrom_4 0 rfl rfl 1 (by decide) (List.mem_of_getElem? (i := 6) rfl) (v := .ref qw) rfl dX4_copyFrom_22 ?_
  refine lv_iconst (v := nI 0) S.1 S.2.1 dX4_copyFrom_25 (ofInt_nI 0) ?_
  refine lv_bipush (v := nI 6) S.1 S.2.1 dX4_copyFrom_26 (by decide +kernel) ?_
  refine nv_icopy (rest := []) S w hl.1 (by decide +kernel) (by decide +kernel) (by decide +kernel) (by decide +kernel) (Nat.le_of_ble_eq_true rfl) (Nat.le_of_ble_eq_true rfl) 6 2 (g := G9.2.1) (h := G.2.1) rfl rfl (by decide) (by decide) (r := ar 6 G9.2.1) ar_cpy (ws' := [(q, .inr (3, [.ref qc, .ref qw, .ref qo, vI G.2.2.2])), (qc, .inl (Z 0, 192, .inl (ar 192 (fun i => pk (G9.1 i))))), (qw, .inl (Z 0, 6, .inl (ar 6 G9.2.1))), (qo, .inl (Z 0, 8, .inl (ar 8 G.2.2.1)))] ++ songB Z q9 qc9 qw9 qo9 G9) rfl dX4_copyFrom_28 (fun H locs w => ?_)
  refine lv_aload_n S.1 S.2.1 dX4_copyFrom_31 rfl (lv_at hl 1 rfl) ?_
  refine nv_get S w (C := RX4) (T := TX4) (N := 4) hn_X4_copyFrom_4 4 rfl rfl 2 (by decide) (List.mem_of_getElem? (i := 7) rfl) (v := .ref qo9) rfl dX4_copyFrom_32 ?_
  refine lv_iconst (v := nI 0) S.1 S.2.1 dX4_copyFrom_35 (ofInt_nI 0) ?_
  refine lv_aload_n S.1 S.2.1 dX4_copyFrom_36 rfl (lv_at hl 0 rfl) ?_
  refine nv_get S w (C := RX4) (T := TX4) (N := 4) hn_X4_copyFrom_4 0 rfl rfl 2 (by decide) (List.mem_of_getElem? (i := 7) rfl) (v := .ref qo) rfl dX4_copyFrom_37 ?_
  refine lv_iconst (v := nI 0) S.1 S.2.1 dX4_copyFrom_40 (ofInt_nI 0) ?_
  refine lv_bipush (v := nI 8) S.1 S.2.1 dX4_copyFrom_41 (by decide +kernel) ?_
  refine nv_icopy (rest := []) S w hl.1 (by decide +kernel) (by decide +kernel) (by decide +kernel) (by decide +kernel) (Nat.le_of_ble_eq_true rfl) (Nat.le_of_ble_eq_true rfl) 7 3 (g := G9.2.2.1) (h := G.2.2.1) rfl rfl (by decide) (by decide) (r := ar 8 G9.2.2.1) ar_cpy (ws' := [(q, .inr (3, [.ref qc, .ref qw, .ref qo, vI G.2.2.2])), (qc, .inl (Z 0, 192, .inl (ar 192 (fun i => pk (G9.1 i))))), (qw, .inl (Z 0, 6, .inl (ar 6 G9.2.1))), (qo, .inl (Z 0, 8, .inl (ar 8 G9.2.2.1)))] ++ songB Z q9 qc9 qw9 qo9 G9) rfl dX4_copyFrom_43 (fun H locs w => ?_)
  refine lv_aload_n S.1 S.2.1 dX4_copyFrom_46 rfl (lv_at hl 0 rfl) ?_
  refine lv_aload_n S.1 S.2.1 dX4_copyFrom_47 rfl (lv_at hl 1 rfl) ?_
  refine nv_get S w (C := RX4) (T := TX4) (N := 4) hn_X4_copyFrom_4 4 rfl rfl 3 (by decide) (List.mem_of_getElem? (i := 8) rfl) (v := vI G9.2.2.2) rfl dX4_copyFrom_48 ?_
  refine nv_put S w (C := RX4) (T := TX4) (N := 4) hn_X4_copyFrom_4 tyX4_ok nmX4 0 rfl rfl 3 (by decide) (List.mem_of_getElem? (i := 8) rfl) rfl rfl (Nat.le_of_ble_eq_true rfl) (ws' := [(q, .inr (3, [.ref qc, .ref qw, .ref qo, vI G9.2.2.2])), (qc, .inl (Z 0, 192, .inl (ar 192 (fun i => pk (G9.1 i))))), (qw, .inl (Z 0, 6, .inl (ar 6 G9.2.1))), (qo, .inl (Z 0, 8, .inl (ar 8 G9.2.2.1)))] ++ songB Z q9 qc9 qw9 qo9 G9) rfl dX4_copyFrom_51 (fun H locs w => ?_)
  exact nv_vret S w hr hlocks rfl dX4_copyFrom_54

theorem hdV_X4_cellAt : yX4_cellAt.cls = RX4 ∧ yX4_cellAt.cls ≠ "java/lang/invoke/MethodHandle" ∧ yX4_cellAt.cls ≠ "java/lang/invoke/VarHandle" ∧ (parseMethodDescriptor yX4_cellAt.desc).map (fun d => d.parameters.length) = some 3 := by decide +kernel
theorem hdS_X0_isTone : yX0_isTone.cls ≠ "java/lang/invoke/MethodHandle" ∧ yX0_isTone.cls ≠ "java/lang/invoke/VarHandle" ∧ (parseMethodDescriptor yX0_isTone.desc).map (fun d => d.parameters.length) = some 1 := by decide +kernel
theorem hdV_X4_rowsOf : yX4_rowsOf.cls = RX4 ∧ yX4_rowsOf.cls ≠ "java/lang/invoke/MethodHandle" ∧ yX4_rowsOf.cls ≠ "java/lang/invoke/VarHandle" ∧ (parseMethodDescriptor yX4_rowsOf.desc).map (fun d => d.parameters.length) = some 1 := by decide +kernel
set_option maxRecDepth 100000 in
set_option maxHeartbeats 4000000 in
theorem k_X4_countCells0 (l : Launch) (D : va_G) (Z : Nat → ClassId) (q qc qw qo : Nat) (G : SG) (a : Nat) (h : SB G) (ha : a < 6) {p : Program} {e : Env} {s : State} {m : MethodId} {args : Array Value} {below : List Frame} {meth : Method} {c : Code} {A : Nat → Prop} (S : CallFix p m c cX4_countCells 7 s args wsX4_countCells RX4) (hr : meth.sig.returnType = (some .int)) (hlocks : meth.locks = false) : ∀ (n9 : Nat), (∀ (r d x : Nat) (hr8 : r < G.2.1 a) (hd4 : d ≤ 4) (ex : x = cnt (toneN G a) (4 * r + d)) (hm : 6 * (G.2.1 a - r) + (4 - d) - 4 < n9), ∀ (H : Heap) (locs : List Loc) (ls : Array Slot) (hl : lv_has ls 7 [(0, .ref q), (1, vI a), (2, vI 0), (3, vI x), (4, vI r), (5, vI d)]) (w : Wd D Z A s (songB Z q qc qw qo G) H locs), W p l e (rmO 2 45) s m args below meth c H locs 0 0 (Qi below D Z A args s (nI (cnt (toneN G a) (4 * G.2.1 a))) (songB Z q qc qw qo G)) (F0 m 18 ls [])) ∧ (∀ (r x : Nat) (hr8 : r ≤ G.2.1 a) (ex : x = cnt (toneN G a) (4 * r)) (hm : 6 * (G.2.1 a - r) + 1 < n9), ∀ (H : Heap) (locs : List Loc) (ls : Array Slot) (hl : lv_has ls 7 [(0, .ref q), (1, vI a), (2, vI 0), (3, vI x), (4, vI r)]) (w : Wd D Z A s (songB Z q qc qw qo G) H locs), W p l e (rmO 2 45) s m args below meth c H locs 0 0 (Qi below D Z A args s (nI (cnt (toneN G a) (4 * G.2.1 a))) (songB Z q qc qw qo G)) (F0 m 5 ls [])) := by
  intro n9
  have hra := h.2.1 a ha
  induction n9 with
  | zero => exact ⟨fun r d x hr8 hd4 ex hm => absurd hm (Nat.not_lt_zero _), fun r x hr8 ex hm => absurd hm (Nat.not_lt_zero _)⟩
  | succ n9 ih =>
    refine ⟨?_, ?_⟩
    · intro r d x hr8 hd4 ex hm H locs ls hl w
      refine lv_iload S.1 S.2.1 dX4_countCells_18 (lv_at hl 5 rfl) ?_
      refine lv_iconst (v := nI 4) S.1 S.2.1 dX4_countCells_20 (ofInt_nI 4) ?_
      refine nv_icmp_ge S (by omega) (by omega) (tgt := 67) dX4_countCells_21 (by decide) (fun h_1 => ?_) (fun h_1 => ?_)
      · skip
        refine lv_iinc (v := nI (r + 1)) (lv' := [(4, vI (r + 1)), (0, .ref q), (1, vI a), (2, vI 0), (3, vI x), (5, vI d)]) S.1 S.2.1 dX4_countCells_67 hl (k := 4) rfl (nI_incI r 1) (by decide) rfl (fun ls hl => ?_)
        refine lv_goto (tgt := 5) S.1 S.2.1 dX4_countCells_70 (by decide) ?_
        exact (ih).2 (r + 1) x (by omega) (by rw [ex]; congr 1; omega) (by omega) _ _ _ (lv_sub hl [1, 2, 3, 4, 0] rfl) w
      · skip
        refine lv_aload_n S.1 S.2.1 dX4_countCells_24 rfl (lv_at hl 0 rfl) ?_
        refine lv_iload_n S.1 S.2.1 dX4_countCells_25 rfl (lv_at hl 1 rfl) ?_
        refine lv_iload S.1 S.2.1 dX4_countCells_26 (lv_at hl 4 rfl) ?_
        refine lv_iload S.1 S.2.1 dX4_countCells_28 (lv_at hl 5 rfl) ?_
        refine nv_rVi (rest := []) S w hl.1 (c_X4_cellAt l D Z q qc qw qo G a r d (by omega) (by omega) (by omega)) [0, 1, 2, 3] rfl rfl gX4_countCells_X4_cellAt rfl hdV_X4_cellAt ⟨Nat.le_of_ble_eq_true rfl, Nat.le_of_ble_eq_true rfl⟩ (q0 := 0) rfl rfl rfl rfl (Nat.le_of_ble_eq_true rfl) ⟨Nat.zero_le _, Nat.zero_le _⟩ dX4_countCells_30 (fun H locs w => ?_)
        refine lv_istore (lv' := [(6, vI (pk (G.1 (cix a r d)))), (0, .ref q), (1, vI a), (2, vI 0), (3, vI x), (4, vI r), (5, vI d)]) S.1 S.2.1 dX4_countCells_33 hl (by decide) rfl (fun ls hl => ?_)
        refine lv_iload_n S.1 S.2.1 dX4_countCells_35 rfl (lv_at hl 3 rfl) ?_
        refine lv_if_eq (tgt := 50) S.1 S.2.1 dX4_countCells_36 (by decide) (fun _ => ?_) (fun h9 => absurd (by decide) h9)
        refine lv_iload S.1 S.2.1 dX4_countCells_50 (lv_at hl 0 rfl) ?_
        refine nv_pSi (rest := []) S w hl.1 (c_X0_isTone l D Z (G.1 (cix a r d)) (h.1 _ (cix_lt ha (by omega) (by omega)))) gX4_countCells_X0_isTone rfl hdS_X0_isTone ⟨Nat.le_of_ble_eq_true rfl, Nat.le_of_ble_eq_true rfl⟩ rfl rfl (Nat.le_of_ble_eq_true rfl) ⟨Nat.zero_le _, Nat.zero_le _⟩ dX4_countCells_52 (fun H locs w => ?_)
        refine nv_if_eqB S (tgt := 61) dX4_countCells_55 (by decide) (fun h_3 => ?_) (fun h_3 => ?_)
        · skip
          refine lv_iinc (v := nI (d + 1)) (lv' := [(5, vI (d + 1)), (6, vI (pk (G.1 (cix a r d)))), (0, .ref q), (1, vI a), (2, vI 0), (3, vI x), (4, vI r)]) S.1 S.2.1 dX4_countCells_61 hl (k := 6) rfl (nI_incI d 1) (by decide) rfl (fun ls hl => ?_)
          refine lv_goto (tgt := 18) S.1 S.2.1 dX4_countCells_64 (by decide) ?_
          exact (ih).1 r (d + 1) x (by omega) (by omega) (by have e8 : cnt (toneN G a) (4 * r + (d + 1)) = cnt (toneN G a) (4 * r + d) + toneN G a (4 * r + d) := rfl; have e9 : toneN G a (4 * r + d) = 0 := (by unfold toneN; rw [← (show cix a r d = 32 * a + (4 * r + d) by unfold cix; omega)]; exact bP_f h_3); rw [e9] at e8; omega) (by omega) _ _ _ (lv_sub hl [2, 3, 4, 5, 6, 0] rfl) w
        · skip
          refine lv_iinc (v := nI (x + 1)) (lv' := [(3, vI (x + 1)), (6, vI (pk (G.1 (cix a r d)))), (0, .ref q), (1, vI a), (2, vI 0), (4, vI r), (5, vI d)]) S.1 S.2.1 dX4_countCells_58 hl (k := 4) rfl (nI_incI x 1) (by decide) rfl (fun ls hl => ?_)
          refine lv_iinc (v := nI (d + 1)) (lv' := [(5, vI (d + 1)), (3, vI (x + 1)), (6, vI (pk (G.1 (cix a r d)))), (0, .ref q), (1, vI a), (2, vI 0), (4, vI r)]) S.1 S.2.1 dX4_countCells_61 hl (k := 6) rfl (nI_incI d 1) (by decide) rfl (fun ls hl => ?_)
          refine lv_goto (tgt := 18) S.1 S.2.1 dX4_countCells_64 (by decide) ?_
          exact (ih).1 r (d + 1) (x + 1) (by omega) (by omega) (by have e8 : cnt (toneN G a) (4 * r + (d + 1)) = cnt (toneN G a) (4 * r + d) + toneN G a (4 * r + d) := rfl; have e9 : toneN G a (4 * r + d) = 1 := (by unfold toneN; rw [← (show cix a r d = 32 * a + (4 * r + d) by unfold cix; omega)]; exact bP_t h_3); rw [e9] at e8; omega) (by omega) _ _ _ (lv_sub hl [3, 4, 5, 1, 6, 0] rfl) w
    · intro r x hr8 ex hm H locs ls hl w
      refine lv_iload S.1 S.2.1 dX4_countCells_5 (lv_at hl 4 rfl) ?_
      refine lv_aload_n S.1 S.2.1 dX4_countCells_7 rfl (lv_at hl 0 rfl) ?_
      refine lv_iload_n S.1 S.2.1 dX4_countCells_8 rfl (lv_at hl 1 rfl) ?_
      refine nv_rVi (rest := [vI r]) S w hl.1 (c_X4_rowsOf l D Z q qc qw qo G a (by omega)) [0, 1, 2, 3] rfl rfl gX4_countCells_X4_rowsOf rfl hdV_X4_rowsOf ⟨Nat.le_of_ble_eq_true rfl, Nat.le_of_ble_eq_true rfl⟩ (q0 := 0) rfl rfl rfl rfl (Nat.le_of_ble_eq_true rfl) ⟨Nat.zero_le _, Nat.zero_le _⟩ dX4_countCells_9 (fun H locs w => ?_)
      refine nv_icmp_ge S (by omega) (by omega) (tgt := 73) dX4_countCells_12 (by decide) (fun h_4 => ?_) (fun h_4 => ?_)
      · skip
        refine lv_iload_n S.1 S.2.1 dX4_countCells_73 rfl (lv_at hl 3 rfl) ?_
        exact nv_iret S w hr hlocks rfl (by rw [ex, show r = G.2.1 a by omega]) rfl dX4_countCells_74
      · skip
        refine lv_iconst (v := nI 0) S.1 S.2.1 dX4_countCells_15 (ofInt_nI 0) ?_
        refine lv_istore (lv' := [(5, vI 0), (0, .ref q), (1, vI a), (2, vI 0), (3, vI x), (4, vI r)]) S.1 S.2.1 dX4_countCells_16 hl (by decide) rfl (fun ls hl => ?_)
        exact (ih).1 r 0 x (by omega) (by omega) (by rw [ex, Nat.add_zero]) (by omega) _ _ _ (lv_sub hl [1, 2, 3, 4, 5, 0] rfl) w
set_option maxRecDepth 100000 in
set_option maxHeartbeats 4000000 in
theorem c_X4_countCells0 (l : Launch) (D : va_G) (Z : Nat → ClassId) (q qc qw qo : Nat) (G : SG) (a : Nat) (h : SB G) (ha : a < 6) : Ci l yX4_countCells wsX4_countCells 2 45 D Z [.ref q, vI a, vI 0] (songB Z q qc qw qo G) (nI (cnt (toneN G a) (4 * G.2.1 a))) (songB Z q qc qw qo G) := by
  refine ne_i (cc := cX4_countCells) (maxL := 7) (by decide +kernel) rfl (Nat.le_of_ble_eq_true rfl) (fun p e s m args below meth c A ls (S : CallFix p m c cX4_countCells 7 s args wsX4_countCells RX4) hr hlocks hl w => ?_)
  have hra := h.2.1 a ha
  have hl : lv_has ls 7 [(0, .ref q), (1, vI a), (2, vI 0)] := hl
  refine lv_iconst (v := nI 0) S.1 S.2.1 dX4_countCells_0 (ofInt_nI 0) ?_
  refine lv_istore_n (lv' := [(3, vI 0), (0, .ref q), (1, vI a), (2, vI 0)]) S.1 S.2.1 dX4_countCells_1 rfl hl (by decide) rfl (fun ls hl => ?_)
  refine lv_iconst (v := nI 0) S.1 S.2.1 dX4_countCells_2 (ofInt_nI 0) ?_
  refine lv_istore (lv' := [(4, vI 0), (3, vI 0), (0, .ref q), (1, vI a), (2, vI 0)]) S.1 S.2.1 dX4_countCells_3 hl (by decide) rfl (fun ls hl => ?_)
  exact (k_X4_countCells0 l D Z q qc qw qo G a h ha S hr hlocks _).2 0 0 (by omega) rfl (Nat.lt_succ_self _) _ _ _ (lv_sub hl [2, 3, 4, 1, 0] rfl) w

theorem hdS_X0_isCall : yX0_isCall.cls ≠ "java/lang/invoke/MethodHandle" ∧ yX0_isCall.cls ≠ "java/lang/invoke/VarHandle" ∧ (parseMethodDescriptor yX0_isCall.desc).map (fun d => d.parameters.length) = some 1 := by decide +kernel
set_option maxRecDepth 100000 in
set_option maxHeartbeats 4000000 in
theorem k_X4_countCells1 (l : Launch) (D : va_G) (Z : Nat → ClassId) (q qc qw qo : Nat) (G : SG) (a : Nat) (h : SB G) (ha : a < 6) {p : Program} {e : Env} {s : State} {m : MethodId} {args : Array Value} {below : List Frame} {meth : Method} {c : Code} {A : Nat → Prop} (S : CallFix p m c cX4_countCells 7 s args wsX4_countCells RX4) (hr : meth.sig.returnType = (some .int)) (hlocks : meth.locks = false) : ∀ (n9 : Nat), (∀ (r d x : Nat) (hr8 : r < G.2.1 a) (hd4 : d ≤ 4) (ex : x = cnt (callN G a) (4 * r + d)) (hm : 6 * (G.2.1 a - r) + (4 - d) - 4 < n9), ∀ (H : Heap) (locs : List Loc) (ls : Array Slot) (hl : lv_has ls 7 [(0, .ref q), (1, vI a), (2, vI 1), (3, vI x), (4, vI r), (5, vI d)]) (w : Wd D Z A s (songB Z q qc qw qo G) H locs), W p l e (rmO 2 45) s m args below meth c H locs 0 0 (Qi below D Z A args s (nI (cnt (callN G a) (4 * G.2.1 a))) (songB Z q qc qw qo G)) (F0 m 18 ls [])) ∧ (∀ (r x : Nat) (hr8 : r ≤ G.2.1 a) (ex : x = cnt (callN G a) (4 * r)) (hm : 6 * (G.2.1 a - r) + 1 < n9), ∀ (H : Heap) (locs : List Loc) (ls : Array Slot) (hl : lv_has ls 7 [(0, .ref q), (1, vI a), (2, vI 1), (3, vI x), (4, vI r)]) (w : Wd D Z A s (songB Z q qc qw qo G) H locs), W p l e (rmO 2 45) s m args below meth c H locs 0 0 (Qi below D Z A args s (nI (cnt (callN G a) (4 * G.2.1 a))) (songB Z q qc qw qo G)) (F0 m 5 ls [])) := by
  intro n9
  have hra := h.2.1 a ha
  induction n9 with
  | zero => exact ⟨fun r d x hr8 hd4 ex hm => absurd hm (Nat.not_lt_zero _), fun r x hr8 ex hm => absurd hm (Nat.not_lt_zero _)⟩
  | succ n9 ih =>
    refine ⟨?_, ?_⟩
    · intro r d x hr8 hd4 ex hm H locs ls hl w
      refine lv_iload S.1 S.2.1 dX4_countCells_18 (lv_at hl 5 rfl) ?_
      refine lv_iconst (v := nI 4) S.1 S.2.1 dX4_countCells_20 (ofInt_nI 4) ?_
      refine nv_icmp_ge S (by omega) (by omega) (tgt := 67) dX4_countCells_21 (by decide) (fun h_1 => ?_) (fun h_1 => ?_)
      · skip
        refine lv_iinc (v := nI (r + 1)) (lv' := [(4, vI (r + 1)), (0, .ref q), (1, vI a), (2, vI 1), (3, vI x), (5, vI d)]) S.1 S.2.1 dX4_countCells_67 hl (k := 4) rfl (nI_incI r 1) (by decide) rfl (fun ls hl => ?_)
        refine lv_goto (tgt := 5) S.1 S.2.1 dX4_countCells_70 (by decide) ?_
        exact (ih).2 (r + 1) x (by omega) (by rw [ex]; congr 1; omega) (by omega) _ _ _ (lv_sub hl [1, 2, 3, 4, 0] rfl) w
      · skip
        refine lv_aload_n S.1 S.2.1 dX4_countCells_24 rfl (lv_at hl 0 rfl) ?_
        refine lv_iload_n S.1 S.2.1 dX4_countCells_25 rfl (lv_at hl 1 rfl) ?_
        refine lv_iload S.1 S.2.1 dX4_countCells_26 (lv_at hl 4 rfl) ?_
        refine lv_iload S.1 S.2.1 dX4_countCells_28 (lv_at hl 5 rfl) ?_
        refine nv_rVi (rest := []) S w hl.1 (c_X4_cellAt l D Z q qc qw qo G a r d (by omega) (by omega) (by omega)) [0, 1, 2, 3] rfl rfl gX4_countCells_X4_cellAt rfl hdV_X4_cellAt ⟨Nat.le_of_ble_eq_true rfl, Nat.le_of_ble_eq_true rfl⟩ (q0 := 0) rfl rfl rfl rfl (Nat.le_of_ble_eq_true rfl) ⟨Nat.zero_le _, Nat.zero_le _⟩ dX4_countCells_30 (fun H locs w => ?_)
        refine lv_istore (lv' := [(6, vI (pk (G.1 (cix a r d)))), (0, .ref q), (1, vI a), (2, vI 1), (3, vI x), (4, vI r), (5, vI d)]) S.1 S.2.1 dX4_countCells_33 hl (by decide) rfl (fun ls hl => ?_)
        refine lv_iload_n S.1 S.2.1 dX4_countCells_35 rfl (lv_at hl 3 rfl) ?_
        refine lv_if_eq (tgt := 50) S.1 S.2.1 dX4_countCells_36 (by decide) (fun h9 => absurd h9 (by decide)) (fun _ => ?_)
        refine lv_iload S.1 S.2.1 dX4_countCells_39 (lv_at hl 0 rfl) ?_
        refine nv_pSi (rest := []) S w hl.1 (c_X0_isCall l D Z (G.1 (cix a r d)) (h.1 _ (cix_lt ha (by omega) (by omega)))) gX4_countCells_X0_isCall rfl hdS_X0_isCall ⟨Nat.le_of_ble_eq_true rfl, Nat.le_of_ble_eq_true rfl⟩ rfl rfl (Nat.le_of_ble_eq_true rfl) ⟨Nat.zero_le _, Nat.zero_le _⟩ dX4_countCells_41 (fun H locs w => ?_)
        refine nv_if_eqB S (tgt := 61) dX4_countCells_44 (by decide) (fun h_3 => ?_) (fun h_3 => ?_)
        · skip
          refine lv_iinc (v := nI (d + 1)) (lv' := [(5, vI (d + 1)), (6, vI (pk (G.1 (cix a r d)))), (0, .ref q), (1, vI a), (2, vI 1), (3, vI x), (4, vI r)]) S.1 S.2.1 dX4_countCells_61 hl (k := 6) rfl (nI_incI d 1) (by decide) rfl (fun ls hl => ?_)
          refine lv_goto (tgt := 18) S.1 S.2.1 dX4_countCells_64 (by decide) ?_
          exact (ih).1 r (d + 1) x (by omega) (by omega) (by have e8 : cnt (callN G a) (4 * r + (d + 1)) = cnt (callN G a) (4 * r + d) + callN G a (4 * r + d) := rfl; have e9 : callN G a (4 * r + d) = 0 := (by unfold callN; rw [← (show cix a r d = 32 * a + (4 * r + d) by unfold cix; omega)]; exact bP_f h_3); rw [e9] at e8; omega) (by omega) _ _ _ (lv_sub hl [2, 3, 4, 5, 6, 0] rfl) w
        · skip
          refine lv_goto (tgt := 58) S.1 S.2.1 dX4_countCells_47 (by decide) ?_
          refine lv_iinc (v := nI (x + 1)) (lv' := [(3, vI (x + 1)), (6, vI (pk (G.1 (cix a r d)))), (0, .ref q), (1, vI a), (2, vI 1), (4, vI r), (5, vI d)]) S.1 S.2.1 dX4_countCells_58 hl (k := 4) rfl (nI_incI x 1) (by decide) rfl (fun ls hl => ?_)
          refine lv_iinc (v := nI (d + 1)) (lv' := [(5, vI (d + 1)), (3, vI (x + 1)), (6, vI (pk (G.1 (cix a r d)))), (0, .ref q), (1, vI a), (2, vI 1), (4, vI r)]) S.1 S.2.1 dX4_countCells_61 hl (k := 6) rfl (nI_incI d 1) (by decide) rfl (fun ls hl => ?_)
          refine lv_goto (tgt := 18) S.1 S.2.1 dX4_countCells_64 (by decide) ?_
          exact (ih).1 r (d + 1) (x + 1) (by omega) (by omega) (by have e8 : cnt (callN G a) (4 * r + (d + 1)) = cnt (callN G a) (4 * r + d) + callN G a (4 * r + d) := rfl; have e9 : callN G a (4 * r + d) = 1 := (by unfold callN; rw [← (show cix a r d = 32 * a + (4 * r + d) by unfold cix; omega)]; exact bP_t h_3); rw [e9] at e8; omega) (by omega) _ _ _ (lv_sub hl [3, 4, 5, 1, 6, 0] rfl) w
    · intro r x hr8 ex hm H locs ls hl w
      refine lv_iload S.1 S.2.1 dX4_countCells_5 (lv_at hl 4 rfl) ?_
      refine lv_aload_n S.1 S.2.1 dX4_countCells_7 rfl (lv_at hl 0 rfl) ?_
      refine lv_iload_n S.1 S.2.1 dX4_countCells_8 rfl (lv_at hl 1 rfl) ?_
      refine nv_rVi (rest := [vI r]) S w hl.1 (c_X4_rowsOf l D Z q qc qw qo G a (by omega)) [0, 1, 2, 3] rfl rfl gX4_countCells_X4_rowsOf rfl hdV_X4_rowsOf ⟨Nat.le_of_ble_eq_true rfl, Nat.le_of_ble_eq_true rfl⟩ (q0 := 0) rfl rfl rfl rfl (Nat.le_of_ble_eq_true rfl) ⟨Nat.zero_le _, Nat.zero_le _⟩ dX4_countCells_9 (fun H locs w => ?_)
      refine nv_icmp_ge S (by omega) (by omega) (tgt := 73) dX4_countCells_12 (by decide) (fun h_4 => ?_) (fun h_4 => ?_)
      · skip
        refine lv_iload_n S.1 S.2.1 dX4_countCells_73 rfl (lv_at hl 3 rfl) ?_
        exact nv_iret S w hr hlocks rfl (by rw [ex, show r = G.2.1 a by omega]) rfl dX4_countCells_74
      · skip
        refine lv_iconst (v := nI 0) S.1 S.2.1 dX4_countCells_15 (ofInt_nI 0) ?_
        refine lv_istore (lv' := [(5, vI 0), (0, .ref q), (1, vI a), (2, vI 1), (3, vI x), (4, vI r)]) S.1 S.2.1 dX4_countCells_16 hl (by decide) rfl (fun ls hl => ?_)
        exact (ih).1 r 0 x (by omega) (by omega) (by rw [ex, Nat.add_zero]) (by omega) _ _ _ (lv_sub hl [1, 2, 3, 4, 5, 0] rfl) w
set_option maxRecDepth 100000 in
set_option maxHeartbeats 4000000 in
theorem c_X4_countCells1 (l : Launch) (D : va_G) (Z : Nat → ClassId) (q qc qw qo : Nat) (G : SG) (a : Nat) (h : SB G) (ha : a < 6) : Ci l yX4_countCells wsX4_countCells 2 45 D Z [.ref q, vI a, vI 1] (songB Z q qc qw qo G) (nI (cnt (callN G a) (4 * G.2.1 a))) (songB Z q qc qw qo G) := by
  refine ne_i (cc := cX4_countCells) (maxL := 7) (by decide +kernel) rfl (Nat.le_of_ble_eq_true rfl) (fun p e s m args below meth c A ls (S : CallFix p m c cX4_countCells 7 s args wsX4_countCells RX4) hr hlocks hl w => ?_)
  have hra := h.2.1 a ha
  have hl : lv_has ls 7 [(0, .ref q), (1, vI a), (2, vI 1)] := hl
  refine lv_iconst (v := nI 0) S.1 S.2.1 dX4_countCells_0 (ofInt_nI 0) ?_
  refine lv_istore_n (lv' := [(3, vI 0), (0, .ref q), (1, vI a), (2, vI 1)]) S.1 S.2.1 dX4_countCells_1 rfl hl (by decide) rfl (fun ls hl => ?_)
  refine lv_iconst (v := nI 0) S.1 S.2.1 dX4_countCells_2 (ofInt_nI 0) ?_
  refine lv_istore (lv' := [(4, vI 0), (3, vI 0), (0, .ref q), (1, vI a), (2, vI 1)]) S.1 S.2.1 dX4_countCells_3 hl (by decide) rfl (fun ls hl => ?_)
  exact (k_X4_countCells1 l D Z q qc qw qo G a h ha S hr hlocks _).2 0 0 (by omega) rfl (Nat.lt_succ_self _) _ _ _ (lv_sub hl [2, 3, 4, 1, 0] rfl) w

theorem hn_X4_countPlaces_4 : ∀ w ∈ wsX40, w ∈ wsX4_countPlaces := by decide +kernel
theorem hdV_X4_patternAt : yX4_patternAt.cls = RX4 ∧ yX4_patternAt.cls ≠ "java/lang/invoke/MethodHandle" ∧ yX4_patternAt.cls ≠ "java/lang/invoke/VarHandle" ∧ (parseMethodDescriptor yX4_patternAt.desc).map (fun d => d.parameters.length) = some 1 := by decide +kernel
set_option maxRecDepth 100000 in
set_option maxHeartbeats 4000000 in
theorem k_X4_countPlaces (l : Launch) (D : va_G) (Z : Nat → ClassId) (q qc qw qo : Nat) (G : SG) (a : Nat) (h : SB G) (ha : a < 6) {p : Program} {e : Env} {s : State} {m : MethodId} {args : Array Value} {below : List Frame} {meth : Method} {c : Code} {A : Nat → Prop} (S : CallFix p m c cX4_countPlaces 4 s args wsX4_countPlaces RX4) (hr : meth.sig.returnType = (some .int)) (hlocks : meth.locks = false) : ∀ (n9 : Nat), (∀ (i x : Nat) (hi8 : i ≤ G.2.2.2) (ex : x = cnt (ordN G a) i) (hm : G.2.2.2 - i < n9), ∀ (H : Heap) (locs : List Loc) (ls : Array Slot) (hl : lv_has ls 4 [(0, .ref q), (1, vI a), (2, vI x), (3, vI i)]) (w : Wd D Z A s (songB Z q qc qw qo G) H locs), W p l e (rmO 2 42) s m args below meth c H locs 0 0 (Qi below D Z A args s (nI (cnt (ordN G a) G.2.2.2)) (songB Z q qc qw qo G)) (F0 m 4 ls [])) := by
  intro n9
  have hpl := h.2.2.1
  have hpl2 := h.2.2.2.1
  induction n9 with
  | zero => intro i x hi8 ex hm; exact absurd hm (Nat.not_lt_zero _)
  | succ n9 ih =>
    skip
    · intro i x hi8 ex hm H locs ls hl w
      refine lv_iload_n S.1 S.2.1 dX4_countPlaces_4 rfl (lv_at hl 3 rfl) ?_
      refine lv_aload_n S.1 S.2.1 dX4_countPlaces_5 rfl (lv_at hl 0 rfl) ?_
      refine nv_get S w (C := RX4) (T := TX4) (N := 4) hn_X4_countPlaces_4 0 rfl rfl 3 (by decide) (List.mem_of_getElem? (i := 1) rfl) (v := vI G.2.2.2) rfl dX4_countPlaces_6 ?_
      refine nv_icmp_ge S (by omega) (by omega) (tgt := 30) dX4_countPlaces_9 (by decide) (fun h_1 => ?_) (fun h_1 => ?_)
      · skip
        refine lv_iload_n S.1 S.2.1 dX4_countPlaces_30 rfl (lv_at hl 2 rfl) ?_
        exact nv_iret S w hr hlocks rfl (by rw [ex, show i = G.2.2.2 by omega]) rfl dX4_countPlaces_31
      · skip
        refine lv_aload_n S.1 S.2.1 dX4_countPlaces_12 rfl (lv_at hl 0 rfl) ?_
        refine lv_iload_n S.1 S.2.1 dX4_countPlaces_13 rfl (lv_at hl 3 rfl) ?_
        refine nv_rVi (rest := []) S w hl.1 (c_X4_patternAt l D Z q qc qw qo G i (by omega) (by omega)) [0, 1, 2, 3] rfl rfl gX4_countPlaces_X4_patternAt rfl hdV_X4_patternAt ⟨Nat.le_of_ble_eq_true rfl, Nat.le_of_ble_eq_true rfl⟩ (q0 := 0) rfl rfl rfl rfl (Nat.le_of_ble_eq_true rfl) ⟨Nat.zero_le _, Nat.zero_le _⟩ dX4_countPlaces_14 (fun H locs w => ?_)
        have ho := h.2.2.2.2 i (by omega)
        refine lv_iload_n S.1 S.2.1 dX4_countPlaces_17 rfl (lv_at hl 1 rfl) ?_
        refine nv_icmp_ne S (by omega) (by omega) (tgt := 24) dX4_countPlaces_18 (by decide) (fun h_2 => ?_) (fun h_2 => ?_)
        · skip
          refine lv_iinc (v := nI (i + 1)) (lv' := [(3, vI (i + 1)), (0, .ref q), (1, vI a), (2, vI x)]) S.1 S.2.1 dX4_countPlaces_24 hl (k := 3) rfl (nI_incI i 1) (by decide) rfl (fun ls hl => ?_)
          refine lv_goto (tgt := 4) S.1 S.2.1 dX4_countPlaces_27 (by decide) ?_
          exact ih (i + 1) x (by omega) (by have e8 : cnt (ordN G a) (i + 1) = cnt (ordN G a) (i) + ordN G a (i) := rfl; have e9 : ordN G a (i) = 0 := (by unfold ordN; exact bP_f h_2); rw [e9] at e8; omega) (by omega) _ _ _ (lv_sub hl [1, 2, 3, 0] rfl) w
        · skip
          refine lv_iinc (v := nI (x + 1)) (lv' := [(2, vI (x + 1)), (0, .ref q), (1, vI a), (3, vI i)]) S.1 S.2.1 dX4_countPlaces_21 hl (k := 2) rfl (nI_incI x 1) (by decide) rfl (fun ls hl => ?_)
          refine lv_iinc (v := nI (i + 1)) (lv' := [(3, vI (i + 1)), (2, vI (x + 1)), (0, .ref q), (1, vI a)]) S.1 S.2.1 dX4_countPlaces_24 hl (k := 3) rfl (nI_incI i 1) (by decide) rfl (fun ls hl => ?_)
          refine lv_goto (tgt := 4) S.1 S.2.1 dX4_countPlaces_27 (by decide) ?_
          exact ih (i + 1) (x + 1) (by omega) (by have e8 : cnt (ordN G a) (i + 1) = cnt (ordN G a) (i) + ordN G a (i) := rfl; have e9 : ordN G a (i) = 1 := (by unfold ordN; exact bP_t h_2); rw [e9] at e8; omega) (by omega) _ _ _ (lv_sub hl [2, 3, 1, 0] rfl) w
set_option maxRecDepth 100000 in
set_option maxHeartbeats 4000000 in
theorem c_X4_countPlaces (l : Launch) (D : va_G) (Z : Nat → ClassId) (q qc qw qo : Nat) (G : SG) (a : Nat) (h : SB G) (ha : a < 6) : Ci l yX4_countPlaces wsX4_countPlaces 2 42 D Z [.ref q, vI a] (songB Z q qc qw qo G) (nI (cnt (ordN G a) G.2.2.2)) (songB Z q qc qw qo G) := by
  refine ne_i (cc := cX4_countPlaces) (maxL := 4) (by decide +kernel) rfl (Nat.le_of_ble_eq_true rfl) (fun p e s m args below meth c A ls (S : CallFix p m c cX4_countPlaces 4 s args wsX4_countPlaces RX4) hr hlocks hl w => ?_)
  have hpl := h.2.2.1
  have hpl2 := h.2.2.2.1
  have hl : lv_has ls 4 [(0, .ref q), (1, vI a)] := hl
  refine lv_iconst (v := nI 0) S.1 S.2.1 dX4_countPlaces_0 (ofInt_nI 0) ?_
  refine lv_istore_n (lv' := [(2, vI 0), (0, .ref q), (1, vI a)]) S.1 S.2.1 dX4_countPlaces_1 rfl hl (by decide) rfl (fun ls hl => ?_)
  refine lv_iconst (v := nI 0) S.1 S.2.1 dX4_countPlaces_2 (ofInt_nI 0) ?_
  refine lv_istore_n (lv' := [(3, vI 0), (2, vI 0), (0, .ref q), (1, vI a)]) S.1 S.2.1 dX4_countPlaces_3 rfl hl (by decide) rfl (fun ls hl => ?_)
  exact k_X4_countPlaces l D Z q qc qw qo G a h ha S hr hlocks _ 0 0 (by omega) rfl (Nat.lt_succ_self _) _ _ _ (lv_sub hl [2, 3, 1, 0] rfl) w

theorem hn_X4_inOrder_4 : ∀ w ∈ wsX40, w ∈ wsX4_inOrder := by decide +kernel
set_option maxRecDepth 100000 in
set_option maxHeartbeats 4000000 in
theorem k_X4_inOrder (l : Launch) (D : va_G) (Z : Nat → ClassId) (q qc qw qo : Nat) (G : SG) (h : SB G) {p : Program} {e : Env} {s : State} {m : MethodId} {args : Array Value} {below : List Frame} {meth : Method} {c : Code} {A : Nat → Prop} (S : CallFix p m c cX4_inOrder 3 s args wsX4_inOrder RX4) (hr : meth.sig.returnType = (some .int)) (hlocks : meth.locks = false) : ∀ (n9 : Nat), (∀ (i x : Nat) (hi8 : i ≤ G.2.2.2) (ex : x = orN (fun i => 2 ^ G.2.2.1 i) i) (hm : G.2.2.2 - i < n9), ∀ (H : Heap) (locs : List Loc) (ls : Array Slot) (hl : lv_has ls 3 [(0, .ref q), (1, vI x), (2, vI i)]) (w : Wd D Z A s (songB Z q qc qw qo G) H locs), W p l e (rmO 2 42) s m args below meth c H locs 0 0 (Qi below D Z A args s (nI (orderM G)) (songB Z q qc qw qo G)) (F0 m 4 ls [])) := by
  intro n9
  have hpl := h.2.2.1
  have hpl2 := h.2.2.2.1
  induction n9 with
  | zero => intro i x hi8 ex hm; exact absurd hm (Nat.not_lt_zero _)
  | succ n9 ih =>
    skip
    · intro i x hi8 ex hm H locs ls hl w
      refine lv_iload_n S.1 S.2.1 dX4_inOrder_4 rfl (lv_at hl 2 rfl) ?_
      refine lv_aload_n S.1 S.2.1 dX4_inOrder_5 rfl (lv_at hl 0 rfl) ?_
      refine nv_get S w (C := RX4) (T := TX4) (N := 4) hn_X4_inOrder_4 0 rfl rfl 3 (by decide) (List.mem_of_getElem? (i := 1) rfl) (v := vI G.2.2.2) rfl dX4_inOrder_6 ?_
      refine nv_icmp_ge S (by omega) (by omega) (tgt := 28) dX4_inOrder_9 (by decide) (fun h_1 => ?_) (fun h_1 => ?_)
      · skip
        refine lv_iload_n S.1 S.2.1 dX4_inOrder_28 rfl (lv_at hl 1 rfl) ?_
        exact nv_iret S w hr hlocks rfl (by rw [ex, show i = G.2.2.2 by omega]; rfl) rfl dX4_inOrder_29
      · skip
        refine lv_iload_n S.1 S.2.1 dX4_inOrder_12 rfl (lv_at hl 1 rfl) ?_
        refine lv_iconst (v := nI 1) S.1 S.2.1 dX4_inOrder_13 (ofInt_nI 1) ?_
        refine lv_aload_n S.1 S.2.1 dX4_inOrder_14 rfl (lv_at hl 0 rfl) ?_
        refine lv_iload_n S.1 S.2.1 dX4_inOrder_15 rfl (lv_at hl 2 rfl) ?_
        refine nv_rVi (rest := [vI 1, vI x]) S w hl.1 (c_X4_patternAt l D Z q qc qw qo G i (by omega) (by omega)) [0, 1, 2, 3] rfl rfl gX4_inOrder_X4_patternAt rfl hdV_X4_patternAt ⟨Nat.le_of_ble_eq_true rfl, Nat.le_of_ble_eq_true rfl⟩ (q0 := 0) rfl rfl rfl rfl (Nat.le_of_ble_eq_true rfl) ⟨Nat.zero_le _, Nat.zero_le _⟩ dX4_inOrder_16 (fun H locs w => ?_)
        have ho := h.2.2.2.2 i (by omega)
        refine lv_ishl S.1 S.2.1 dX4_inOrder_19 ?_
        rw [sh1N ho]
        refine nv_ior S dX4_inOrder_20 (z := nI (x ||| 2 ^ G.2.2.1 i)) (fa_or _ _) ?_
        refine lv_istore_n (lv' := [(1, vI (x ||| 2 ^ G.2.2.1 i)), (0, .ref q), (2, vI i)]) S.1 S.2.1 dX4_inOrder_21 rfl hl (by decide) rfl (fun ls hl => ?_)
        refine lv_iinc (v := nI (i + 1)) (lv' := [(2, vI (i + 1)), (1, vI (x ||| 2 ^ G.2.2.1 i)), (0, .ref q)]) S.1 S.2.1 dX4_inOrder_22 hl (k := 2) rfl (nI_incI i 1) (by decide) rfl (fun ls hl => ?_)
        refine lv_goto (tgt := 4) S.1 S.2.1 dX4_inOrder_25 (by decide) ?_
        exact ih (i + 1) (x ||| 2 ^ G.2.2.1 i) (by omega) (by rw [ex]; rfl) (by omega) _ _ _ (lv_sub hl [2, 1, 0] rfl) w
set_option maxRecDepth 100000 in
set_option maxHeartbeats 4000000 in
theorem c_X4_inOrder (l : Launch) (D : va_G) (Z : Nat → ClassId) (q qc qw qo : Nat) (G : SG) (h : SB G) : Ci l yX4_inOrder wsX4_inOrder 2 42 D Z [.ref q] (songB Z q qc qw qo G) (nI (orderM G)) (songB Z q qc qw qo G) := by
  refine ne_i (cc := cX4_inOrder) (maxL := 3) (by decide +kernel) rfl (Nat.le_of_ble_eq_true rfl) (fun p e s m args below meth c A ls (S : CallFix p m c cX4_inOrder 3 s args wsX4_inOrder RX4) hr hlocks hl w => ?_)
  have hpl := h.2.2.1
  have hpl2 := h.2.2.2.1
  have hl : lv_has ls 3 [(0, .ref q)] := hl
  refine lv_iconst (v := nI 0) S.1 S.2.1 dX4_inOrder_0 (ofInt_nI 0) ?_
  refine lv_istore_n (lv' := [(1, vI 0), (0, .ref q)]) S.1 S.2.1 dX4_inOrder_1 rfl hl (by decide) rfl (fun ls hl => ?_)
  refine lv_iconst (v := nI 0) S.1 S.2.1 dX4_inOrder_2 (ofInt_nI 0) ?_
  refine lv_istore_n (lv' := [(2, vI 0), (1, vI 0), (0, .ref q)]) S.1 S.2.1 dX4_inOrder_3 rfl hl (by decide) rfl (fun ls hl => ?_)
  exact k_X4_inOrder l D Z q qc qw qo G h S hr hlocks _ 0 0 (by omega) rfl (Nat.lt_succ_self _) _ _ _ (lv_sub hl [2, 1, 0] rfl) w

set_option maxRecDepth 100000 in
set_option maxHeartbeats 4000000 in
theorem k_X4_calledFrom (l : Launch) (D : va_G) (Z : Nat → ClassId) (q qc qw qo : Nat) (G : SG) (a : Nat) (h : SB G) (ha : a < 6) {p : Program} {e : Env} {s : State} {m : MethodId} {args : Array Value} {below : List Frame} {meth : Method} {c : Code} {A : Nat → Prop} (S : CallFix p m c cX4_calledFrom 6 s args wsX4_calledFrom RX4) (hr : meth.sig.returnType = (some .int)) (hlocks : meth.locks = false) : ∀ (n9 : Nat), (∀ (r d x : Nat) (hr8 : r < G.2.1 a) (hd4 : d ≤ 4) (ex : x = orN (maskN G a) (4 * r + d)) (hm : 6 * (G.2.1 a - r) + (4 - d) - 4 < n9), ∀ (H : Heap) (locs : List Loc) (ls : Array Slot) (hl : lv_has ls 6 [(0, .ref q), (1, vI a), (2, vI x), (3, vI r), (4, vI d)]) (w : Wd D Z A s (songB Z q qc qw qo G) H locs), W p l e (rmO 2 45) s m args below meth c H locs 0 0 (Qi below D Z A args s (nI (calledM G a)) (songB Z q qc qw qo G)) (F0 m 16 ls [])) ∧ (∀ (r x : Nat) (hr8 : r ≤ G.2.1 a) (ex : x = orN (maskN G a) (4 * r)) (hm : 6 * (G.2.1 a - r) + 1 < n9), ∀ (H : Heap) (locs : List Loc) (ls : Array Slot) (hl : lv_has ls 6 [(0, .ref q), (1, vI a), (2, vI x), (3, vI r)]) (w : Wd D Z A s (songB Z q qc qw qo G) H locs), W p l e (rmO 2 45) s m args below meth c H locs 0 0 (Qi below D Z A args s (nI (calledM G a)) (songB Z q qc qw qo G)) (F0 m 4 ls [])) := by
  intro n9
  have hra := h.2.1 a ha
  induction n9 with
  | zero => exact ⟨fun r d x hr8 hd4 ex hm => absurd hm (Nat.not_lt_zero _), fun r x hr8 ex hm => absurd hm (Nat.not_lt_zero _)⟩
  | succ n9 ih =>
    refine ⟨?_, ?_⟩
    · intro r d x hr8 hd4 ex hm H locs ls hl w
      refine lv_iload S.1 S.2.1 dX4_calledFrom_16 (lv_at hl 4 rfl) ?_
      refine lv_iconst (v := nI 4) S.1 S.2.1 dX4_calledFrom_18 (ofInt_nI 4) ?_
      refine nv_icmp_ge S (by omega) (by omega) (tgt := 56) dX4_calledFrom_19 (by decide) (fun h_1 => ?_) (fun h_1 => ?_)
      · skip
        refine lv_iinc (v := nI (r + 1)) (lv' := [(3, vI (r + 1)), (0, .ref q), (1, vI a), (2, vI x), (4, vI d)]) S.1 S.2.1 dX4_calledFrom_56 hl (k := 3) rfl (nI_incI r 1) (by decide) rfl (fun ls hl => ?_)
        refine lv_goto (tgt := 4) S.1 S.2.1 dX4_calledFrom_59 (by decide) ?_
        exact (ih).2 (r + 1) x (by omega) (by rw [ex]; congr 1; omega) (by omega) _ _ _ (lv_sub hl [1, 2, 3, 0] rfl) w
      · skip
        refine lv_aload_n S.1 S.2.1 dX4_calledFrom_22 rfl (lv_at hl 0 rfl) ?_
        refine lv_iload_n S.1 S.2.1 dX4_calledFrom_23 rfl (lv_at hl 1 rfl) ?_
        refine lv_iload_n S.1 S.2.1 dX4_calledFrom_24 rfl (lv_at hl 3 rfl) ?_
        refine lv_iload S.1 S.2.1 dX4_calledFrom_25 (lv_at hl 4 rfl) ?_
        refine nv_rVi (rest := []) S w hl.1 (c_X4_cellAt l D Z q qc qw qo G a r d (by omega) (by omega) (by omega)) [0, 1, 2, 3] rfl rfl gX4_calledFrom_X4_cellAt rfl hdV_X4_cellAt ⟨Nat.le_of_ble_eq_true rfl, Nat.le_of_ble_eq_true rfl⟩ (q0 := 0) rfl rfl rfl rfl (Nat.le_of_ble_eq_true rfl) ⟨Nat.zero_le _, Nat.zero_le _⟩ dX4_calledFrom_27 (fun H locs w => ?_)
        refine lv_istore (lv' := [(5, vI (pk (G.1 (cix a r d)))), (0, .ref q), (1, vI a), (2, vI x), (3, vI r), (4, vI d)]) S.1 S.2.1 dX4_calledFrom_30 hl (by decide) rfl (fun ls hl => ?_)
        refine lv_iload S.1 S.2.1 dX4_calledFrom_32 (lv_at hl 0 rfl) ?_
        refine nv_pSi (rest := []) S w hl.1 (c_X0_isCall l D Z (G.1 (cix a r d)) (h.1 _ (cix_lt ha (by omega) (by omega)))) gX4_calledFrom_X0_isCall rfl hdS_X0_isCall ⟨Nat.le_of_ble_eq_true rfl, Nat.le_of_ble_eq_true rfl⟩ rfl rfl (Nat.le_of_ble_eq_true rfl) ⟨Nat.zero_le _, Nat.zero_le _⟩ dX4_calledFrom_34 (fun H locs w => ?_)
        refine nv_if_eqB S (tgt := 50) dX4_calledFrom_37 (by decide) (fun h_2 => ?_) (fun h_2 => ?_)
        · skip
          refine lv_iinc (v := nI (d + 1)) (lv' := [(4, vI (d + 1)), (5, vI (pk (G.1 (cix a r d)))), (0, .ref q), (1, vI a), (2, vI x), (3, vI r)]) S.1 S.2.1 dX4_calledFrom_50 hl (k := 5) rfl (nI_incI d 1) (by decide) rfl (fun ls hl => ?_)
          refine lv_goto (tgt := 16) S.1 S.2.1 dX4_calledFrom_53 (by decide) ?_
          exact (ih).1 r (d + 1) x (by omega) (by omega) (by have e8 : orN (maskN G a) (4 * r + (d + 1)) = orN (maskN G a) (4 * r + d) ||| maskN G a (4 * r + d) := rfl; have e9 : maskN G a (4 * r + d) = 0 := (by unfold maskN; rw [← (show cix a r d = 32 * a + (4 * r + d) by unfold cix; omega)]; exact if_neg h_2); rw [e8, e9, ← ex, Nat.or_zero]) (by omega) _ _ _ (lv_sub hl [2, 3, 4, 5, 0] rfl) w
        · skip
          refine lv_iload_n S.1 S.2.1 dX4_calledFrom_40 rfl (lv_at hl 3 rfl) ?_
          refine lv_iconst (v := nI 1) S.1 S.2.1 dX4_calledFrom_41 (ofInt_nI 1) ?_
          refine lv_iload S.1 S.2.1 dX4_calledFrom_42 (lv_at hl 0 rfl) ?_
          refine nv_pSi (rest := [vI 1, vI x]) S w hl.1 (c_X0_numberOf l D Z (G.1 (cix a r d)) (h.1 _ (cix_lt ha (by omega) (by omega)))) gX4_calledFrom_X0_numberOf rfl hdS_X0_numberOf ⟨Nat.le_of_ble_eq_true rfl, Nat.le_of_ble_eq_true rfl⟩ rfl rfl (Nat.le_of_ble_eq_true rfl) ⟨Nat.zero_le _, Nat.zero_le _⟩ dX4_calledFrom_44 (fun H locs w => ?_)
          refine lv_ishl S.1 S.2.1 dX4_calledFrom_47 ?_
          rw [sh1N (by omega)]
          refine nv_ior S dX4_calledFrom_48 (z := nI (x ||| 2 ^ G.1 (cix a r d) 3)) (fa_or _ _) ?_
          refine lv_istore_n (lv' := [(2, vI (x ||| 2 ^ G.1 (cix a r d) 3)), (5, vI (pk (G.1 (cix a r d)))), (0, .ref q), (1, vI a), (3, vI r), (4, vI d)]) S.1 S.2.1 dX4_calledFrom_49 rfl hl (by decide) rfl (fun ls hl => ?_)
          refine lv_iinc (v := nI (d + 1)) (lv' := [(4, vI (d + 1)), (2, vI (x ||| 2 ^ G.1 (cix a r d) 3)), (5, vI (pk (G.1 (cix a r d)))), (0, .ref q), (1, vI a), (3, vI r)]) S.1 S.2.1 dX4_calledFrom_50 hl (k := 5) rfl (nI_incI d 1) (by decide) rfl (fun ls hl => ?_)
          refine lv_goto (tgt := 16) S.1 S.2.1 dX4_calledFrom_53 (by decide) ?_
          exact (ih).1 r (d + 1) (x ||| 2 ^ G.1 (cix a r d) 3) (by omega) (by omega) (by have e8 : orN (maskN G a) (4 * r + (d + 1)) = orN (maskN G a) (4 * r + d) ||| maskN G a (4 * r + d) := rfl; have e9 : maskN G a (4 * r + d) = 2 ^ G.1 (cix a r d) 3 := (by unfold maskN; rw [← (show cix a r d = 32 * a + (4 * r + d) by unfold cix; omega)]; exact if_pos h_2); rw [e8, e9, ← ex]) (by omega) _ _ _ (lv_sub hl [3, 4, 1, 5, 0] rfl) w
    · intro r x hr8 ex hm H locs ls hl w
      refine lv_iload_n S.1 S.2.1 dX4_calledFrom_4 rfl (lv_at hl 3 rfl) ?_
      refine lv_aload_n S.1 S.2.1 dX4_calledFrom_5 rfl (lv_at hl 0 rfl) ?_
      refine lv_iload_n S.1 S.2.1 dX4_calledFrom_6 rfl (lv_at hl 1 rfl) ?_
      refine nv_rVi (rest := [vI r]) S w hl.1 (c_X4_rowsOf l D Z q qc qw qo G a (by omega)) [0, 1, 2, 3] rfl rfl gX4_calledFrom_X4_rowsOf rfl hdV_X4_rowsOf ⟨Nat.le_of_ble_eq_true rfl, Nat.le_of_ble_eq_true rfl⟩ (q0 := 0) rfl rfl rfl rfl (Nat.le_of_ble_eq_true rfl) ⟨Nat.zero_le _, Nat.zero_le _⟩ dX4_calledFrom_7 (fun H locs w => ?_)
      refine nv_icmp_ge S (by omega) (by omega) (tgt := 62) dX4_calledFrom_10 (by decide) (fun h_3 => ?_) (fun h_3 => ?_)
      · skip
        refine lv_iload_n S.1 S.2.1 dX4_calledFrom_62 rfl (lv_at hl 2 rfl) ?_
        exact nv_iret S w hr hlocks rfl (by rw [ex, show r = G.2.1 a by omega]; rfl) rfl dX4_calledFrom_63
      · skip
        refine lv_iconst (v := nI 0) S.1 S.2.1 dX4_calledFrom_13 (ofInt_nI 0) ?_
        refine lv_istore (lv' := [(4, vI 0), (0, .ref q), (1, vI a), (2, vI x), (3, vI r)]) S.1 S.2.1 dX4_calledFrom_14 hl (by decide) rfl (fun ls hl => ?_)
        exact (ih).1 r 0 x (by omega) (by omega) (by rw [ex, Nat.add_zero]) (by omega) _ _ _ (lv_sub hl [1, 2, 3, 4, 0] rfl) w
set_option maxRecDepth 100000 in
set_option maxHeartbeats 4000000 in
theorem c_X4_calledFrom (l : Launch) (D : va_G) (Z : Nat → ClassId) (q qc qw qo : Nat) (G : SG) (a : Nat) (h : SB G) (ha : a < 6) : Ci l yX4_calledFrom wsX4_calledFrom 2 45 D Z [.ref q, vI a] (songB Z q qc qw qo G) (nI (calledM G a)) (songB Z q qc qw qo G) := by
  refine ne_i (cc := cX4_calledFrom) (maxL := 6) (by decide +kernel) rfl (Nat.le_of_ble_eq_true rfl) (fun p e s m args below meth c A ls (S : CallFix p m c cX4_calledFrom 6 s args wsX4_calledFrom RX4) hr hlocks hl w => ?_)
  have hra := h.2.1 a ha
  have hl : lv_has ls 6 [(0, .ref q), (1, vI a)] := hl
  refine lv_iconst (v := nI 0) S.1 S.2.1 dX4_calledFrom_0 (ofInt_nI 0) ?_
  refine lv_istore_n (lv' := [(2, vI 0), (0, .ref q), (1, vI a)]) S.1 S.2.1 dX4_calledFrom_1 rfl hl (by decide) rfl (fun ls hl => ?_)
  refine lv_iconst (v := nI 0) S.1 S.2.1 dX4_calledFrom_2 (ofInt_nI 0) ?_
  refine lv_istore_n (lv' := [(3, vI 0), (2, vI 0), (0, .ref q), (1, vI a)]) S.1 S.2.1 dX4_calledFrom_3 rfl hl (by decide) rfl (fun ls hl => ?_)
  exact (k_X4_calledFrom l D Z q qc qw qo G a h ha S hr hlocks _).2 0 0 (by omega) rfl (Nat.lt_succ_self _) _ _ _ (lv_sub hl [2, 3, 1, 0] rfl) w

theorem hdV_X4_calledFrom : yX4_calledFrom.cls = RX4 ∧ yX4_calledFrom.cls ≠ "java/lang/invoke/MethodHandle" ∧ yX4_calledFrom.cls ≠ "java/lang/invoke/VarHandle" ∧ (parseMethodDescriptor yX4_calledFrom.desc).map (fun d => d.parameters.length) = some 1 := by decide +kernel
theorem hdV_X4_inOrder : yX4_inOrder.cls = RX4 ∧ yX4_inOrder.cls ≠ "java/lang/invoke/MethodHandle" ∧ yX4_inOrder.cls ≠ "java/lang/invoke/VarHandle" ∧ (parseMethodDescriptor yX4_inOrder.desc).map (fun d => d.parameters.length) = some 0 := by decide +kernel
set_option maxRecDepth 100000 in
set_option maxHeartbeats 4000000 in
theorem k_X4_playable (l : Launch) (D : va_G) (Z : Nat → ClassId) (q qc qw qo : Nat) (G : SG) (h : SB G) {p : Program} {e : Env} {s : State} {m : MethodId} {args : Array Value} {below : List Frame} {meth : Method} {c : Code} {A : Nat → Prop} (S : CallFix p m c cX4_playable 6 s args wsX4_playable RX4) (hr : meth.sig.returnType = (some .int)) (hlocks : meth.locks = false) : ∀ (n9 : Nat), (∀ (t d x y : Nat) (ht6 : t < 6) (hd6 : d ≤ 6) (ex : rchN G (6 * t + d) = (x, y)) (hm : 8 * (6 - t) + (6 - d) - 6 < n9), ∀ (H : Heap) (locs : List Loc) (ls : Array Slot) (hl : lv_has ls 6 [(0, .ref q), (1, vI x), (2, vI y), (3, vI t), (4, vI d)]) (w : Wd D Z A s (songB Z q qc qw qo G) H locs), W p l e (rmO 3 70) s m args below meth c H locs 0 0 (Qi below D Z A args s (nI (playM G)) (songB Z q qc qw qo G)) (F0 m 18 ls [])) ∧ (∀ (t x y : Nat) (ht6 : t ≤ 6) (ex : rchN G (6 * t) = (x, y)) (hm : 8 * (6 - t) + 1 < n9), ∀ (H : Heap) (locs : List Loc) (ls : Array Slot) (hl : lv_has ls 6 [(0, .ref q), (1, vI x), (2, vI y), (3, vI t)]) (w : Wd D Z A s (songB Z q qc qw qo G) H locs), W p l e (rmO 3 70) s m args below meth c H locs 0 0 (Qi below D Z A args s (nI (playM G)) (songB Z q qc qw qo G)) (F0 m 9 ls [])) := by
  intro n9
  induction n9 with
  | zero => exact ⟨fun t d x y ht6 hd6 ex hm => absurd hm (Nat.not_lt_zero _), fun t x y ht6 ex hm => absurd hm (Nat.not_lt_zero _)⟩
  | succ n9 ih =>
    refine ⟨?_, ?_⟩
    · intro t d x y ht6 hd6 ex hm H locs ls hl w
      have hb9 := rchN_lt h (6 * t + d)
      rw [ex] at hb9
      have hx9 : x < 64 := hb9.1
      have hy9 : y < 64 := hb9.2
      have hxa : x &&& 2 ^ d ≤ x := Nat.and_le_left
      have hya : y &&& 2 ^ d ≤ y := Nat.and_le_left
      refine lv_iload S.1 S.2.1 dX4_playable_18 (lv_at hl 4 rfl) ?_
      refine lv_bipush (v := nI 6) S.1 S.2.1 dX4_playable_20 (by decide +kernel) ?_
      refine nv_icmp_ge S (by omega) (by omega) (tgt := 65) dX4_playable_22 (by decide) (fun h_1 => ?_) (fun h_1 => ?_)
      · skip
        refine lv_iinc (v := nI (t + 1)) (lv' := [(3, vI (t + 1)), (0, .ref q), (1, vI x), (2, vI y), (4, vI d)]) S.1 S.2.1 dX4_playable_65 hl (k := 3) rfl (nI_incI t 1) (by decide) rfl (fun ls hl => ?_)
        refine lv_goto (tgt := 9) S.1 S.2.1 dX4_playable_68 (by decide) ?_
        exact (ih).2 (t + 1) x y (by omega) (by rw [← ex]; congr 1; omega) (by omega) _ _ _ (lv_sub hl [1, 2, 3, 0] rfl) w
      · skip
        refine lv_iconst (v := nI 1) S.1 S.2.1 dX4_playable_25 (ofInt_nI 1) ?_
        refine lv_iload S.1 S.2.1 dX4_playable_26 (lv_at hl 4 rfl) ?_
        refine lv_ishl S.1 S.2.1 dX4_playable_28 ?_
        rw [sh1N (by omega)]
        refine lv_istore (lv' := [(5, vI (2 ^ d)), (0, .ref q), (1, vI x), (2, vI y), (3, vI t), (4, vI d)]) S.1 S.2.1 dX4_playable_29 hl (by decide) rfl (fun ls hl => ?_)
        refine lv_iload_n S.1 S.2.1 dX4_playable_31 rfl (lv_at hl 2 rfl) ?_
        refine lv_iload S.1 S.2.1 dX4_playable_32 (lv_at hl 0 rfl) ?_
        refine nv_iand S dX4_playable_34 (z := nI (x &&& 2 ^ d)) (fa_and _ _) ?_
        refine nv_if_eq S (by omega) (tgt := 59) dX4_playable_35 (by decide) (fun h_2 => ?_) (fun h_2 => ?_)
        · skip
          refine lv_iinc (v := nI (d + 1)) (lv' := [(4, vI (d + 1)), (5, vI (2 ^ d)), (0, .ref q), (1, vI x), (2, vI y), (3, vI t)]) S.1 S.2.1 dX4_playable_59 hl (k := 5) rfl (nI_incI d 1) (by decide) rfl (fun ls hl => ?_)
          refine lv_goto (tgt := 18) S.1 S.2.1 dX4_playable_62 (by decide) ?_
          exact (ih).1 t (d + 1) x y (by omega) (by omega) (by rw [rch_step hx9 hy9 (by omega) ex]; exact if_neg (fun z => z.1 h_2)) (by omega) _ _ _ (lv_sub hl [2, 3, 4, 5, 0] rfl) w
        · skip
          refine lv_iload_n S.1 S.2.1 dX4_playable_38 rfl (lv_at hl 3 rfl) ?_
          refine lv_iload S.1 S.2.1 dX4_playable_39 (lv_at hl 0 rfl) ?_
          refine nv_iand S dX4_playable_41 (z := nI (y &&& 2 ^ d)) (fa_and _ _) ?_
          refine nv_if_ne S (by omega) (tgt := 59) dX4_playable_42 (by decide) (fun h_3 => ?_) (fun h_3 => ?_)
          · skip
            refine lv_iinc (v := nI (d + 1)) (lv' := [(4, vI (d + 1)), (5, vI (2 ^ d)), (0, .ref q), (1, vI x), (2, vI y), (3, vI t)]) S.1 S.2.1 dX4_playable_59 hl (k := 5) rfl (nI_incI d 1) (by decide) rfl (fun ls hl => ?_)
            refine lv_goto (tgt := 18) S.1 S.2.1 dX4_playable_62 (by decide) ?_
            exact (ih).1 t (d + 1) x y (by omega) (by omega) (by rw [rch_step hx9 hy9 (by omega) ex]; exact if_neg (fun z => h_3 z.2)) (by omega) _ _ _ (lv_sub hl [2, 3, 4, 5, 0] rfl) w
          · skip
            refine lv_iload_n S.1 S.2.1 dX4_playable_45 rfl (lv_at hl 3 rfl) ?_
            refine lv_iload S.1 S.2.1 dX4_playable_46 (lv_at hl 0 rfl) ?_
            refine nv_ior S dX4_playable_48 (z := nI (y ||| 2 ^ d)) (fa_or _ _) ?_
            refine lv_istore_n (lv' := [(2, vI (y ||| 2 ^ d)), (5, vI (2 ^ d)), (0, .ref q), (1, vI x), (3, vI t), (4, vI d)]) S.1 S.2.1 dX4_playable_49 rfl hl (by decide) rfl (fun ls hl => ?_)
            refine lv_iload_n S.1 S.2.1 dX4_playable_50 rfl (lv_at hl 3 rfl) ?_
            refine lv_aload_n S.1 S.2.1 dX4_playable_51 rfl (lv_at hl 2 rfl) ?_
            refine lv_iload S.1 S.2.1 dX4_playable_52 (lv_at hl 5 rfl) ?_
            refine nv_rVi (rest := [vI x]) S w hl.1 (c_X4_calledFrom l D Z q qc qw qo G d h (by omega)) [0, 1, 2, 3] rfl rfl gX4_playable_X4_calledFrom rfl hdV_X4_calledFrom ⟨Nat.le_of_ble_eq_true rfl, Nat.le_of_ble_eq_true rfl⟩ (q0 := 0) rfl rfl rfl rfl (Nat.le_of_ble_eq_true rfl) ⟨Nat.zero_le _, Nat.zero_le _⟩ dX4_playable_54 (fun H locs w => ?_)
            refine nv_ior S dX4_playable_57 (z := nI (x ||| calledM G d)) (fa_or _ _) ?_
            refine lv_istore_n (lv' := [(1, vI (x ||| calledM G d)), (2, vI (y ||| 2 ^ d)), (5, vI (2 ^ d)), (0, .ref q), (3, vI t), (4, vI d)]) S.1 S.2.1 dX4_playable_58 rfl hl (by decide) rfl (fun ls hl => ?_)
            refine lv_iinc (v := nI (d + 1)) (lv' := [(4, vI (d + 1)), (1, vI (x ||| calledM G d)), (2, vI (y ||| 2 ^ d)), (5, vI (2 ^ d)), (0, .ref q), (3, vI t)]) S.1 S.2.1 dX4_playable_59 hl (k := 5) rfl (nI_incI d 1) (by decide) rfl (fun ls hl => ?_)
            refine lv_goto (tgt := 18) S.1 S.2.1 dX4_playable_62 (by decide) ?_
            exact (ih).1 t (d + 1) (x ||| calledM G d) (y ||| 2 ^ d) (by omega) (by omega) (by rw [rch_step hx9 hy9 (by omega) ex]; exact if_pos ⟨h_2, h_3⟩) (by omega) _ _ _ (lv_sub hl [4, 1, 2, 5, 0] rfl) w
    · intro t x y ht6 ex hm H locs ls hl w
      refine lv_iload_n S.1 S.2.1 dX4_playable_9 rfl (lv_at hl 3 rfl) ?_
      refine lv_bipush (v := nI 6) S.1 S.2.1 dX4_playable_10 (by decide +kernel) ?_
      refine nv_icmp_ge S (by omega) (by omega) (tgt := 71) dX4_playable_12 (by decide) (fun h_4 => ?_) (fun h_4 => ?_)
      · skip
        refine lv_iload_n S.1 S.2.1 dX4_playable_71 rfl (lv_at hl 1 rfl) ?_
        exact nv_iret S w hr hlocks rfl (by unfold playM; rw [show (36 : Nat) = 6 * t by omega, ex]) rfl dX4_playable_72
      · skip
        refine lv_iconst (v := nI 0) S.1 S.2.1 dX4_playable_15 (ofInt_nI 0) ?_
        refine lv_istore (lv' := [(4, vI 0), (0, .ref q), (1, vI x), (2, vI y), (3, vI t)]) S.1 S.2.1 dX4_playable_16 hl (by decide) rfl (fun ls hl => ?_)
        exact (ih).1 t 0 x y (by omega) (by omega) ex (by omega) _ _ _ (lv_sub hl [1, 2, 3, 4, 0] rfl) w
set_option maxRecDepth 100000 in
set_option maxHeartbeats 4000000 in
theorem c_X4_playable (l : Launch) (D : va_G) (Z : Nat → ClassId) (q qc qw qo : Nat) (G : SG) (h : SB G) : Ci l yX4_playable wsX4_playable 3 70 D Z [.ref q] (songB Z q qc qw qo G) (nI (playM G)) (songB Z q qc qw qo G) := by
  refine ne_i (cc := cX4_playable) (maxL := 6) (by decide +kernel) rfl (Nat.le_of_ble_eq_true rfl) (fun p e s m args below meth c A ls (S : CallFix p m c cX4_playable 6 s args wsX4_playable RX4) hr hlocks hl w => ?_)
  have hl : lv_has ls 6 [(0, .ref q)] := hl
  refine lv_aload_n S.1 S.2.1 dX4_playable_0 rfl (lv_at hl 0 rfl) ?_
  refine nv_rVi (rest := []) S w hl.1 (c_X4_inOrder l D Z q qc qw qo G h) [0, 1, 2, 3] rfl rfl gX4_playable_X4_inOrder rfl hdV_X4_inOrder ⟨Nat.le_of_ble_eq_true rfl, Nat.le_of_ble_eq_true rfl⟩ (q0 := 0) rfl rfl rfl rfl (Nat.le_of_ble_eq_true rfl) ⟨Nat.zero_le _, Nat.zero_le _⟩ dX4_playable_1 (fun H locs w => ?_)
  refine lv_istore_n (lv' := [(1, vI (orderM G)), (0, .ref q)]) S.1 S.2.1 dX4_playable_4 rfl hl (by decide) rfl (fun ls hl => ?_)
  refine lv_iconst (v := nI 0) S.1 S.2.1 dX4_playable_5 (ofInt_nI 0) ?_
  refine lv_istore_n (lv' := [(2, vI 0), (1, vI (orderM G)), (0, .ref q)]) S.1 S.2.1 dX4_playable_6 rfl hl (by decide) rfl (fun ls hl => ?_)
  refine lv_iconst (v := nI 0) S.1 S.2.1 dX4_playable_7 (ofInt_nI 0) ?_
  refine lv_istore_n (lv' := [(3, vI 0), (2, vI 0), (1, vI (orderM G)), (0, .ref q)]) S.1 S.2.1 dX4_playable_8 rfl hl (by decide) rfl (fun ls hl => ?_)
  exact (k_X4_playable l D Z q qc qw qo G h S hr hlocks _).2 0 (orderM G) 0 (by omega) rfl (Nat.lt_succ_self _) _ _ _ (lv_sub hl [3, 2, 1, 0] rfl) w

theorem hdV_X4_countCells : yX4_countCells.cls = RX4 ∧ yX4_countCells.cls ≠ "java/lang/invoke/MethodHandle" ∧ yX4_countCells.cls ≠ "java/lang/invoke/VarHandle" ∧ (parseMethodDescriptor yX4_countCells.desc).map (fun d => d.parameters.length) = some 2 := by decide +kernel
theorem hdV_X4_countPlaces : yX4_countPlaces.cls = RX4 ∧ yX4_countPlaces.cls ≠ "java/lang/invoke/MethodHandle" ∧ yX4_countPlaces.cls ≠ "java/lang/invoke/VarHandle" ∧ (parseMethodDescriptor yX4_countPlaces.desc).map (fun d => d.parameters.length) = some 1 := by decide +kernel
theorem hdV_X4_playable : yX4_playable.cls = RX4 ∧ yX4_playable.cls ≠ "java/lang/invoke/MethodHandle" ∧ yX4_playable.cls ≠ "java/lang/invoke/VarHandle" ∧ (parseMethodDescriptor yX4_playable.desc).map (fun d => d.parameters.length) = some 0 := by decide +kernel
set_option maxRecDepth 100000 in
set_option maxHeartbeats 4000000 in
theorem c_X4_patternFact (l : Launch) (D : va_G) (Z : Nat → ClassId) (q qc qw qo : Nat) (G : SG) (a k : Nat) (h : SB G) (ha : a < 6) (hk : k < 5) : Ci l yX4_patternFact wsX4_patternFact 4 95 D Z [.ref q, vI a, vI k] (songB Z q qc qw qo G) (nI (factP G a k)) (songB Z q qc qw qo G) := by
  refine ne_i (cc := cX4_patternFact) (maxL := 3) (by decide +kernel) rfl (Nat.le_of_ble_eq_true rfl) (fun p e s m args below meth c A ls (S : CallFix p m c cX4_patternFact 3 s args wsX4_patternFact RX4) hr hlocks hl w => ?_)
  have hl : lv_has ls 3 [(0, .ref q), (1, vI a), (2, vI k)] := hl
  refine lv_iload_n S.1 S.2.1 dX4_patternFact_0 rfl (lv_at hl 2 rfl) ?_
  by_cases h_1 : k = 0
  · skip
    refine nv_tableIn S (by omega) dX4_patternFact_1 (by rw [h_1]; decide) (by rw [h_1]; decide) (off := 31) (by rw [h_1]; rfl) (tgt := 32) (by decide) ?_
    refine lv_aload_n S.1 S.2.1 dX4_patternFact_32 rfl (lv_at hl 0 rfl) ?_
    refine lv_iload_n S.1 S.2.1 dX4_patternFact_33 rfl (lv_at hl 1 rfl) ?_
    refine nv_rVi (rest := []) S w hl.1 (c_X4_rowsOf l D Z q qc qw qo G a (by omega)) [0, 1, 2, 3] rfl rfl gX4_patternFact_X4_rowsOf rfl hdV_X4_rowsOf ⟨Nat.le_of_ble_eq_true rfl, Nat.le_of_ble_eq_true rfl⟩ (q0 := 0) rfl rfl rfl rfl (Nat.le_of_ble_eq_true rfl) ⟨Nat.zero_le _, Nat.zero_le _⟩ dX4_patternFact_34 (fun H locs w => ?_)
    exact nv_iret S w hr hlocks rfl (by unfold factP; simp [h_1]; try rfl) rfl dX4_patternFact_37
  · skip
    by_cases h_2 : k = 1
    · skip
      refine nv_tableIn S (by omega) dX4_patternFact_1 (by rw [h_2]; decide) (by rw [h_2]; decide) (off := 37) (by rw [h_2]; rfl) (tgt := 38) (by decide) ?_
      refine lv_aload_n S.1 S.2.1 dX4_patternFact_38 rfl (lv_at hl 0 rfl) ?_
      refine lv_iload_n S.1 S.2.1 dX4_patternFact_39 rfl (lv_at hl 1 rfl) ?_
      refine lv_iconst (v := nI 0) S.1 S.2.1 dX4_patternFact_40 (ofInt_nI 0) ?_
      refine nv_rVi (rest := []) S w hl.1 (c_X4_countCells0 l D Z q qc qw qo G a h (by omega)) [0, 1, 2, 3] rfl rfl gX4_patternFact_X4_countCells rfl hdV_X4_countCells ⟨Nat.le_of_ble_eq_true rfl, Nat.le_of_ble_eq_true rfl⟩ (q0 := 0) rfl rfl rfl rfl (Nat.le_of_ble_eq_true rfl) ⟨Nat.zero_le _, Nat.zero_le _⟩ dX4_patternFact_41 (fun H locs w => ?_)
      exact nv_iret S w hr hlocks rfl (by unfold factP; simp [h_1, h_2]; try rfl) rfl dX4_patternFact_44
    · skip
      by_cases h_3 : k = 2
      · skip
        refine nv_tableIn S (by omega) dX4_patternFact_1 (by rw [h_3]; decide) (by rw [h_3]; decide) (off := 44) (by rw [h_3]; rfl) (tgt := 45) (by decide) ?_
        refine lv_aload_n S.1 S.2.1 dX4_patternFact_45 rfl (lv_at hl 0 rfl) ?_
        refine lv_iload_n S.1 S.2.1 dX4_patternFact_46 rfl (lv_at hl 1 rfl) ?_
        refine lv_iconst (v := nI 1) S.1 S.2.1 dX4_patternFact_47 (ofInt_nI 1) ?_
        refine nv_rVi (rest := []) S w hl.1 (c_X4_countCells1 l D Z q qc qw qo G a h (by omega)) [0, 1, 2, 3] rfl rfl gX4_patternFact_X4_countCells rfl hdV_X4_countCells ⟨Nat.le_of_ble_eq_true rfl, Nat.le_of_ble_eq_true rfl⟩ (q0 := 0) rfl rfl rfl rfl (Nat.le_of_ble_eq_true rfl) ⟨Nat.zero_le _, Nat.zero_le _⟩ dX4_patternFact_48 (fun H locs w => ?_)
        exact nv_iret S w hr hlocks rfl (by unfold factP; simp [h_1, h_2, h_3]; try rfl) rfl dX4_patternFact_51
      · skip
        by_cases h_4 : k = 3
        · skip
          refine nv_tableIn S (by omega) dX4_patternFact_1 (by rw [h_4]; decide) (by rw [h_4]; decide) (off := 51) (by rw [h_4]; rfl) (tgt := 52) (by decide) ?_
          refine lv_aload_n S.1 S.2.1 dX4_patternFact_52 rfl (lv_at hl 0 rfl) ?_
          refine lv_iload_n S.1 S.2.1 dX4_patternFact_53 rfl (lv_at hl 1 rfl) ?_
          refine nv_rVi (rest := []) S w hl.1 (c_X4_countPlaces l D Z q qc qw qo G a h (by omega)) [0, 1, 2, 3] rfl rfl gX4_patternFact_X4_countPlaces rfl hdV_X4_countPlaces ⟨Nat.le_of_ble_eq_true rfl, Nat.le_of_ble_eq_true rfl⟩ (q0 := 0) rfl rfl rfl rfl (Nat.le_of_ble_eq_true rfl) ⟨Nat.zero_le _, Nat.zero_le _⟩ dX4_patternFact_54 (fun H locs w => ?_)
          exact nv_iret S w hr hlocks rfl (by unfold factP; simp [h_1, h_2, h_3, h_4]; try rfl) rfl dX4_patternFact_57
        · skip
          refine nv_tableOut S (by omega) dX4_patternFact_1 (by omega) (tgt := 58) (by decide) ?_
          refine lv_aload_n S.1 S.2.1 dX4_patternFact_58 rfl (lv_at hl 0 rfl) ?_
          have hpm := playM_lt h
          have hpa : playM G &&& 2 ^ a ≤ playM G := Nat.and_le_left
          refine nv_rVi (rest := []) S w hl.1 (c_X4_playable l D Z q qc qw qo G h) [0, 1, 2, 3] rfl rfl gX4_patternFact_X4_playable rfl hdV_X4_playable ⟨Nat.le_of_ble_eq_true rfl, Nat.le_of_ble_eq_true rfl⟩ (q0 := 0) rfl rfl rfl rfl (Nat.le_of_ble_eq_true rfl) ⟨Nat.zero_le _, Nat.zero_le _⟩ dX4_patternFact_59 (fun H locs w => ?_)
          refine lv_iconst (v := nI 1) S.1 S.2.1 dX4_patternFact_62 (ofInt_nI 1) ?_
          refine lv_iload_n S.1 S.2.1 dX4_patternFact_63 rfl (lv_at hl 1 rfl) ?_
          refine lv_ishl S.1 S.2.1 dX4_patternFact_64 ?_
          rw [sh1N (by omega)]
          refine nv_iand S dX4_patternFact_65 (z := nI (playM G &&& 2 ^ a)) (fa_and _ _) ?_
          refine nv_if_eq S (by omega) (tgt := 73) dX4_patternFact_66 (by decide) (fun h_5 => ?_) (fun h_5 => ?_)
          · skip
            refine lv_iconst (v := nI 0) S.1 S.2.1 dX4_patternFact_73 (ofInt_nI 0) ?_
            exact nv_iret S w hr hlocks rfl (by unfold factP; simp only [h_1, h_2, h_3, h_4, if_false]; rw [bit_and hpm (by omega)]; rw [bP_f (fun z => z h_5)]) rfl dX4_patternFact_74
          · skip
            refine lv_iconst (v := nI 1) S.1 S.2.1 dX4_patternFact_69 (ofInt_nI 1) ?_
            refine lv_goto (tgt := 74) S.1 S.2.1 dX4_patternFact_70 (by decide) ?_
            exact nv_iret S w hr hlocks rfl (by unfold factP; simp only [h_1, h_2, h_3, h_4, if_false]; rw [bit_and hpm (by omega)]; rw [bP_t h_5]) rfl dX4_patternFact_74
