theorem hn_X5_copyFrom_5 : ∀ w ∈ wsX50, w ∈ wsX5_copyFrom := by decide +kernel
theorem hdV_X4_copyFrom : yX4_copyFrom.cls = RX4 ∧ yX4_copyFrom.cls ≠ "java/lang/invoke/MethodHandle" ∧ yX4_copyFrom.cls ≠ "java/lang/invoke/VarHandle" ∧ (parseMethodDescriptor yX4_copyFrom.desc).map (fun d => d.parameters.length) = some 1 := by decide +kernel
theorem hdV_X3_copyFrom : yX3_copyFrom.cls = RX3 ∧ yX3_copyFrom.cls ≠ "java/lang/invoke/MethodHandle" ∧ yX3_copyFrom.cls ≠ "java/lang/invoke/VarHandle" ∧ (parseMethodDescriptor yX3_copyFrom.desc).map (fun d => d.parameters.length) = some 1 := by decide +kernel
set_option maxRecDepth 100000 in
set_option maxHeartbeats 4000000 in
theorem c_X5_copyFrom (l : Launch) (D : va_G) (Z : Nat → ClassId) (a : Nat → Nat) (X : ST) (b : Nat → Nat) (Y : ST)  : Cv l yX5_copyFrom wsX5_copyFrom 3 69 D Z [.ref (a 0), .ref (b 0)] (stB Z a X ++ stB Z b Y)  (stB Z a Y ++ stB Z b Y) := by
  refine ne_v (cc := cX5_copyFrom) (maxL := 2) (by decide +kernel) rfl (Nat.le_of_ble_eq_true rfl) (fun p e s m args below meth c A ls (S : CallFix p m c cX5_copyFrom 2 s args wsX5_copyFrom RX5) hr hlocks hl w => ?_)
  have hl : lv_has ls 2 [(0, .ref (a 0)), (1, .ref (b 0))] := hl
  have w := w.as (ws' := stB Z a X ++ stO Z (b 0) (b 1) (b 5) ++ plB Z (fun k => b (5 + k)) Y.2 ++ songB Z (b 1) (b 2) (b 3) (b 4) Y.1) rfl
  have w := w.as (ws' := stO Z (a 0) (a 1) (a 5) ++ plB Z (fun k => a (5 + k)) X.2 ++ songB Z (a 1) (a 2) (a 3) (a 4) X.1 ++ stO Z (b 0) (b 1) (b 5) ++ plB Z (fun k => b (5 + k)) Y.2 ++ songB Z (b 1) (b 2) (b 3) (b 4) Y.1) rfl
  refine lv_aload_n S.1 S.2.1 dX5_copyFrom_0 rfl (lv_at hl 0 rfl) ?_
  refine nv_get S w (C := RX5) (T := TX5) (N := 2) hn_X5_copyFrom_5 0 rfl rfl 0 (by decide) (List.mem_of_getElem? (i := 1) rfl) (v := .ref (a 1)) rfl dX5_copyFrom_1 ?_
  refine lv_aload_n S.1 S.2.1 dX5_copyFrom_4 rfl (lv_at hl 1 rfl) ?_
  refine nv_get S w (C := RX5) (T := TX5) (N := 2) hn_X5_copyFrom_5 19 rfl rfl 0 (by decide) (List.mem_of_getElem? (i := 1) rfl) (v := .ref (b 1)) rfl dX5_copyFrom_5 ?_
  have w := w.perm (ws' := stO Z (a 0) (a 1) (a 5) ++ plB Z (fun k => a (5 + k)) X.2 ++ songB Z (a 1) (a 2) (a 3) (a 4) X.1 ++ songB Z (b 1) (b 2) (b 3) (b 4) Y.1 ++ stO Z (b 0) (b 1) (b 5) ++ plB Z (fun k => b (5 + k)) Y.2) (List.Perm.trans sw2 (List.Perm.append_right _ sw2))
  refine nv_fVv (rest := []) (stO Z (a 0) (a 1) (a 5) ++ plB Z (fun k => a (5 + k)) X.2) (stO Z (b 0) (b 1) (b 5) ++ plB Z (fun k => b (5 + k)) Y.2) (ws' := stO Z (a 0) (a 1) (a 5) ++ plB Z (fun k => a (5 + k)) X.2 ++ songB Z (a 1) (a 2) (a 3) (a 4) Y.1 ++ songB Z (b 1) (b 2) (b 3) (b 4) Y.1 ++ stO Z (b 0) (b 1) (b 5) ++ plB Z (fun k => b (5 + k)) Y.2) S w hl.1 (c_X4_copyFrom l D Z (a 1) (a 2) (a 3) (a 4) X.1 (b 1) (b 2) (b 3) (b 4) Y.1 ) (by simp only [List.append_assoc, List.nil_append, List.append_nil]) rfl (by simp only [List.append_assoc, List.nil_append, List.append_nil]) gX5_copyFrom_X4_copyFrom rfl hdV_X4_copyFrom ⟨Nat.le_of_ble_eq_true rfl, Nat.le_of_ble_eq_true rfl⟩ (q0 := 0) rfl rfl rfl rfl (Nat.le_of_ble_eq_true rfl) ⟨Nat.zero_le _, Nat.zero_le _⟩ dX5_copyFrom_8 (fun H locs w => ?_)
  have w := w.perm (ws' := stO Z (a 0) (a 1) (a 5) ++ plB Z (fun k => a (5 + k)) X.2 ++ songB Z (a 1) (a 2) (a 3) (a 4) Y.1 ++ stO Z (b 0) (b 1) (b 5) ++ plB Z (fun k => b (5 + k)) Y.2 ++ songB Z (b 1) (b 2) (b 3) (b 4) Y.1) (List.Perm.trans (List.Perm.append_right _ sw2) sw2)
  refine lv_aload_n S.1 S.2.1 dX5_copyFrom_11 rfl (lv_at hl 0 rfl) ?_
  refine nv_get S w (C := RX5) (T := TX5) (N := 2) hn_X5_copyFrom_5 0 rfl rfl 1 (by decide) (List.mem_of_getElem? (i := 2) rfl) (v := .ref (a 5)) rfl dX5_copyFrom_12 ?_
  refine lv_aload_n S.1 S.2.1 dX5_copyFrom_15 rfl (lv_at hl 1 rfl) ?_
  refine nv_get S w (C := RX5) (T := TX5) (N := 2) hn_X5_copyFrom_5 19 rfl rfl 1 (by decide) (List.mem_of_getElem? (i := 2) rfl) (v := .ref (b 5)) rfl dX5_copyFrom_16 ?_
  have w := w.perm (ws' := stO Z (a 0) (a 1) (a 5) ++ plB Z (fun k => a (5 + k)) X.2 ++ plB Z (fun k => b (5 + k)) Y.2 ++ songB Z (a 1) (a 2) (a 3) (a 4) Y.1 ++ stO Z (b 0) (b 1) (b 5) ++ songB Z (b 1) (b 2) (b 3) (b 4) Y.1) (List.Perm.trans (List.Perm.append_right _ sw2) (List.Perm.append_right _ (List.Perm.append_right _ sw2)))
  refine nv_fVv (rest := []) (stO Z (a 0) (a 1) (a 5)) (songB Z (a 1) (a 2) (a 3) (a 4) Y.1 ++ stO Z (b 0) (b 1) (b 5) ++ songB Z (b 1) (b 2) (b 3) (b 4) Y.1) (ws' := stO Z (a 0) (a 1) (a 5) ++ plB Z (fun k => a (5 + k)) Y.2 ++ plB Z (fun k => b (5 + k)) Y.2 ++ songB Z (a 1) (a 2) (a 3) (a 4) Y.1 ++ stO Z (b 0) (b 1) (b 5) ++ songB Z (b 1) (b 2) (b 3) (b 4) Y.1) S w hl.1 (c_X3_copyFrom l D Z (fun k => a (5 + k)) X.2 (fun k => b (5 + k)) Y.2 ) (by simp only [List.append_assoc, List.nil_append, List.append_nil]) rfl (by simp only [List.append_assoc, List.nil_append, List.append_nil]) gX5_copyFrom_X3_copyFrom rfl hdV_X3_copyFrom ⟨Nat.le_of_ble_eq_true rfl, Nat.le_of_ble_eq_true rfl⟩ (q0 := 0) rfl rfl rfl rfl (Nat.le_of_ble_eq_true rfl) ⟨Nat.zero_le _, Nat.zero_le _⟩ dX5_copyFrom_19 (fun H locs w => ?_)
  have w := w.perm (ws' := stO Z (a 0) (a 1) (a 5) ++ plB Z (fun k => a (5 + k)) Y.2 ++ songB Z (a 1) (a 2) (a 3) (a 4) Y.1 ++ stO Z (b 0) (b 1) (b 5) ++ plB Z (fun k => b (5 + k)) Y.2 ++ songB Z (b 1) (b 2) (b 3) (b 4) Y.1) (List.Perm.trans (List.Perm.append_right _ (List.Perm.append_right _ sw2)) (List.Perm.append_right _ sw2))
  exact nv_vret S w hr hlocks rfl dX5_copyFrom_22

theorem hn_X1_ringIndex_1 : ∀ w ∈ wsX10, w ∈ wsX1_ringIndex := by decide +kernel
set_option maxRecDepth 100000 in
set_option maxHeartbeats 4000000 in
theorem c_X1_ringIndex (l : Launch) (D : va_G) (Z : Nat → ClassId) (q qr o n k : Nat) (ho : o < 4) (hk : k < 5) : Ci l yX1_ringIndex wsX1_ringIndex 0 0 D Z [.ref q, vI k] (hiO Z q qr o n) (nI ((o + k) % 4)) (hiO Z q qr o n) := by
  refine ne_i (cc := cX1_ringIndex) (maxL := 2) (by decide +kernel) rfl (Nat.le_of_ble_eq_true rfl) (fun p e s m args below meth c A ls (S : CallFix p m c cX1_ringIndex 2 s args wsX1_ringIndex RX1) hr hlocks hl w => ?_)
  have hl : lv_has ls 2 [(0, .ref q), (1, vI k)] := hl
  refine lv_aload_n S.1 S.2.1 dX1_ringIndex_0 rfl (lv_at hl 0 rfl) ?_
  refine nv_get S w (C := RX1) (T := TX1) (N := 3) hn_X1_ringIndex_1 0 rfl rfl 1 (by decide) (List.mem_of_getElem? (i := 1) rfl) (v := vI o) rfl dX1_ringIndex_1 ?_
  refine lv_iload_n S.1 S.2.1 dX1_ringIndex_4 rfl (lv_at hl 1 rfl) ?_
  refine nv_iadd S dX1_ringIndex_5 ?_
  refine lv_iconst (v := nI 4) S.1 S.2.1 dX1_ringIndex_6 (ofInt_nI 4) ?_
  refine nv_irem S (by omega) (by omega) (by omega) dX1_ringIndex_7 ?_
  exact nv_iret S w hr hlocks rfl rfl rfl dX1_ringIndex_8

theorem hn_X1_save_1 : ∀ w ∈ wsX10, w ∈ wsX1_save := by decide +kernel
theorem hdV_X1_ringIndex : yX1_ringIndex.cls = RX1 ∧ yX1_ringIndex.cls ≠ "java/lang/invoke/MethodHandle" ∧ yX1_ringIndex.cls ≠ "java/lang/invoke/VarHandle" ∧ (parseMethodDescriptor yX1_ringIndex.desc).map (fun d => d.parameters.length) = some 1 := by decide +kernel
theorem hdV_X5_copyFrom : yX5_copyFrom.cls = RX5 ∧ yX5_copyFrom.cls ≠ "java/lang/invoke/MethodHandle" ∧ yX5_copyFrom.cls ≠ "java/lang/invoke/VarHandle" ∧ (parseMethodDescriptor yX5_copyFrom.desc).map (fun d => d.parameters.length) = some 1 := by decide +kernel
set_option maxRecDepth 100000 in
set_option maxHeartbeats 4000000 in
theorem k_X1_save_27 (l : Launch) (D : va_G) (Z : Nat → ClassId) (q qr : Nat) (a : Nat → Nat → Nat) (o n : Nat) (X : Nat → ST) (b : Nat → Nat) (x : ST) (ho : o < 4) (hn : n ≤ 4) {p : Program} {e : Env} {s : State} {m : MethodId} {args : Array Value} {below : List Frame} {meth : Method} {c : Code} {A : Nat → Prop} (S : CallFix p m c cX1_save 2 s args wsX1_save RX1) (hr : meth.sig.returnType = none) (hlocks : meth.locks = false) (o2 n2 : Nat) (eo : o2 = svO o n) (en : n2 = svN n) : ∀ (H : Heap) (locs : List Loc) (ls : Array Slot) (hl : lv_has ls 2 [(0, .ref q), (1, .ref (b 0))]) (w : Wd D Z A s (hiO Z q qr o2 n2 ++ hiA Z qr a ++ stB Z (a 0) (X 0) ++ stB Z (a 1) (X 1) ++ stB Z (a 2) (X 2) ++ stB Z (a 3) (X 3) ++ stB Z b x) H locs), W p l e (rmO 4 90) s m args below meth c H locs 0 0 (Qv below D Z A args s (hiB Z q qr a (svO o n) (svN n + 1) (svX o n X x) ++ stB Z b x)) (F0 m 27 ls []) := by
  intro H locs ls hl w
  have ho2 : o2 < 4 := by rw [eo]; unfold svO; split <;> omega
  have hn2 : n2 ≤ 3 := by rw [en]; unfold svN; split <;> omega
  refine lv_aload_n S.1 S.2.1 dX1_save_27 rfl (lv_at hl 0 rfl) ?_
  refine nv_get S w (C := RX1) (T := TX1) (N := 3) hn_X1_save_1 0 rfl rfl 0 (by decide) (List.mem_of_getElem? (i := 3) rfl) (v := .ref qr) rfl dX1_save_28 ?_
  refine lv_aload_n S.1 S.2.1 dX1_save_31 rfl (lv_at hl 0 rfl) ?_
  refine lv_aload_n S.1 S.2.1 dX1_save_32 rfl (lv_at hl 0 rfl) ?_
  refine nv_get S w (C := RX1) (T := TX1) (N := 3) hn_X1_save_1 0 rfl rfl 2 (by decide) (List.mem_of_getElem? (i := 1) rfl) (v := vI n2) rfl dX1_save_33 ?_
  refine nv_gVi (rest := [.ref qr]) ([]) (hiA Z qr a ++ stB Z (a 0) (X 0) ++ stB Z (a 1) (X 1) ++ stB Z (a 2) (X 2) ++ stB Z (a 3) (X 3) ++ stB Z b x) S w hl.1 (c_X1_ringIndex l D Z q qr o2 n2 n2 (by omega) (by omega)) (by simp only [List.append_assoc, List.nil_append, List.append_nil]) gX1_save_X1_ringIndex rfl hdV_X1_ringIndex ⟨Nat.le_of_ble_eq_true rfl, Nat.le_of_ble_eq_true rfl⟩ (q0 := 0) rfl rfl rfl rfl (Nat.le_of_ble_eq_true rfl) ⟨Nat.zero_le _, Nat.zero_le _⟩ dX1_save_36 (fun H locs w => ?_)
  obtain ⟨j, hj⟩ : ∃ z, z = (o2 + n2) % 4 := ⟨_, rfl⟩
  refine W.eq (g2 := F0 m 39 ls [vI j, .ref qr]) (by rw [hj]) ?_
  have hj4 : j < 4 := by omega
  rcases (show j = 0 ∨ j = 1 ∨ j = 2 ∨ j = 3 by omega) with rfl | rfl | rfl | rfl
  · skip
    refine nv_aald S w (i := 0) (q := (a 0 0)) 1 2 rfl rfl (by omega) (by decide) rfl dX1_save_39 ?_
    refine lv_aload_n S.1 S.2.1 dX1_save_40 rfl (lv_at hl 1 rfl) ?_
    have w := w.perm (ws' := hiO Z q qr o2 n2 ++ hiA Z qr a ++ stB Z (a 0) (X 0) ++ stB Z b x ++ stB Z (a 1) (X 1) ++ stB Z (a 2) (X 2) ++ stB Z (a 3) (X 3)) (List.Perm.trans sw2 (List.Perm.trans (List.Perm.append_right _ sw2) (List.Perm.append_right _ (List.Perm.append_right _ sw2))))
    refine nv_fVv (rest := []) (hiO Z q qr o2 n2 ++ hiA Z qr a) (stB Z (a 1) (X 1) ++ stB Z (a 2) (X 2) ++ stB Z (a 3) (X 3)) (ws' := hiO Z q qr o2 n2 ++ hiA Z qr a ++ stB Z (a 0) x ++ stB Z b x ++ stB Z (a 1) (X 1) ++ stB Z (a 2) (X 2) ++ stB Z (a 3) (X 3)) S w hl.1 (c_X5_copyFrom l D Z (a 0) (X 0) b x ) (by simp only [List.append_assoc, List.nil_append, List.append_nil]) rfl (by simp only [List.append_assoc, List.nil_append, List.append_nil]) gX1_save_X5_copyFrom rfl hdV_X5_copyFrom ⟨Nat.le_of_ble_eq_true rfl, Nat.le_of_ble_eq_true rfl⟩ (q0 := 0) rfl rfl rfl rfl (Nat.le_of_ble_eq_true rfl) ⟨Nat.zero_le _, Nat.zero_le _⟩ dX1_save_41 (fun H locs w => ?_)
    have w := w.perm (ws' := hiO Z q qr o2 n2 ++ hiA Z qr a ++ stB Z (a 0) x ++ stB Z (a 1) (X 1) ++ stB Z (a 2) (X 2) ++ stB Z (a 3) (X 3) ++ stB Z b x) (List.Perm.trans (List.Perm.append_right _ (List.Perm.append_right _ sw2)) (List.Perm.trans (List.Perm.append_right _ sw2) sw2))
    refine lv_aload_n S.1 S.2.1 dX1_save_44 rfl (lv_at hl 0 rfl) ?_
    refine lv_dup S.1 S.2.1 dX1_save_45 rfl ?_
    refine nv_get S w (C := RX1) (T := TX1) (N := 3) hn_X1_save_1 0 rfl rfl 2 (by decide) (List.mem_of_getElem? (i := 1) rfl) (v := vI n2) rfl dX1_save_46 ?_
    refine lv_iconst (v := nI 1) S.1 S.2.1 dX1_save_49 (ofInt_nI 1) ?_
    refine nv_iadd S dX1_save_50 ?_
    refine nv_put S w (C := RX1) (T := TX1) (N := 3) hn_X1_save_1 tyX1_ok nmX1 0 rfl rfl 2 (by decide) (List.mem_of_getElem? (i := 1) rfl) rfl rfl (Nat.le_of_ble_eq_true rfl) (ws' := [(q, .inr (0, [.ref qr, vI o2, vI (n2 + 1)]))] ++ hiA Z qr a ++ stB Z (a 0) x ++ stB Z (a 1) (X 1) ++ stB Z (a 2) (X 2) ++ stB Z (a 3) (X 3) ++ stB Z b x) rfl dX1_save_51 (fun H locs w => ?_)
    exact nv_vret S w hr hlocks (by rw [← en]; unfold svX; rw [← eo, ← en, ← hj]; rfl) dX1_save_54
  · skip
    refine nv_aald S w (i := 1) (q := (a 1 0)) 1 2 rfl rfl (by omega) (by decide) rfl dX1_save_39 ?_
    refine lv_aload_n S.1 S.2.1 dX1_save_40 rfl (lv_at hl 1 rfl) ?_
    have w := w.perm (ws' := hiO Z q qr o2 n2 ++ hiA Z qr a ++ stB Z (a 0) (X 0) ++ stB Z (a 1) (X 1) ++ stB Z b x ++ stB Z (a 2) (X 2) ++ stB Z (a 3) (X 3)) (List.Perm.trans sw2 (List.Perm.append_right _ sw2))
    refine nv_fVv (rest := []) (hiO Z q qr o2 n2 ++ hiA Z qr a ++ stB Z (a 0) (X 0)) (stB Z (a 2) (X 2) ++ stB Z (a 3) (X 3)) (ws' := hiO Z q qr o2 n2 ++ hiA Z qr a ++ stB Z (a 0) (X 0) ++ stB Z (a 1) x ++ stB Z b x ++ stB Z (a 2) (X 2) ++ stB Z (a 3) (X 3)) S w hl.1 (c_X5_copyFrom l D Z (a 1) (X 1) b x ) (by simp only [List.append_assoc, List.nil_append, List.append_nil]) rfl (by simp only [List.append_assoc, List.nil_append, List.append_nil]) gX1_save_X5_copyFrom rfl hdV_X5_copyFrom ⟨Nat.le_of_ble_eq_true rfl, Nat.le_of_ble_eq_true rfl⟩ (q0 := 0) rfl rfl rfl rfl (Nat.le_of_ble_eq_true rfl) ⟨Nat.zero_le _, Nat.zero_le _⟩ dX1_save_41 (fun H locs w => ?_)
    have w := w.perm (ws' := hiO Z q qr o2 n2 ++ hiA Z qr a ++ stB Z (a 0) (X 0) ++ stB Z (a 1) x ++ stB Z (a 2) (X 2) ++ stB Z (a 3) (X 3) ++ stB Z b x) (List.Perm.trans (List.Perm.append_right _ sw2) sw2)
    refine lv_aload_n S.1 S.2.1 dX1_save_44 rfl (lv_at hl 0 rfl) ?_
    refine lv_dup S.1 S.2.1 dX1_save_45 rfl ?_
    refine nv_get S w (C := RX1) (T := TX1) (N := 3) hn_X1_save_1 0 rfl rfl 2 (by decide) (List.mem_of_getElem? (i := 1) rfl) (v := vI n2) rfl dX1_save_46 ?_
    refine lv_iconst (v := nI 1) S.1 S.2.1 dX1_save_49 (ofInt_nI 1) ?_
    refine nv_iadd S dX1_save_50 ?_
    refine nv_put S w (C := RX1) (T := TX1) (N := 3) hn_X1_save_1 tyX1_ok nmX1 0 rfl rfl 2 (by decide) (List.mem_of_getElem? (i := 1) rfl) rfl rfl (Nat.le_of_ble_eq_true rfl) (ws' := [(q, .inr (0, [.ref qr, vI o2, vI (n2 + 1)]))] ++ hiA Z qr a ++ stB Z (a 0) (X 0) ++ stB Z (a 1) x ++ stB Z (a 2) (X 2) ++ stB Z (a 3) (X 3) ++ stB Z b x) rfl dX1_save_51 (fun H locs w => ?_)
    exact nv_vret S w hr hlocks (by rw [← en]; unfold svX; rw [← eo, ← en, ← hj]; rfl) dX1_save_54
  · skip
    refine nv_aald S w (i := 2) (q := (a 2 0)) 1 2 rfl rfl (by omega) (by decide) rfl dX1_save_39 ?_
    refine lv_aload_n S.1 S.2.1 dX1_save_40 rfl (lv_at hl 1 rfl) ?_
    have w := w.perm (ws' := hiO Z q qr o2 n2 ++ hiA Z qr a ++ stB Z (a 0) (X 0) ++ stB Z (a 1) (X 1) ++ stB Z (a 2) (X 2) ++ stB Z b x ++ stB Z (a 3) (X 3)) sw2
    refine nv_fVv (rest := []) (hiO Z q qr o2 n2 ++ hiA Z qr a ++ stB Z (a 0) (X 0) ++ stB Z (a 1) (X 1)) (stB Z (a 3) (X 3)) (ws' := hiO Z q qr o2 n2 ++ hiA Z qr a ++ stB Z (a 0) (X 0) ++ stB Z (a 1) (X 1) ++ stB Z (a 2) x ++ stB Z b x ++ stB Z (a 3) (X 3)) S w hl.1 (c_X5_copyFrom l D Z (a 2) (X 2) b x ) (by simp only [List.append_assoc, List.nil_append, List.append_nil]) rfl (by simp only [List.append_assoc, List.nil_append, List.append_nil]) gX1_save_X5_copyFrom rfl hdV_X5_copyFrom ⟨Nat.le_of_ble_eq_true rfl, Nat.le_of_ble_eq_true rfl⟩ (q0 := 0) rfl rfl rfl rfl (Nat.le_of_ble_eq_true rfl) ⟨Nat.zero_le _, Nat.zero_le _⟩ dX1_save_41 (fun H locs w => ?_)
    have w := w.perm (ws' := hiO Z q qr o2 n2 ++ hiA Z qr a ++ stB Z (a 0) (X 0) ++ stB Z (a 1) (X 1) ++ stB Z (a 2) x ++ stB Z (a 3) (X 3) ++ stB Z b x) sw2
    refine lv_aload_n S.1 S.2.1 dX1_save_44 rfl (lv_at hl 0 rfl) ?_
    refine lv_dup S.1 S.2.1 dX1_save_45 rfl ?_
    refine nv_get S w (C := RX1) (T := TX1) (N := 3) hn_X1_save_1 0 rfl rfl 2 (by decide) (List.mem_of_getElem? (i := 1) rfl) (v := vI n2) rfl dX1_save_46 ?_
    refine lv_iconst (v := nI 1) S.1 S.2.1 dX1_save_49 (ofInt_nI 1) ?_
    refine nv_iadd S dX1_save_50 ?_
    refine nv_put S w (C := RX1) (T := TX1) (N := 3) hn_X1_save_1 tyX1_ok nmX1 0 rfl rfl 2 (by decide) (List.mem_of_getElem? (i := 1) rfl) rfl rfl (Nat.le_of_ble_eq_true rfl) (ws' := [(q, .inr (0, [.ref qr, vI o2, vI (n2 + 1)]))] ++ hiA Z qr a ++ stB Z (a 0) (X 0) ++ stB Z (a 1) (X 1) ++ stB Z (a 2) x ++ stB Z (a 3) (X 3) ++ stB Z b x) rfl dX1_save_51 (fun H locs w => ?_)
    exact nv_vret S w hr hlocks (by rw [← en]; unfold svX; rw [← eo, ← en, ← hj]; rfl) dX1_save_54
  · skip
    refine nv_aald S w (i := 3) (q := (a 3 0)) 1 2 rfl rfl (by omega) (by decide) rfl dX1_save_39 ?_
    refine lv_aload_n S.1 S.2.1 dX1_save_40 rfl (lv_at hl 1 rfl) ?_
    refine nv_fVv (rest := []) (hiO Z q qr o2 n2 ++ hiA Z qr a ++ stB Z (a 0) (X 0) ++ stB Z (a 1) (X 1) ++ stB Z (a 2) (X 2)) ([]) (ws' := hiO Z q qr o2 n2 ++ hiA Z qr a ++ stB Z (a 0) (X 0) ++ stB Z (a 1) (X 1) ++ stB Z (a 2) (X 2) ++ stB Z (a 3) x ++ stB Z b x) S w hl.1 (c_X5_copyFrom l D Z (a 3) (X 3) b x ) (by simp only [List.append_assoc, List.nil_append, List.append_nil]) rfl (by simp only [List.append_assoc, List.nil_append, List.append_nil]) gX1_save_X5_copyFrom rfl hdV_X5_copyFrom ⟨Nat.le_of_ble_eq_true rfl, Nat.le_of_ble_eq_true rfl⟩ (q0 := 0) rfl rfl rfl rfl (Nat.le_of_ble_eq_true rfl) ⟨Nat.zero_le _, Nat.zero_le _⟩ dX1_save_41 (fun H locs w => ?_)
    refine lv_aload_n S.1 S.2.1 dX1_save_44 rfl (lv_at hl 0 rfl) ?_
    refine lv_dup S.1 S.2.1 dX1_save_45 rfl ?_
    refine nv_get S w (C := RX1) (T := TX1) (N := 3) hn_X1_save_1 0 rfl rfl 2 (by decide) (List.mem_of_getElem? (i := 1) rfl) (v := vI n2) rfl dX1_save_46 ?_
    refine lv_iconst (v := nI 1) S.1 S.2.1 dX1_save_49 (ofInt_nI 1) ?_
    refine nv_iadd S dX1_save_50 ?_
    refine nv_put S w (C := RX1) (T := TX1) (N := 3) hn_X1_save_1 tyX1_ok nmX1 0 rfl rfl 2 (by decide) (List.mem_of_getElem? (i := 1) rfl) rfl rfl (Nat.le_of_ble_eq_true rfl) (ws' := [(q, .inr (0, [.ref qr, vI o2, vI (n2 + 1)]))] ++ hiA Z qr a ++ stB Z (a 0) (X 0) ++ stB Z (a 1) (X 1) ++ stB Z (a 2) (X 2) ++ stB Z (a 3) x ++ stB Z b x) rfl dX1_save_51 (fun H locs w => ?_)
    exact nv_vret S w hr hlocks (by rw [← en]; unfold svX; rw [← eo, ← en, ← hj]; rfl) dX1_save_54
set_option maxRecDepth 100000 in
set_option maxHeartbeats 4000000 in
theorem c_X1_save (l : Launch) (D : va_G) (Z : Nat → ClassId) (q qr : Nat) (a : Nat → Nat → Nat) (o n : Nat) (X : Nat → ST) (b : Nat → Nat) (x : ST) (ho : o < 4) (hn : n ≤ 4) : Cv l yX1_save wsX1_save 4 90 D Z [.ref q, .ref (b 0)] (hiB Z q qr a o n X ++ stB Z b x)  (hiB Z q qr a (svO o n) (svN n + 1) (svX o n X x) ++ stB Z b x) := by
  refine ne_v (cc := cX1_save) (maxL := 2) (by decide +kernel) rfl (Nat.le_of_ble_eq_true rfl) (fun p e s m args below meth c A ls (S : CallFix p m c cX1_save 2 s args wsX1_save RX1) hr hlocks hl w => ?_)
  have hl : lv_has ls 2 [(0, .ref q), (1, .ref (b 0))] := hl
  have w := w.as (ws' := hiO Z q qr o n ++ hiA Z qr a ++ stB Z (a 0) (X 0) ++ stB Z (a 1) (X 1) ++ stB Z (a 2) (X 2) ++ stB Z (a 3) (X 3) ++ stB Z b x) rfl
  refine lv_aload_n S.1 S.2.1 dX1_save_0 rfl (lv_at hl 0 rfl) ?_
  refine nv_get S w (C := RX1) (T := TX1) (N := 3) hn_X1_save_1 0 rfl rfl 2 (by decide) (List.mem_of_getElem? (i := 1) rfl) (v := vI n) rfl dX1_save_1 ?_
  refine lv_iconst (v := nI 4) S.1 S.2.1 dX1_save_4 (ofInt_nI 4) ?_
  refine nv_icmp_ne S (by omega) (by omega) (tgt := 27) dX1_save_5 (by decide) (fun h_1 => ?_) (fun h_1 => ?_)
  · skip
    exact k_X1_save_27 l D Z q qr a o n X b x ho hn S hr hlocks o n (by unfold svO; split <;> omega) (by unfold svN; split <;> omega) _ _ _ (lv_sub hl [0, 1] rfl) w
  · skip
    refine lv_aload_n S.1 S.2.1 dX1_save_8 rfl (lv_at hl 0 rfl) ?_
    refine lv_aload_n S.1 S.2.1 dX1_save_9 rfl (lv_at hl 0 rfl) ?_
    refine lv_iconst (v := nI 1) S.1 S.2.1 dX1_save_10 (ofInt_nI 1) ?_
    refine nv_gVi (rest := [.ref q]) ([]) (hiA Z qr a ++ stB Z (a 0) (X 0) ++ stB Z (a 1) (X 1) ++ stB Z (a 2) (X 2) ++ stB Z (a 3) (X 3) ++ stB Z b x) S w hl.1 (c_X1_ringIndex l D Z q qr o n 1 (by omega) (by omega)) (by simp only [List.append_assoc, List.nil_append, List.append_nil]) gX1_save_X1_ringIndex rfl hdV_X1_ringIndex ⟨Nat.le_of_ble_eq_true rfl, Nat.le_of_ble_eq_true rfl⟩ (q0 := 0) rfl rfl rfl rfl (Nat.le_of_ble_eq_true rfl) ⟨Nat.zero_le _, Nat.zero_le _⟩ dX1_save_11 (fun H locs w => ?_)
    refine nv_put S w (C := RX1) (T := TX1) (N := 3) hn_X1_save_1 tyX1_ok nmX1 0 rfl rfl 1 (by decide) (List.mem_of_getElem? (i := 2) rfl) rfl rfl (Nat.le_of_ble_eq_true rfl) (ws' := [(q, .inr (0, [.ref qr, vI ((o + 1) % 4), vI n]))] ++ hiA Z qr a ++ stB Z (a 0) (X 0) ++ stB Z (a 1) (X 1) ++ stB Z (a 2) (X 2) ++ stB Z (a 3) (X 3) ++ stB Z b x) rfl dX1_save_14 (fun H locs w => ?_)
    refine lv_aload_n S.1 S.2.1 dX1_save_17 rfl (lv_at hl 0 rfl) ?_
    refine lv_dup S.1 S.2.1 dX1_save_18 rfl ?_
    refine nv_get S w (C := RX1) (T := TX1) (N := 3) hn_X1_save_1 0 rfl rfl 2 (by decide) (List.mem_of_getElem? (i := 1) rfl) (v := vI n) rfl dX1_save_19 ?_
    refine lv_iconst (v := nI 1) S.1 S.2.1 dX1_save_22 (ofInt_nI 1) ?_
    refine nv_isub S (by omega) dX1_save_23 ?_
    refine nv_put S w (C := RX1) (T := TX1) (N := 3) hn_X1_save_1 tyX1_ok nmX1 0 rfl rfl 2 (by decide) (List.mem_of_getElem? (i := 1) rfl) rfl rfl (Nat.le_of_ble_eq_true rfl) (ws' := [(q, .inr (0, [.ref qr, vI ((o + 1) % 4), vI (n - 1)]))] ++ hiA Z qr a ++ stB Z (a 0) (X 0) ++ stB Z (a 1) (X 1) ++ stB Z (a 2) (X 2) ++ stB Z (a 3) (X 3) ++ stB Z b x) rfl dX1_save_24 (fun H locs w => ?_)
    exact k_X1_save_27 l D Z q qr a o n X b x ho hn S hr hlocks ((o + 1) % 4) (n - 1) (by unfold svO; split <;> omega) (by unfold svN; split <;> omega) _ _ _ (lv_sub hl [0, 1] rfl) w

theorem hn_X1_restore_1 : ∀ w ∈ wsX10, w ∈ wsX1_restore := by decide +kernel
set_option maxRecDepth 100000 in
set_option maxHeartbeats 4000000 in
theorem c_X1_restore (l : Launch) (D : va_G) (Z : Nat → ClassId) (q qr : Nat) (a : Nat → Nat → Nat) (o n : Nat) (X : Nat → ST) (b : Nat → Nat) (x : ST) (ho : o < 4) (hn : n ≤ 4) (h0 : 0 < n) : Cv l yX1_restore wsX1_restore 4 90 D Z [.ref q, .ref (b 0)] (hiB Z q qr a o n X ++ stB Z b x)  (hiB Z q qr a o (n - 1) X ++ stB Z b (X ((o + (n - 1)) % 4))) := by
  refine ne_v (cc := cX1_restore) (maxL := 2) (by decide +kernel) rfl (Nat.le_of_ble_eq_true rfl) (fun p e s m args below meth c A ls (S : CallFix p m c cX1_restore 2 s args wsX1_restore RX1) hr hlocks hl w => ?_)
  have hl : lv_has ls 2 [(0, .ref q), (1, .ref (b 0))] := hl
  have w := w.as (ws' := hiO Z q qr o n ++ hiA Z qr a ++ stB Z (a 0) (X 0) ++ stB Z (a 1) (X 1) ++ stB Z (a 2) (X 2) ++ stB Z (a 3) (X 3) ++ stB Z b x) rfl
  refine lv_aload_n S.1 S.2.1 dX1_restore_0 rfl (lv_at hl 0 rfl) ?_
  refine nv_get S w (C := RX1) (T := TX1) (N := 3) hn_X1_restore_1 0 rfl rfl 2 (by decide) (List.mem_of_getElem? (i := 1) rfl) (v := vI n) rfl dX1_restore_1 ?_
  refine nv_if_le S (by omega) (tgt := 34) dX1_restore_4 (by decide) (fun h_1 => ?_) (fun h_1 => ?_)
  · skip
    exfalso; omega
  · skip
    refine lv_aload_n S.1 S.2.1 dX1_restore_7 rfl (lv_at hl 0 rfl) ?_
    refine lv_dup S.1 S.2.1 dX1_restore_8 rfl ?_
    refine nv_get S w (C := RX1) (T := TX1) (N := 3) hn_X1_restore_1 0 rfl rfl 2 (by decide) (List.mem_of_getElem? (i := 1) rfl) (v := vI n) rfl dX1_restore_9 ?_
    refine lv_iconst (v := nI 1) S.1 S.2.1 dX1_restore_12 (ofInt_nI 1) ?_
    refine nv_isub S (by omega) dX1_restore_13 ?_
    refine nv_put S w (C := RX1) (T := TX1) (N := 3) hn_X1_restore_1 tyX1_ok nmX1 0 rfl rfl 2 (by decide) (List.mem_of_getElem? (i := 1) rfl) rfl rfl (Nat.le_of_ble_eq_true rfl) (ws' := [(q, .inr (0, [.ref qr, vI o, vI (n - 1)]))] ++ hiA Z qr a ++ stB Z (a 0) (X 0) ++ stB Z (a 1) (X 1) ++ stB Z (a 2) (X 2) ++ stB Z (a 3) (X 3) ++ stB Z b x) rfl dX1_restore_14 (fun H locs w => ?_)
    have w := w.as (ws' := hiO Z q qr o (n - 1) ++ hiA Z qr a ++ stB Z (a 0) (X 0) ++ stB Z (a 1) (X 1) ++ stB Z (a 2) (X 2) ++ stB Z (a 3) (X 3) ++ stB Z b x) (rfl)
    refine lv_aload_n S.1 S.2.1 dX1_restore_17 rfl (lv_at hl 1 rfl) ?_
    refine lv_aload_n S.1 S.2.1 dX1_restore_18 rfl (lv_at hl 0 rfl) ?_
    refine nv_get S w (C := RX1) (T := TX1) (N := 3) hn_X1_restore_1 0 rfl rfl 0 (by decide) (List.mem_of_getElem? (i := 2) rfl) (v := .ref qr) rfl dX1_restore_19 ?_
    refine lv_aload_n S.1 S.2.1 dX1_restore_22 rfl (lv_at hl 0 rfl) ?_
    refine lv_aload_n S.1 S.2.1 dX1_restore_23 rfl (lv_at hl 0 rfl) ?_
    refine nv_get S w (C := RX1) (T := TX1) (N := 3) hn_X1_restore_1 0 rfl rfl 2 (by decide) (List.mem_of_getElem? (i := 1) rfl) (v := vI (n - 1)) rfl dX1_restore_24 ?_
    refine nv_gVi (rest := [.ref qr, .ref (b 0)]) ([]) (hiA Z qr a ++ stB Z (a 0) (X 0) ++ stB Z (a 1) (X 1) ++ stB Z (a 2) (X 2) ++ stB Z (a 3) (X 3) ++ stB Z b x) S w hl.1 (c_X1_ringIndex l D Z q qr o (n - 1) (n - 1) (by omega) (by omega)) (by simp only [List.append_assoc, List.nil_append, List.append_nil]) gX1_restore_X1_ringIndex rfl hdV_X1_ringIndex ⟨Nat.le_of_ble_eq_true rfl, Nat.le_of_ble_eq_true rfl⟩ (q0 := 0) rfl rfl rfl rfl (Nat.le_of_ble_eq_true rfl) ⟨Nat.zero_le _, Nat.zero_le _⟩ dX1_restore_27 (fun H locs w => ?_)
    obtain ⟨j, hj⟩ : ∃ z, z = (o + (n - 1)) % 4 := ⟨_, rfl⟩
    refine W.eq (g2 := F0 m 30 ls [vI j, .ref qr, .ref (b 0)]) (by rw [hj]) ?_
    have hj4 : j < 4 := by omega
    rcases (show j = 0 ∨ j = 1 ∨ j = 2 ∨ j = 3 by omega) with rfl | rfl | rfl | rfl
    · skip
      refine nv_aald S w (i := 0) (q := (a 0 0)) 1 2 rfl rfl (by omega) (by decide) rfl dX1_restore_30 ?_
      have w := w.perm (ws' := hiO Z q qr o (n - 1) ++ hiA Z qr a ++ stB Z b x ++ stB Z (a 0) (X 0) ++ stB Z (a 1) (X 1) ++ stB Z (a 2) (X 2) ++ stB Z (a 3) (X 3)) (List.Perm.trans sw2 (List.Perm.trans (List.Perm.append_right _ sw2) (List.Perm.trans (List.Perm.append_right _ (List.Perm.append_right _ sw2)) (List.Perm.append_right _ (List.Perm.append_right _ (List.Perm.append_right _ sw2))))))
      refine nv_fVv (rest := []) (hiO Z q qr o (n - 1) ++ hiA Z qr a) (stB Z (a 1) (X 1) ++ stB Z (a 2) (X 2) ++ stB Z (a 3) (X 3)) (ws' := hiO Z q qr o (n - 1) ++ hiA Z qr a ++ stB Z b (X 0) ++ stB Z (a 0) (X 0) ++ stB Z (a 1) (X 1) ++ stB Z (a 2) (X 2) ++ stB Z (a 3) (X 3)) S w hl.1 (c_X5_copyFrom l D Z b x (a 0) (X 0) ) (by simp only [List.append_assoc, List.nil_append, List.append_nil]) rfl (by simp only [List.append_assoc, List.nil_append, List.append_nil]) gX1_restore_X5_copyFrom rfl hdV_X5_copyFrom ⟨Nat.le_of_ble_eq_true rfl, Nat.le_of_ble_eq_true rfl⟩ (q0 := 0) rfl rfl rfl rfl (Nat.le_of_ble_eq_true rfl) ⟨Nat.zero_le _, Nat.zero_le _⟩ dX1_restore_31 (fun H locs w => ?_)
      have w := w.perm (ws' := hiO Z q qr o (n - 1) ++ hiA Z qr a ++ stB Z (a 0) (X 0) ++ stB Z (a 1) (X 1) ++ stB Z (a 2) (X 2) ++ stB Z (a 3) (X 3) ++ stB Z b (X 0)) (List.Perm.trans (List.Perm.append_right _ (List.Perm.append_right _ (List.Perm.append_right _ sw2))) (List.Perm.trans (List.Perm.append_right _ (List.Perm.append_right _ sw2)) (List.Perm.trans (List.Perm.append_right _ sw2) sw2)))
      exact nv_vret S w hr hlocks (by rw [← hj]; rfl) dX1_restore_34
    · skip
      refine nv_aald S w (i := 1) (q := (a 1 0)) 1 2 rfl rfl (by omega) (by decide) rfl dX1_restore_30 ?_
      have w := w.perm (ws' := hiO Z q qr o (n - 1) ++ hiA Z qr a ++ stB Z (a 0) (X 0) ++ stB Z b x ++ stB Z (a 1) (X 1) ++ stB Z (a 2) (X 2) ++ stB Z (a 3) (X 3)) (List.Perm.trans sw2 (List.Perm.trans (List.Perm.append_right _ sw2) (List.Perm.append_right _ (List.Perm.append_right _ sw2))))
      refine nv_fVv (rest := []) (hiO Z q qr o (n - 1) ++ hiA Z qr a ++ stB Z (a 0) (X 0)) (stB Z (a 2) (X 2) ++ stB Z (a 3) (X 3)) (ws' := hiO Z q qr o (n - 1) ++ hiA Z qr a ++ stB Z (a 0) (X 0) ++ stB Z b (X 1) ++ stB Z (a 1) (X 1) ++ stB Z (a 2) (X 2) ++ stB Z (a 3) (X 3)) S w hl.1 (c_X5_copyFrom l D Z b x (a 1) (X 1) ) (by simp only [List.append_assoc, List.nil_append, List.append_nil]) rfl (by simp only [List.append_assoc, List.nil_append, List.append_nil]) gX1_restore_X5_copyFrom rfl hdV_X5_copyFrom ⟨Nat.le_of_ble_eq_true rfl, Nat.le_of_ble_eq_true rfl⟩ (q0 := 0) rfl rfl rfl rfl (Nat.le_of_ble_eq_true rfl) ⟨Nat.zero_le _, Nat.zero_le _⟩ dX1_restore_31 (fun H locs w => ?_)
      have w := w.perm (ws' := hiO Z q qr o (n - 1) ++ hiA Z qr a ++ stB Z (a 0) (X 0) ++ stB Z (a 1) (X 1) ++ stB Z (a 2) (X 2) ++ stB Z (a 3) (X 3) ++ stB Z b (X 1)) (List.Perm.trans (List.Perm.append_right _ (List.Perm.append_right _ sw2)) (List.Perm.trans (List.Perm.append_right _ sw2) sw2))
      exact nv_vret S w hr hlocks (by rw [← hj]; rfl) dX1_restore_34
    · skip
      refine nv_aald S w (i := 2) (q := (a 2 0)) 1 2 rfl rfl (by omega) (by decide) rfl dX1_restore_30 ?_
      have w := w.perm (ws' := hiO Z q qr o (n - 1) ++ hiA Z qr a ++ stB Z (a 0) (X 0) ++ stB Z (a 1) (X 1) ++ stB Z b x ++ stB Z (a 2) (X 2) ++ stB Z (a 3) (X 3)) (List.Perm.trans sw2 (List.Perm.append_right _ sw2))
      refine nv_fVv (rest := []) (hiO Z q qr o (n - 1) ++ hiA Z qr a ++ stB Z (a 0) (X 0) ++ stB Z (a 1) (X 1)) (stB Z (a 3) (X 3)) (ws' := hiO Z q qr o (n - 1) ++ hiA Z qr a ++ stB Z (a 0) (X 0) ++ stB Z (a 1) (X 1) ++ stB Z b (X 2) ++ stB Z (a 2) (X 2) ++ stB Z (a 3) (X 3)) S w hl.1 (c_X5_copyFrom l D Z b x (a 2) (X 2) ) (by simp only [List.append_assoc, List.nil_append, List.append_nil]) rfl (by simp only [List.append_assoc, List.nil_append, List.append_nil]) gX1_restore_X5_copyFrom rfl hdV_X5_copyFrom ⟨Nat.le_of_ble_eq_true rfl, Nat.le_of_ble_eq_true rfl⟩ (q0 := 0) rfl rfl rfl rfl (Nat.le_of_ble_eq_true rfl) ⟨Nat.zero_le _, Nat.zero_le _⟩ dX1_restore_31 (fun H locs w => ?_)
      have w := w.perm (ws' := hiO Z q qr o (n - 1) ++ hiA Z qr a ++ stB Z (a 0) (X 0) ++ stB Z (a 1) (X 1) ++ stB Z (a 2) (X 2) ++ stB Z (a 3) (X 3) ++ stB Z b (X 2)) (List.Perm.trans (List.Perm.append_right _ sw2) sw2)
      exact nv_vret S w hr hlocks (by rw [← hj]; rfl) dX1_restore_34
    · skip
      refine nv_aald S w (i := 3) (q := (a 3 0)) 1 2 rfl rfl (by omega) (by decide) rfl dX1_restore_30 ?_
      have w := w.perm (ws' := hiO Z q qr o (n - 1) ++ hiA Z qr a ++ stB Z (a 0) (X 0) ++ stB Z (a 1) (X 1) ++ stB Z (a 2) (X 2) ++ stB Z b x ++ stB Z (a 3) (X 3)) sw2
      refine nv_fVv (rest := []) (hiO Z q qr o (n - 1) ++ hiA Z qr a ++ stB Z (a 0) (X 0) ++ stB Z (a 1) (X 1) ++ stB Z (a 2) (X 2)) ([]) (ws' := hiO Z q qr o (n - 1) ++ hiA Z qr a ++ stB Z (a 0) (X 0) ++ stB Z (a 1) (X 1) ++ stB Z (a 2) (X 2) ++ stB Z b (X 3) ++ stB Z (a 3) (X 3)) S w hl.1 (c_X5_copyFrom l D Z b x (a 3) (X 3) ) (by simp only [List.append_assoc, List.nil_append, List.append_nil]) rfl (by simp only [List.append_assoc, List.nil_append, List.append_nil]) gX1_restore_X5_copyFrom rfl hdV_X5_copyFrom ⟨Nat.le_of_ble_eq_true rfl, Nat.le_of_ble_eq_true rfl⟩ (q0 := 0) rfl rfl rfl rfl (Nat.le_of_ble_eq_true rfl) ⟨Nat.zero_le _, Nat.zero_le _⟩ dX1_restore_31 (fun H locs w => ?_)
      have w := w.perm (ws' := hiO Z q qr o (n - 1) ++ hiA Z qr a ++ stB Z (a 0) (X 0) ++ stB Z (a 1) (X 1) ++ stB Z (a 2) (X 2) ++ stB Z (a 3) (X 3) ++ stB Z b (X 3)) sw2
      exact nv_vret S w hr hlocks (by rw [← hj]; rfl) dX1_restore_34
