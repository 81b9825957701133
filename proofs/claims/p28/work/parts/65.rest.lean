theorem hn_X7_meanVolume_6 : ∀ w ∈ wsX60, w ∈ wsX7_meanVolume := by decide +kernel
theorem hn_X7_meanVolume_7 : ∀ w ∈ wsX70, w ∈ wsX7_meanVolume := by decide +kernel
theorem hn_X7_meanVolume_5 : ∀ w ∈ wsX50, w ∈ wsX7_meanVolume := by decide +kernel
theorem hn_X7_meanVolume_3 : ∀ w ∈ wsX30, w ∈ wsX7_meanVolume := by decide +kernel
set_option maxRecDepth 100000 in
set_option maxHeartbeats 4000000 in
theorem k_X7_meanVolume (l : Launch) (D : va_G) (Z : Nat → ClassId) (z : Nat → Nat → Nat) (X : ST) (o n : Nat) (Y : Nat → ST) (tl ti ta tr : Nat) (t : Nat → Nat) (k : Nat → Nat → Nat) (P9 : PG) (hX : XB X) {p : Program} {e : Env} {s : State} {m : MethodId} {args : Array Value} {below : List Frame} {meth : Method} {c : Code} {A : Nat → Prop} (S : CallFix p m c cX7_meanVolume 6 s args wsX7_meanVolume RX7) (hr : meth.sig.returnType = (some .double)) (hlocks : meth.locks = false) : ∀ (n9 : Nat), (∀ (i sm : Nat) (hi4 : i ≤ 4) (es : sm = cnt (fun c => X.2.2 c 1) i) (hm : 4 - i < n9), ∀ (H : Heap) (locs : List Loc) (ls : Array Slot) (hl : lv_has ls 6 [(0, .ref (z 0 0)), (1, vI sm), (2, .ref (z 1 6)), (3, vI 4), (4, vI i)]) (w : Wd D Z A s (tpO Z z ++ plB Z (z 8) P9 ++ stB Z (z 1) X ++ ptB Z (z 7 0) (z 7 1) (z 7 2) tl ti ta tr t k ++ hiB Z (z 2 0) (z 2 1) (fun r => z (3 + r)) o n Y) H locs), W p l e (rmO 0 0) s m args below meth c H locs 0 0 (Qd below D Z A args s (mvD X) (tpO Z z ++ plB Z (z 8) P9 ++ stB Z (z 1) X ++ ptB Z (z 7 0) (z 7 1) (z 7 2) tl ti ta tr t k ++ hiB Z (z 2 0) (z 2 1) (fun r => z (3 + r)) o n Y)) (F0 m 19 ls [])) := by
  intro n9
  induction n9 with
  | zero => intro i sm hi4 es hm; exact absurd hm (Nat.not_lt_zero _)
  | succ n9 ih =>
    skip
    · intro i sm hi4 es hm H locs ls hl w
      refine lv_iload S.1 S.2.1 dX7_meanVolume_19 (lv_at hl 4 rfl) ?_
      refine lv_iload_n S.1 S.2.1 dX7_meanVolume_21 rfl (lv_at hl 3 rfl) ?_
      refine nv_icmp_ge S (by omega) (by omega) (tgt := 45) dX7_meanVolume_22 (by decide) (fun h_1 => ?_) (fun h_1 => ?_)
      · skip
        have hsm := cnt_15 (f := (fun c => X.2.2 c 1)) 4 (by decide) (fun i9 hi9 => (hX.2.1.2.2.2.2.2 i9 hi9).1.2.1)
        refine lv_iload_n S.1 S.2.1 dX7_meanVolume_45 rfl (lv_at hl 1 rfl) ?_
        refine lv_i2d S.1 S.2.1 dX7_meanVolume_46 ?_
        refine lv_ldc2d (v := 4616189618054758400) S.1 S.2.1 S.2.2.2.1 (S.2.2.2.2 _ (by decide +kernel)) dX7_meanVolume_47 ?_
        refine lv_ddiv S.1 S.2.1 dX7_meanVolume_50 (by rw [es, show i = 4 by omega]; exact mv_n64 _ (by omega)) ?_
        exact nv_dret S w hr hlocks (by rw [es, show i = 4 by omega]; rfl) rfl dX7_meanVolume_51
      · skip
        refine lv_aload_n S.1 S.2.1 dX7_meanVolume_25 rfl (lv_at hl 2 rfl) ?_
        refine lv_iload S.1 S.2.1 dX7_meanVolume_26 (lv_at hl 4 rfl) ?_
        rcases (show i = 0 ∨ i = 1 ∨ i = 2 ∨ i = 3 by omega) with rfl | rfl | rfl | rfl
        · skip
          refine nv_aald S w (i := 0) (q := ((z 1) 7)) 17 3 rfl rfl (by omega) (by decide) rfl dX7_meanVolume_28 ?_
          refine lv_astore (lv' := [(5, .ref ((z 1) 7)), (0, .ref (z 0 0)), (1, vI sm), (2, .ref (z 1 6)), (3, vI 4), (4, vI 0)]) S.1 S.2.1 dX7_meanVolume_29 hl (by decide) rfl (fun ls hl => ?_)
          refine lv_iload_n S.1 S.2.1 dX7_meanVolume_31 rfl (lv_at hl 2 rfl) ?_
          refine lv_aload S.1 S.2.1 dX7_meanVolume_32 (lv_at hl 0 rfl) ?_
          refine nv_get S w (C := RX6) (T := TX6) (N := 9) hn_X7_meanVolume_6 18 rfl rfl 1 (by decide) (List.mem_of_getElem? (i := 4) rfl) (v := vI ((X.2.2 0) 1)) rfl dX7_meanVolume_34 ?_
          refine nv_iadd S dX7_meanVolume_37 ?_
          refine lv_istore_n (lv' := [(1, vI (sm + ((X.2.2 0) 1))), (5, .ref ((z 1) 7)), (0, .ref (z 0 0)), (2, .ref (z 1 6)), (3, vI 4), (4, vI 0)]) S.1 S.2.1 dX7_meanVolume_38 rfl hl (by decide) rfl (fun ls hl => ?_)
          refine lv_iinc (v := nI 1) (lv' := [(4, vI 1), (1, vI (sm + ((X.2.2 0) 1))), (5, .ref ((z 1) 7)), (0, .ref (z 0 0)), (2, .ref (z 1 6)), (3, vI 4)]) S.1 S.2.1 dX7_meanVolume_39 hl (k := 5) rfl (nI_incI 0 1) (by decide) rfl (fun ls hl => ?_)
          refine lv_goto (tgt := 19) S.1 S.2.1 dX7_meanVolume_42 (by decide) ?_
          exact ih 1 (sm + ((X.2.2 0) 1)) (by omega) (by rw [es]; rfl) (by omega) _ _ _ (lv_sub hl [3, 1, 4, 5, 0] rfl) w
        · skip
          refine nv_aald S w (i := 1) (q := ((z 1) 10)) 17 3 rfl rfl (by omega) (by decide) rfl dX7_meanVolume_28 ?_
          refine lv_astore (lv' := [(5, .ref ((z 1) 10)), (0, .ref (z 0 0)), (1, vI sm), (2, .ref (z 1 6)), (3, vI 4), (4, vI 1)]) S.1 S.2.1 dX7_meanVolume_29 hl (by decide) rfl (fun ls hl => ?_)
          refine lv_iload_n S.1 S.2.1 dX7_meanVolume_31 rfl (lv_at hl 2 rfl) ?_
          refine lv_aload S.1 S.2.1 dX7_meanVolume_32 (lv_at hl 0 rfl) ?_
          refine nv_get S w (C := RX6) (T := TX6) (N := 9) hn_X7_meanVolume_6 21 rfl rfl 1 (by decide) (List.mem_of_getElem? (i := 4) rfl) (v := vI ((X.2.2 1) 1)) rfl dX7_meanVolume_34 ?_
          refine nv_iadd S dX7_meanVolume_37 ?_
          refine lv_istore_n (lv' := [(1, vI (sm + ((X.2.2 1) 1))), (5, .ref ((z 1) 10)), (0, .ref (z 0 0)), (2, .ref (z 1 6)), (3, vI 4), (4, vI 1)]) S.1 S.2.1 dX7_meanVolume_38 rfl hl (by decide) rfl (fun ls hl => ?_)
          refine lv_iinc (v := nI 2) (lv' := [(4, vI 2), (1, vI (sm + ((X.2.2 1) 1))), (5, .ref ((z 1) 10)), (0, .ref (z 0 0)), (2, .ref (z 1 6)), (3, vI 4)]) S.1 S.2.1 dX7_meanVolume_39 hl (k := 5) rfl (nI_incI 1 1) (by decide) rfl (fun ls hl => ?_)
          refine lv_goto (tgt := 19) S.1 S.2.1 dX7_meanVolume_42 (by decide) ?_
          exact ih 2 (sm + ((X.2.2 1) 1)) (by omega) (by rw [es]; rfl) (by omega) _ _ _ (lv_sub hl [3, 1, 4, 5, 0] rfl) w
        · skip
          refine nv_aald S w (i := 2) (q := ((z 1) 13)) 17 3 rfl rfl (by omega) (by decide) rfl dX7_meanVolume_28 ?_
          refine lv_astore (lv' := [(5, .ref ((z 1) 13)), (0, .ref (z 0 0)), (1, vI sm), (2, .ref (z 1 6)), (3, vI 4), (4, vI 2)]) S.1 S.2.1 dX7_meanVolume_29 hl (by decide) rfl (fun ls hl => ?_)
          refine lv_iload_n S.1 S.2.1 dX7_meanVolume_31 rfl (lv_at hl 2 rfl) ?_
          refine lv_aload S.1 S.2.1 dX7_meanVolume_32 (lv_at hl 0 rfl) ?_
          refine nv_get S w (C := RX6) (T := TX6) (N := 9) hn_X7_meanVolume_6 24 rfl rfl 1 (by decide) (List.mem_of_getElem? (i := 4) rfl) (v := vI ((X.2.2 2) 1)) rfl dX7_meanVolume_34 ?_
          refine nv_iadd S dX7_meanVolume_37 ?_
          refine lv_istore_n (lv' := [(1, vI (sm + ((X.2.2 2) 1))), (5, .ref ((z 1) 13)), (0, .ref (z 0 0)), (2, .ref (z 1 6)), (3, vI 4), (4, vI 2)]) S.1 S.2.1 dX7_meanVolume_38 rfl hl (by decide) rfl (fun ls hl => ?_)
          refine lv_iinc (v := nI 3) (lv' := [(4, vI 3), (1, vI (sm + ((X.2.2 2) 1))), (5, .ref ((z 1) 13)), (0, .ref (z 0 0)), (2, .ref (z 1 6)), (3, vI 4)]) S.1 S.2.1 dX7_meanVolume_39 hl (k := 5) rfl (nI_incI 2 1) (by decide) rfl (fun ls hl => ?_)
          refine lv_goto (tgt := 19) S.1 S.2.1 dX7_meanVolume_42 (by decide) ?_
          exact ih 3 (sm + ((X.2.2 2) 1)) (by omega) (by rw [es]; rfl) (by omega) _ _ _ (lv_sub hl [3, 1, 4, 5, 0] rfl) w
        · skip
          refine nv_aald S w (i := 3) (q := ((z 1) 16)) 17 3 rfl rfl (by omega) (by decide) rfl dX7_meanVolume_28 ?_
          refine lv_astore (lv' := [(5, .ref ((z 1) 16)), (0, .ref (z 0 0)), (1, vI sm), (2, .ref (z 1 6)), (3, vI 4), (4, vI 3)]) S.1 S.2.1 dX7_meanVolume_29 hl (by decide) rfl (fun ls hl => ?_)
          refine lv_iload_n S.1 S.2.1 dX7_meanVolume_31 rfl (lv_at hl 2 rfl) ?_
          refine lv_aload S.1 S.2.1 dX7_meanVolume_32 (lv_at hl 0 rfl) ?_
          refine nv_get S w (C := RX6) (T := TX6) (N := 9) hn_X7_meanVolume_6 27 rfl rfl 1 (by decide) (List.mem_of_getElem? (i := 4) rfl) (v := vI ((X.2.2 3) 1)) rfl dX7_meanVolume_34 ?_
          refine nv_iadd S dX7_meanVolume_37 ?_
          refine lv_istore_n (lv' := [(1, vI (sm + ((X.2.2 3) 1))), (5, .ref ((z 1) 16)), (0, .ref (z 0 0)), (2, .ref (z 1 6)), (3, vI 4), (4, vI 3)]) S.1 S.2.1 dX7_meanVolume_38 rfl hl (by decide) rfl (fun ls hl => ?_)
          refine lv_iinc (v := nI 4) (lv' := [(4, vI 4), (1, vI (sm + ((X.2.2 3) 1))), (5, .ref ((z 1) 16)), (0, .ref (z 0 0)), (2, .ref (z 1 6)), (3, vI 4)]) S.1 S.2.1 dX7_meanVolume_39 hl (k := 5) rfl (nI_incI 3 1) (by decide) rfl (fun ls hl => ?_)
          refine lv_goto (tgt := 19) S.1 S.2.1 dX7_meanVolume_42 (by decide) ?_
          exact ih 4 (sm + ((X.2.2 3) 1)) (by omega) (by rw [es]; rfl) (by omega) _ _ _ (lv_sub hl [3, 1, 4, 5, 0] rfl) w
set_option maxRecDepth 100000 in
set_option maxHeartbeats 4000000 in
theorem c_X7_meanVolume (l : Launch) (D : va_G) (Z : Nat → ClassId) (z : Nat → Nat → Nat) (X : ST) (o n : Nat) (Y : Nat → ST) (tl ti ta tr : Nat) (t : Nat → Nat) (k : Nat → Nat → Nat) (P9 : PG) (hX : XB X) : Cd l yX7_meanVolume wsX7_meanVolume 0 0 D Z [.ref (z 0 0)] (tpO Z z ++ plB Z (z 8) P9 ++ stB Z (z 1) X ++ ptB Z (z 7 0) (z 7 1) (z 7 2) tl ti ta tr t k ++ hiB Z (z 2 0) (z 2 1) (fun r => z (3 + r)) o n Y) (mvD X) (tpO Z z ++ plB Z (z 8) P9 ++ stB Z (z 1) X ++ ptB Z (z 7 0) (z 7 1) (z 7 2) tl ti ta tr t k ++ hiB Z (z 2 0) (z 2 1) (fun r => z (3 + r)) o n Y) := by
  refine ne_d (cc := cX7_meanVolume) (maxL := 6) (by decide +kernel) rfl (Nat.le_of_ble_eq_true rfl) (fun p e s m args below meth c A ls (S : CallFix p m c cX7_meanVolume 6 s args wsX7_meanVolume RX7) hr hlocks hl w => ?_)
  have hl : lv_has ls 6 [(0, .ref (z 0 0))] := hl
  refine lv_iconst (v := nI 0) S.1 S.2.1 dX7_meanVolume_0 (ofInt_nI 0) ?_
  refine lv_istore_n (lv' := [(1, vI 0), (0, .ref (z 0 0))]) S.1 S.2.1 dX7_meanVolume_1 rfl hl (by decide) rfl (fun ls hl => ?_)
  refine lv_aload_n S.1 S.2.1 dX7_meanVolume_2 rfl (lv_at hl 1 rfl) ?_
  refine nv_get S w (C := RX7) (T := TX7) (N := 4) hn_X7_meanVolume_7 0 rfl rfl 0 (by decide) (List.mem_of_getElem? (i := 1) rfl) (v := .ref (z 1 0)) rfl dX7_meanVolume_3 ?_
  refine nv_get S w (C := RX5) (T := TX5) (N := 2) hn_X7_meanVolume_5 15 rfl rfl 1 (by decide) (List.mem_of_getElem? (i := 2) rfl) (v := .ref ((z 1) 5)) rfl dX7_meanVolume_6 ?_
  refine nv_get S w (C := RX3) (T := TX3) (N := 7) hn_X7_meanVolume_3 16 rfl rfl 6 (by decide) (List.mem_of_getElem? (i := 3) rfl) (v := .ref ((z 1) 6)) rfl dX7_meanVolume_9 ?_
  refine lv_astore_n (lv' := [(2, .ref ((z 1) 6)), (1, vI 0), (0, .ref (z 0 0))]) S.1 S.2.1 dX7_meanVolume_12 rfl hl (by decide) rfl (fun ls hl => ?_)
  refine lv_aload_n S.1 S.2.1 dX7_meanVolume_13 rfl (lv_at hl 0 rfl) ?_
  refine nv_alen S w 17 3 rfl rfl (n := 4) rfl dX7_meanVolume_14 ?_
  refine lv_istore_n (lv' := [(3, vI 4), (2, .ref ((z 1) 6)), (1, vI 0), (0, .ref (z 0 0))]) S.1 S.2.1 dX7_meanVolume_15 rfl hl (by decide) rfl (fun ls hl => ?_)
  refine lv_iconst (v := nI 0) S.1 S.2.1 dX7_meanVolume_16 (ofInt_nI 0) ?_
  refine lv_istore (lv' := [(4, vI 0), (3, vI 4), (2, .ref ((z 1) 6)), (1, vI 0), (0, .ref (z 0 0))]) S.1 S.2.1 dX7_meanVolume_17 hl (by decide) rfl (fun ls hl => ?_)
  exact k_X7_meanVolume l D Z z X o n Y tl ti ta tr t k P9 hX S hr hlocks _ 0 0 (by omega) rfl (Nat.lt_succ_self _) _ _ _ (lv_sub hl [4, 3, 2, 1, 0] rfl) w

theorem hn_X7_undo_7 : ∀ w ∈ wsX70, w ∈ wsX7_undo := by decide +kernel
theorem hn_X7_undo_1 : ∀ w ∈ wsX10, w ∈ wsX7_undo := by decide +kernel
theorem hdV_X1_restore : yX1_restore.cls = RX1 ∧ yX1_restore.cls ≠ "java/lang/invoke/MethodHandle" ∧ yX1_restore.cls ≠ "java/lang/invoke/VarHandle" ∧ (parseMethodDescriptor yX1_restore.desc).map (fun d => d.parameters.length) = some 1 := by decide +kernel
set_option maxRecDepth 100000 in
set_option maxHeartbeats 4000000 in
theorem c_X7_undo (l : Launch) (hst : l.stackTraces = false) (D : va_G) (Z : Nat → ClassId) (z : Nat → Nat → Nat) (X : ST) (o n : Nat) (Y : Nat → ST) (tl ti ta tr : Nat) (t : Nat → Nat) (k : Nat → Nat → Nat) (P9 : PG) (ho : o < 4) (hn : n ≤ 4) : Xi l yX7_undo wsX7_undo 6 111 1 6 D Z [.ref (z 0 0)] (tpO Z z ++ plB Z (z 8) P9 ++ stB Z (z 1) X ++ ptB Z (z 7 0) (z 7 1) (z 7 2) tl ti ta tr t k ++ hiB Z (z 2 0) (z 2 1) (fun r => z (3 + r)) o n Y) (xI (n ≠ 0) eIS none) (nI (n - 1)) (tpO Z z ++ plB Z (z 8) P9 ++ stB Z (z 1) (Y ((o + (n - 1)) % 4)) ++ ptB Z (z 7 0) (z 7 1) (z 7 2) tl ti ta tr t k ++ hiB Z (z 2 0) (z 2 1) (fun r => z (3 + r)) o (n - 1) Y) := by
  refine nxe_i (cc := cX7_undo) (maxL := 1) (by decide +kernel) rfl (Nat.le_of_ble_eq_true rfl) (fun p e s m args below meth c A ls (S : CallFix p m c cX7_undo 1 s args wsX7_undo RX7) hr hlocks htab X9 hl w => ?_)
  have hl : lv_has ls 1 [(0, .ref (z 0 0))] := hl
  refine lv_aload_n S.1 S.2.1 dX7_undo_0 rfl (lv_at hl 0 rfl) ?_
  refine nv_get S w (C := RX7) (T := TX7) (N := 4) hn_X7_undo_7 0 rfl rfl 1 (by decide) (List.mem_of_getElem? (i := 3) rfl) (v := .ref (z 2 0)) rfl dX7_undo_1 ?_
  refine nv_get S w (C := RX1) (T := TX1) (N := 3) hn_X7_undo_1 37 rfl rfl 2 (by decide) (List.mem_of_getElem? (i := 4) rfl) (v := vI n) rfl dX7_undo_4 ?_
  refine nv_if_ne S (by omega) (tgt := 20) dX7_undo_7 (by decide) (fun h_1 => ?_) (fun h_1 => ?_)
  · skip
    refine lv_aload_n S.1 S.2.1 dX7_undo_20 rfl (lv_at hl 0 rfl) ?_
    refine nv_get S w (C := RX7) (T := TX7) (N := 4) hn_X7_undo_7 0 rfl rfl 1 (by decide) (List.mem_of_getElem? (i := 3) rfl) (v := .ref (z 2 0)) rfl dX7_undo_21 ?_
    refine lv_aload_n S.1 S.2.1 dX7_undo_24 rfl (lv_at hl 0 rfl) ?_
    refine nv_get S w (C := RX7) (T := TX7) (N := 4) hn_X7_undo_7 0 rfl rfl 0 (by decide) (List.mem_of_getElem? (i := 5) rfl) (v := .ref (z 1 0)) rfl dX7_undo_25 ?_
    have w := w.perm (ws' := tpO Z z ++ plB Z (z 8) P9 ++ hiB Z (z 2 0) (z 2 1) (fun r => z (3 + r)) o n Y ++ stB Z (z 1) X ++ ptB Z (z 7 0) (z 7 1) (z 7 2) tl ti ta tr t k) (List.Perm.trans sw2 (List.Perm.append_right _ sw2))
    refine nv_fVv (rest := []) (tpO Z z ++ plB Z (z 8) P9) (ptB Z (z 7 0) (z 7 1) (z 7 2) tl ti ta tr t k) (ws' := tpO Z z ++ plB Z (z 8) P9 ++ hiB Z (z 2 0) (z 2 1) (fun r => z (3 + r)) o (n - 1) Y ++ stB Z (z 1) (Y ((o + (n - 1)) % 4)) ++ ptB Z (z 7 0) (z 7 1) (z 7 2) tl ti ta tr t k) S w hl.1 (c_X1_restore l D Z (z 2 0) (z 2 1) (fun r => z (3 + r)) o n Y (z 1) X (by omega) (by omega) (by omega)) (by simp only [List.append_assoc, List.nil_append, List.append_nil]) rfl (by simp only [List.append_assoc, List.nil_append, List.append_nil]) gX7_undo_X1_restore rfl hdV_X1_restore ⟨Nat.le_of_ble_eq_true rfl, Nat.le_of_ble_eq_true rfl⟩ (q0 := 0) rfl rfl rfl rfl (Nat.le_of_ble_eq_true rfl) ⟨Nat.le_of_ble_eq_true rfl, Nat.le_of_ble_eq_true rfl⟩ dX7_undo_28 (fun H locs w => ?_)
    have w := w.perm (ws' := tpO Z z ++ plB Z (z 8) P9 ++ stB Z (z 1) (Y ((o + (n - 1)) % 4)) ++ ptB Z (z 7 0) (z 7 1) (z 7 2) tl ti ta tr t k ++ hiB Z (z 2 0) (z 2 1) (fun r => z (3 + r)) o (n - 1) Y) (List.Perm.trans (List.Perm.append_right _ sw2) sw2)
    refine lv_aload_n S.1 S.2.1 dX7_undo_31 rfl (lv_at hl 0 rfl) ?_
    refine nv_get S w (C := RX7) (T := TX7) (N := 4) hn_X7_undo_7 0 rfl rfl 1 (by decide) (List.mem_of_getElem? (i := 3) rfl) (v := .ref (z 2 0)) rfl dX7_undo_32 ?_
    refine nv_get S w (C := RX1) (T := TX1) (N := 3) hn_X7_undo_1 37 rfl rfl 2 (by decide) (List.mem_of_getElem? (i := 4) rfl) (v := vI (n - 1)) rfl dX7_undo_35 ?_
    exact nx_iret S w hr hlocks rfl (xI_t h_1) rfl rfl (Nat.le_of_ble_eq_true rfl) (Nat.le_of_ble_eq_true rfl) dX7_undo_38
  · skip
    exact nx_thr (cls := "java/lang/IllegalStateException") (ik := 110) (is := 218) (ic := 114) (kS := 2) (text := "no state is saved") S w X9 hst hl.1 htab hlocks (xI_f ⟨fun z9 => z9 h_1, rfl⟩) rfl (by decide +kernel) (List.mem_of_getElem? (i := 1) rfl) (List.mem_of_getElem? (i := 2) rfl) rfl (by decide +kernel) (by decide +kernel) (by decide +kernel) dX7_undo_10 dX7_undo_13 dX7_undo_14 dX7_undo_16 dX7_undo_19 (Nat.le_of_ble_eq_true rfl) (Nat.le_of_ble_eq_true rfl) (Nat.le_of_ble_eq_true rfl) (Nat.le_of_ble_eq_true rfl) (Nat.le_of_ble_eq_true rfl) (Nat.le_of_ble_eq_true rfl)
