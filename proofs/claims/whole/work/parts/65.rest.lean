theorem hn_X7_meanVolume_6 : ∀ w ∈ wsX60, w ∈ wsX7_meanVolume := by decide +kernel
theorem hn_X7_meanVolume_7 : ∀ w ∈ wsX70, w ∈ wsX7_meanVolume := by decide +kernel
theorem hn_X7_meanVolume_5 : ∀ w ∈ wsX50, w ∈ wsX7_meanVolume := by decide +kernel
theorem hn_X7_meanVolume_3 : ∀ w ∈ wsX30, w ∈ wsX7_meanVolume := by decide +kernel
set_option maxRecDepth 100000 in
set_option maxHeartbeats 4000000 in
theorem k_X7_meanVolume (l : Launch) (D : va_G) (Z : Nat → ClassId) (z : Nat → Nat → Nat) (X : ST) (o n : Nat) (Y : Nat → ST) (tl ti ta tr : Nat) (t : Nat → Nat) (k : Nat → Nat → Nat) (P9 : PG) (hX : XB X) {p : Program} {e : Env} {s : State} {m : MethodId} {args : Array Value} {below : List Frame} {meth : Method} {c : Code} {A : Nat → Prop} (S : CallFix p m c cX7_meanVolume 6 s args wsX7_meanVolume RX7) (hr : meth.sig.returnType = (some .double)) (hlocks : meth.locks = false) : ∀ (n9 : Nat), (∀ (i sm : Nat) (hi4 : i ≤ 4) (es : sm = cnt (fun c => X.2.2 c 1) i) (hm : 4 - i < n9), ∀ (H : Heap) (locs : List Loc) (ls : Array Slot) (hl : lv_has ls 6 [(0, .ref (z 0 0)), (1, vI sm), (2, .ref (z 1 6)), (3, vI 4), (4, vI i)]) (w : Wd D Z A s (tpO Z z ++ plB Z (z 8) P9 ++ stB Z (z 1) X ++ ptB Z (z 7 0) (z 7 1) (z 7 2) tl ti ta tr t k ++ hiB Z (z 2 0) (z 2 1) (fun r => z (3 + r)) o n Y) H locs), W p l e (rmO 0 0) s m args below meth c H locs 0 0 (Qd below D Z A args s (mvD X) (tpO Z z ++ plB Z (z 8) P9 ++ stB Z (z 1) X ++ ptB Z (z 7 0) (z 7 1) (z 7 2) tl ti ta tr t k ++ hiB Z (z 2 0) (z 2 1) (fun r => z (3 + r)) o n Y)) (F0 m 19 ls [])) := by
  intro n9
  induction n9 with
  | zero => intro i sm hi4 es hm; exact absurd hm (Nat.not_lt_zero _)
  | succ n9 ih =>
    skip
    · intro i sm hi4 es hm H locs ls hl w
      refine lv_iload S.1 S.2.1 dX7_meanVolume_19 (lv_at hl 4 rfl) ?_
      refine lv_iload_n S.1 S.2.1 dX7_meanVolume_21 rfl (lv_at hl 3 rfl) ?_
      refine nv_icmp_ge S (by omega) (by omega) (tgt := 45) dX7_meanVolume_22 (by decide) (fun h_1 => ?_) (fun h_1 => ?_)
      · skip
        have hsm := cnt_15 (f := (fun c => X.2.2 c 1)) 4 (by decide) (fun i9 hi9 => (hX.2.1.2.2.2.2.2 i9 hi9).1.2.1)
        refine lv_iload_n S.1 S.2.1 dX7_meanVolume_45 rfl (lv_at hl 1 rfl) ?_
        refine lv_i2d S.1 S.2.1 dX7_meanVolume_46 ?_
        refine lv_ldc2d (v := 4616189618054758400) S.1 S.2.1 S.2.2.2.1 (S.2.2.2.2 _ (by decide +kernel)) dX7_meanVolume_47 ?_
        refine lv_ddiv S.1 S.2.1 dX7_meanVolume_50 (by rw [es, show i = 4 by omega]; exact mv_n64 _ (by omega)) ?_
        exact nv_dret S w hr hlocks (by rw [es, show i = 4 by omega]; rfl) rfl dX7_meanVolume_51
      · skip
        refine lv_aload_n S.1 S.2.1 dX7_meanVolume_25 rfl (lv_at hl 2 rfl) ?_
        refine lv_iload S.1 S.2.1 dX7_meanVolume_26 (lv_at hl 4 rfl) ?_
        rcases (show i = 0 ∨ i = 1 ∨ i = 2 ∨ i = 3 by omega) with rfl | rfl | rfl | rfl
        · skip
          refine nv_aald S w (i := 0) (q := ((z 1) 7)) 17 3 rfl rfl (by omega) (by decide) rfl dX7_meanVolume_28 ?_
          refine lv_astore (lv' := [(5, .ref ((z 1) 7)), (0, .ref (z 0 0)), (1, vI sm), (2, .ref (z 1 6)), (3, vI 4), (4, vI 0)]) S.1 S.2.1 dX7_meanVolume_29 hl (by decide) rfl (fun ls hl => ?_)
          refine lv_iload_n S.1 S.2.1 dX7_meanVolume_31 rfl (lv_at hl 2 rfl) ?_
          refine lv_aload S.1 S.2.1 dX7_meanVolume_32 (lv_at hl 0 rfl) ?_
          refine nv_get S w (C := RX6) (T := TX6) (N := 9) hn_X7_meanVolume_6 18 rfl rfl 1 (by decide) (List.mem_of_getElem? (i := 4) rfl) (v := vI ((X.2.2 0) 1)) rfl dX7_meanVolume_34 ?_
          refine nv_iadd S dX7_meanVolume_37 ?_
          refine lv_istore_n (lv' := [(1, vI (sm + ((X.2.2 0) 1))), (5, .ref ((z 1) 7)), (0, .ref (z 0 0)), (2, .ref (z 1 6)), (3, vI 4), (4, vI 0)]) S.1 S.2.1 dX7_meanVolume_38 rfl hl (by decide) rfl (fun ls hl => ?_)
          refine lv_iinc (v := nI 1) (lv' := [(4, vI 1), (1, vI (sm + ((X.2.2 0) 1))), (5, .ref ((z 1) 7)), (0, .ref (z 0 0)), (2, .ref (z 1 6)), (3, vI 4)]) S.1 S.2.1 dX7_meanVolume_39 hl (k := 5) rfl (nI_incI 0 1) (by decide) rfl (fun ls hl => ?_)
          refine lv_goto (tgt := 19) S.1 S.2.1 dX7_meanVolume_42 (by decide) ?_
          exact ih 1 (sm + ((X.2.2 0) 1)) (by omega) (by rw [es]; rfl) (by omega) _ _ _ (lv_sub hl [3, 1, 4, 5, 0] rfl) w
        · skip
          refine nv_aald S w (i := 1) (q := ((z 1) 10)) 17 3 rfl rfl (by omega) (by decide) rfl dX7_meanVolume_28 ?_
          refine lv_astore (lv' := [(5, .ref ((z 1) 10)), (0, .ref (z 0 0)), (1, vI sm), (2, .ref (z 1 6)), (3, vI 4), (4, vI 1)]) S.1 S.2.1 dX7_meanVolume_29 hl (by decide) rfl (fun ls hl => ?_)
          refine lv_iload_n S.1 S.2.1 dX7_meanVolume_31 rfl (lv_at hl 2 rfl) ?_
          refine lv_aload S.1 S.2.1 dX7_meanVolume_32 (lv_at hl 0 rfl) ?_
          refine nv_get S w (C := RX6) (T := TX6) (N := 9) hn_X7_meanVolume_6 21 rfl rfl 1 (by decide) (List.mem_of_getElem? (i := 4) rfl) (v := vI ((X.2.2 1) 1)) rfl dX7_meanVolume_34 ?_
          refine nv_iadd S dX7_meanVolume_37 ?_
          refine lv_istore_n (lv' := [(1, vI (sm + ((X.2.2 1) 1))), (5, .ref ((z 1) 10)), (0, .ref (z 0 0)), (2, .ref (z 1 6)), (3, vI 4), (4, vI 1)]) S.1 S.2.1 dX7_meanVolume_38 rfl hl (by decide) rfl (fun ls hl => ?_)
          refine lv_iinc (v := nI 2) (lv' := [(4, vI 2), (1, vI (sm + ((X.2.2 1) 1))), (5, .ref ((z 1) 10)), (0, .ref (z 0 0)), (2, .ref (z 1 6)), (3, vI 4)]) S.1 S.2.1 dX7_meanVolume_39 hl (k := 5) rfl (nI_incI 1 1) (by decide) rfl (fun ls hl => ?_)
          refine lv_goto (tgt := 19) S.1 S.2.1 dX7_meanVolume_42 (by decide) ?_
          exact ih 2 (sm + ((X.2.2 1) 1)) (by omega) (by rw [es]; rfl) (by omega) _ _ _ (lv_sub hl [3, 1, 4, 5, 0] rfl) w
        · skip
          refine nv_aald S w (i := 2) (q := ((z 1) 13)) 17 3 rfl rfl (by omega) (by decide) rfl dX7_meanVolume_28 ?_
          refine lv_astore (lv' := [(5, .ref ((z 1) 13)), (0, .ref (z 0 0)), (1, vI sm), (2, .ref (z 1 6)), (3, vI 4), (4, vI 2)]) S.1 S.2.1 dX7_meanVolume_29 hl (by decide) rfl (fun ls hl => ?_)
          refine lv_iload_n S.1 S.2.1 dX7_meanVolume_31 rfl (lv_at hl 2 rfl) ?_
          refine lv_aload S.1 S.2.1 dX7_meanVolume_32 (lv_at hl 0 rfl) ?_
          refine nv_get S w (C := RX6) (T := TX6) (N := 9) hn_X7_meanVolume_6 24 rfl rfl 1 (by decide) (List.mem_of_getElem? (i := 4) rfl) (v := vI ((X.2.2 2) 1)) rfl dX7_meanVolume_34 ?_
          refine nv_iadd S dX7_meanVolume_37 ?_
          refine lv_istore_n (lv' := [(1, vI (sm + ((X.2.2 2) 1))), (5, .ref ((z 1) 13)), (0, .ref (z 0 0)), (2, .ref (z 1 6)), (3, vI 4), (4, vI 2)]) S.1 S.2.1 dX7_meanVolume_38 rfl hl (by decide) rfl (fun ls hl => ?_)
          refine lv_iinc (v := nI 3) (lv' := [(4, vI 3), (1, vI (sm + ((X.2.2 2) 1))), (5, .ref ((z 1) 13)), (0, .ref (z 0 0)), (2, .ref (z 1 6)), (3, vI 4)]) S.1 S.2.1 dX7_meanVolume_39 hl (k := 5) rfl (nI_incI 2 1) (by decide) rfl (fun ls hl => ?_)
          refine lv_goto (tgt := 19) S.1 S.2.1 dX7_meanVolume_42 (by decide) ?_
          exact ih 3 (sm + ((X.2.2 2) 1)) (by omega) (by rw [es]; rfl) (by omega) _ _ _ (lv_sub hl [3, 1, 4, 5, 0] rfl) w
        · skip
          refine nv_aald S w (i := 3) (q := ((z 1) 16)) 17 3 rfl rfl (by omega) (by decide) rfl dX7_meanVolume_28 ?_
          refine lv_astore (lv' := [(5, .ref ((z 1) 16)), (0, .ref (z 0 0)), (1, vI sm), (2, .ref (z 1 6)), (3, vI 4), (4, vI 3)]) S.1 S.2.1 dX7_meanVolume_29 hl (by decide) rfl (fun ls hl => ?_)
          refine lv_iload_n S.1 S.2.1 dX7_meanVolume_31 rfl (lv_at hl 2 rfl) ?_
          refine lv_aload S.1 S.2.1 dX7_meanVolume_32 (lv_at hl 0 rfl) ?_
          refine nv_get S w (C := RX6) (T := TX6) (N := 9) hn_X7_meanVolume_6 27 rfl rfl 1 (by decide) (List.mem_of_getElem? (i := 4) rfl) (v := vI ((X.2.2 3) 1)) rfl dX7_meanVolume_34 ?_
          refine nv_iadd S dX7_meanVolume_37 ?_
          refine lv_istore_n (lv' := [(1, vI (sm + ((X.2.2 3) 1))), (5, .ref ((z 1) 16)), (0, .ref (z 0 0)), (2, .ref (z 1 6)), (3, vI 4), (4, vI 3)]) S.1 S.2.1 dX7_meanVolume_38 rfl hl (by decide) rfl (fun ls hl => ?_)
          refine lv_iinc (v := nI 4) (lv' := [(4, vI 4), (1, vI (sm + ((X.2.2 3) 1))), (5, .ref ((z 1) 16)), (0, .ref (z 0 0)), (2, .ref (z 1 6)), (3, vI 4)]) S.1 S.2.1 dX7_meanVolume_39 hl (k := 5) rfl (nI_incI 3 1) (by decide) rfl (fun ls hl => ?_)
          refine lv_goto (tgt := 19) S.1 S.2.1 dX7_meanVolume_42 (by decide) ?_
          exact ih 4 (sm + ((X.2.2 3) 1)) (by omega) (by rw [es]; rfl) (by omega) _ _ _ (lv_sub hl [3, 1, 4, 5, 0] rfl) w
set_option maxRecDepth 100000 in
set_option maxHeartbeats 4000000 in
theorem c_X7_meanVolume (l : Launch) (D : va_G) (Z : Nat → ClassId) (z : Nat → Nat → Nat) (X : ST) (o n : Nat) (Y : Nat → ST) (tl ti ta tr : Nat) (t : Nat → Nat) (k : Nat → Nat → Nat) (P9 : PG) (hX : XB X) : Cd l yX7_meanVolume wsX7_meanVolume 0 0 D Z [.ref (z 0 0)] (tpO Z z ++ plB Z (z 8) P9 ++ stB Z (z 1) X ++ ptB Z (z 7 0) (z 7 1) (z 7 2) tl ti ta tr t k ++ hiB Z (z 2 0) (z 2 1) (fun r => z (3 + r)) o n Y) (mvD X) (tpO Z z ++ plB Z (z 8) P9 ++ stB Z (z 1) X ++ ptB Z (z 7 0) (z 7 1) (z 7 2) tl ti ta tr t k ++ hiB Z (z 2 0) (z 2 1) (fun r => z (3 + r)) o n Y) := by
  refine ne_d (cc := cX7_meanVolume) (maxL := 6) (by decide +kernel) rfl (Nat.le_of_ble_eq_true rfl) (fun p e s m args below meth c A ls (S : CallFix p m c cX7_meanVolume 6 s args wsX7_meanVolume RX7) hr hlocks hl w => ?_)
  have hl : lv_has ls 6 [(0, .ref (z 0 0))] := hl
  refine lv_iconst (v := nI 0) S.1 S.2.1 dX7_meanVolume_0 (ofInt_nI 0) ?_
  refine lv_istore_n (lv' := [(1, vI 0), (0, .ref (z 0 0))]) S.1 S.2.1 dX7_meanVolume_1 rfl hl (by decide) rfl (fun ls hl => ?_)
  refine lv_aload_n S.1 S.2.1 dX7_meanVolume_2 rfl (lv_at hl 1 rfl) ?_
  refine nv_get S w (C := RX7) (T := TX7) (N := 4) hn_X7_meanVolume_7 0 rfl rfl 0 (by decide) (List.mem_of_getElem? (i := 1) rfl) (v := .ref (z 1 0)) rfl dX7_meanVolume_3 ?_
  refine nv_get S w (C := RX5) (T := TX5) (N := 2) hn_X7_meanVolume_5 15 rfl rfl 1 (by decide) (List.mem_of_getElem? (i := 2) rfl) (v := .ref ((z 1) 5)) rfl dX7_meanVolume_6 ?_
  refine nv_get S w (C := RX3) (T := TX3) (N := 7) hn_X7_meanVolume_3 16 rfl rfl 6 (by decide) (List.mem_of_getElem? (i := 3) rfl) (v := .ref ((z 1) 6)) rfl dX7_meanVolume_9 ?_
  refine lv_astore_n (lv' := [(2, .ref ((z 1) 6)), (1, vI 0), (0, .ref (z 0 0))]) S.1 S.2.1 dX7_meanVolume_12 rfl hl (by decide) rfl (fun ls hl => ?_)
  refine lv_aload_n S.1 S.2.1 dX7_meanVolume_13 rfl (lv_at hl 0 rfl) ?_
  refine nv_alen S w 17 3 rfl rfl (n := 4) rfl dX7_meanVolume_14 ?_
  refine lv_istore_n (lv' := [(3, vI 4), (2, .ref ((z 1) 6)), (1, vI 0), (0, .ref (z 0 0))]) S.1 S.2.1 dX7_meanVolume_15 rfl hl (by decide) rfl (fun ls hl => ?_)
  refine lv_iconst (v := nI 0) S.1 S.2.1 dX7_meanVolume_16 (ofInt_nI 0) ?_
  refine lv_istore (lv' := [(4, vI 0), (3, vI 4), (2, .ref ((z 1) 6)), (1, vI 0), (0, .ref (z 0 0))]) S.1 S.2.1 dX7_meanVolume_17 hl (by decide) rfl (fun ls hl => ?_)
  exact k_X7_meanVolume l D Z z X o n Y tl ti ta tr t k P9 hX S hr hlocks _ 0 0 (by omega) rfl (Nat.lt_succ_self _) _ _ _ (lv_sub hl [4, 3, 2, 1, 0] rfl) w

theorem hn_X7_append_7 : ∀ w ∈ wsX70, w ∈ wsX7_append := by decide +kernel
theorem hdV_X2_hasSpace : yX2_hasSpace.cls = RX2 ∧ yX2_hasSpace.cls ≠ "java/lang/invoke/MethodHandle" ∧ yX2_hasSpace.cls ≠ "java/lang/invoke/VarHandle" ∧ (parseMethodDescriptor yX2_hasSpace.desc).map (fun d => d.parameters.length) = some 0 := by decide +kernel
theorem hdV_X2_add : yX2_add.cls = RX2 ∧ yX2_add.cls ≠ "java/lang/invoke/MethodHandle" ∧ yX2_add.cls ≠ "java/lang/invoke/VarHandle" ∧ (parseMethodDescriptor yX2_add.desc).map (fun d => d.parameters.length) = some 1 := by decide +kernel
theorem hn_X7_append_2 : ∀ w ∈ wsX20, w ∈ wsX7_append := by decide +kernel
set_option maxRecDepth 100000 in
set_option maxHeartbeats 4000000 in
theorem c_X7_append (l : Launch) (hst : l.stackTraces = false) (D : va_G) (Z : Nat → ClassId) (z : Nat → Nat → Nat) (X : ST) (o n : Nat) (Y : Nat → ST) (tl ti ta tr : Nat) (t : Nat → Nat) (k : Nat → Nat → Nat) (P9 : PG) (xa : Int32) (ht : ∀ j, j < 100 → t j < 128) (htl : tl ≤ 100) : Xi l yX7_append wsX7_append 7 104 2 12 D Z [.ref (z 0 0), .int xa] (tpO Z z ++ plB Z (z 8) P9 ++ stB Z (z 1) X ++ ptB Z (z 7 0) (z 7 1) (z 7 2) tl ti ta tr t k ++ hiB Z (z 2 0) (z 2 1) (fun r => z (3 + r)) o n Y) (xI (rgI 0 127 xa) eIA (xI (tl < 100) eIS none)) (nI (tl + 1)) (tpO Z z ++ plB Z (z 8) P9 ++ stB Z (z 1) X ++ ptB Z (z 7 0) (z 7 1) (z 7 2) (tl + 1) ti ta tr (un t tl (toN xa)) k ++ hiB Z (z 2 0) (z 2 1) (fun r => z (3 + r)) o n Y) := by
  refine nxe_i (cc := cX7_append) (maxL := 2) (by decide +kernel) rfl (Nat.le_of_ble_eq_true rfl) (fun p e s m args below meth c A ls (S : CallFix p m c cX7_append 2 s args wsX7_append RX7) hr hlocks htab X9 hl w => ?_)
  have hl : lv_has ls 2 [(0, .ref (z 0 0)), (1, .int xa)] := hl
  refine lv_iload_n S.1 S.2.1 dX7_append_0 rfl (lv_at hl 1 rfl) ?_
  refine lv_iconst (v := nI 0) S.1 S.2.1 dX7_append_1 (ofInt_nI 0) ?_
  refine lv_bipush (v := nI 127) S.1 S.2.1 dX7_append_2 (by decide +kernel) ?_
  refine nx_pSv (rest := []) S w X9 hl.1 (c_X7_requireRange l hst D Z xa 0 127 ) gX7_append_X7_requireRange rfl hdS_X7_requireRange ⟨Nat.le_of_ble_eq_true rfl, Nat.le_of_ble_eq_true rfl⟩ rfl rfl (Nat.le_of_ble_eq_true rfl) ⟨Nat.le_of_ble_eq_true rfl, Nat.le_of_ble_eq_true rfl⟩ dX7_append_4 (fun E9 ce q9 H locs hE w hc9 hv9 hf9 => ?_) (fun hN H locs w => ?_)
  · exact nx_out w htab hlocks hc9 hv9 hf9 (xI_f (xI_no hE)) (Nat.le_of_ble_eq_true rfl) (Nat.le_of_ble_eq_true rfl)
  · skip
    have h_1 := xI_yes hN
    obtain ⟨na, rfl, hna⟩ := rg_nat (by decide) (by decide) h_1
    have eqna : toN (nI na) = na := toN_nI (by omega)
    refine lv_aload_n S.1 S.2.1 dX7_append_7 rfl (lv_at hl 0 rfl) ?_
    refine nv_get S w (C := RX7) (T := TX7) (N := 4) hn_X7_append_7 0 rfl rfl 2 (by decide) (List.mem_of_getElem? (i := 3) rfl) (v := .ref (z 7 0)) rfl dX7_append_8 ?_
    refine nv_gVi (rest := []) (tpO Z z ++ plB Z (z 8) P9 ++ stB Z (z 1) X) (hiB Z (z 2 0) (z 2 1) (fun r => z (3 + r)) o n Y) S w hl.1 (c_X2_hasSpace l D Z (z 7 0) (z 7 1) (z 7 2) tl ti ta tr t k htl) (by simp only [List.append_assoc, List.nil_append, List.append_nil]) gX7_append_X2_hasSpace rfl hdV_X2_hasSpace ⟨Nat.le_of_ble_eq_true rfl, Nat.le_of_ble_eq_true rfl⟩ (q0 := 0) rfl rfl rfl rfl (Nat.le_of_ble_eq_true rfl) ⟨Nat.le_of_ble_eq_true rfl, Nat.le_of_ble_eq_true rfl⟩ dX7_append_11 (fun H locs w => ?_)
    refine nv_if_neB S (tgt := 27) dX7_append_14 (by decide) (fun h_2 => ?_) (fun h_2 => ?_)
    · skip
      refine lv_aload_n S.1 S.2.1 dX7_append_27 rfl (lv_at hl 0 rfl) ?_
      refine nv_get S w (C := RX7) (T := TX7) (N := 4) hn_X7_append_7 0 rfl rfl 2 (by decide) (List.mem_of_getElem? (i := 3) rfl) (v := .ref (z 7 0)) rfl dX7_append_28 ?_
      refine lv_iload_n S.1 S.2.1 dX7_append_31 rfl (lv_at hl 1 rfl) ?_
      refine lv_i2b (v := nI na) S.1 S.2.1 dX7_append_32 (nar_byte (by omega)) ?_
      refine nv_fVv (rest := []) (tpO Z z ++ plB Z (z 8) P9 ++ stB Z (z 1) X) (hiB Z (z 2 0) (z 2 1) (fun r => z (3 + r)) o n Y) (ws' := tpO Z z ++ plB Z (z 8) P9 ++ stB Z (z 1) X ++ ptB Z (z 7 0) (z 7 1) (z 7 2) (tl + 1) ti ta tr (un t tl na) k ++ hiB Z (z 2 0) (z 2 1) (fun r => z (3 + r)) o n Y) S w hl.1 (c_X2_add l D Z (z 7 0) (z 7 1) (z 7 2) tl ti ta tr t k na (by omega) (by omega)) (by simp only [List.append_assoc, List.nil_append, List.append_nil]) rfl (by simp only [List.append_assoc, List.nil_append, List.append_nil]) gX7_append_X2_add rfl hdV_X2_add ⟨Nat.le_of_ble_eq_true rfl, Nat.le_of_ble_eq_true rfl⟩ (q0 := 0) rfl rfl rfl rfl (Nat.le_of_ble_eq_true rfl) ⟨Nat.le_of_ble_eq_true rfl, Nat.le_of_ble_eq_true rfl⟩ dX7_append_33 (fun H locs w => ?_)
      refine lv_aload_n S.1 S.2.1 dX7_append_36 rfl (lv_at hl 0 rfl) ?_
      refine nv_get S w (C := RX7) (T := TX7) (N := 4) hn_X7_append_7 0 rfl rfl 2 (by decide) (List.mem_of_getElem? (i := 3) rfl) (v := .ref (z 7 0)) rfl dX7_append_37 ?_
      refine nv_get S w (C := RX2) (T := TX2) (N := 6) hn_X7_append_2 34 rfl rfl 1 (by decide) (List.mem_of_getElem? (i := 4) rfl) (v := vI (tl + 1)) rfl dX7_append_40 ?_
      exact nx_iret S w hr hlocks rfl ((xI_t h_1).trans (xI_t h_2)) (by simp only [eqna]) (by simp only [eqna, stB, List.append_assoc]) (Nat.le_of_ble_eq_true rfl) (Nat.le_of_ble_eq_true rfl) dX7_append_43
    · skip
      exact nx_thr (cls := "java/lang/IllegalStateException") (ik := 110) (is := 186) (ic := 114) (kS := 2) (text := "the text is full") S w X9 hst hl.1 htab hlocks ((xI_t h_1).trans (xI_f ⟨h_2, rfl⟩)) rfl (by decide +kernel) (List.mem_of_getElem? (i := 1) rfl) (List.mem_of_getElem? (i := 2) rfl) rfl (by decide +kernel) (by decide +kernel) (by decide +kernel) dX7_append_17 dX7_append_20 dX7_append_21 dX7_append_23 dX7_append_26 (Nat.le_of_ble_eq_true rfl) (Nat.le_of_ble_eq_true rfl) (Nat.le_of_ble_eq_true rfl) (Nat.le_of_ble_eq_true rfl) (Nat.le_of_ble_eq_true rfl) (Nat.le_of_ble_eq_true rfl)

theorem hn_X7_clearText_7 : ∀ w ∈ wsX70, w ∈ wsX7_clearText := by decide +kernel
theorem hn_X7_clearText_2 : ∀ w ∈ wsX20, w ∈ wsX7_clearText := by decide +kernel
set_option maxRecDepth 100000 in
set_option maxHeartbeats 4000000 in
theorem c_X7_clearText (l : Launch) (D : va_G) (Z : Nat → ClassId) (z : Nat → Nat → Nat) (X : ST) (o n : Nat) (Y : Nat → ST) (tl ti ta tr : Nat) (t : Nat → Nat) (k : Nat → Nat → Nat) (P9 : PG)  : Ci l yX7_clearText wsX7_clearText 0 0 D Z [.ref (z 0 0)] (tpO Z z ++ plB Z (z 8) P9 ++ stB Z (z 1) X ++ ptB Z (z 7 0) (z 7 1) (z 7 2) tl ti ta tr t k ++ hiB Z (z 2 0) (z 2 1) (fun r => z (3 + r)) o n Y) (nI tl) (tpO Z z ++ plB Z (z 8) P9 ++ stB Z (z 1) X ++ ptB Z (z 7 0) (z 7 1) (z 7 2) 0 ti ta tr t k ++ hiB Z (z 2 0) (z 2 1) (fun r => z (3 + r)) o n Y) := by
  refine ne_i (cc := cX7_clearText) (maxL := 2) (by decide +kernel) rfl (Nat.le_of_ble_eq_true rfl) (fun p e s m args below meth c A ls (S : CallFix p m c cX7_clearText 2 s args wsX7_clearText RX7) hr hlocks hl w => ?_)
  have hl : lv_has ls 2 [(0, .ref (z 0 0))] := hl
  refine lv_aload_n S.1 S.2.1 dX7_clearText_0 rfl (lv_at hl 0 rfl) ?_
  refine nv_get S w (C := RX7) (T := TX7) (N := 4) hn_X7_clearText_7 0 rfl rfl 2 (by decide) (List.mem_of_getElem? (i := 1) rfl) (v := .ref (z 7 0)) rfl dX7_clearText_1 ?_
  refine nv_get S w (C := RX2) (T := TX2) (N := 6) hn_X7_clearText_2 34 rfl rfl 1 (by decide) (List.mem_of_getElem? (i := 2) rfl) (v := vI tl) rfl dX7_clearText_4 ?_
  refine lv_istore_n (lv' := [(1, vI tl), (0, .ref (z 0 0))]) S.1 S.2.1 dX7_clearText_7 rfl hl (by decide) rfl (fun ls hl => ?_)
  refine lv_aload_n S.1 S.2.1 dX7_clearText_8 rfl (lv_at hl 1 rfl) ?_
  refine nv_get S w (C := RX7) (T := TX7) (N := 4) hn_X7_clearText_7 0 rfl rfl 2 (by decide) (List.mem_of_getElem? (i := 1) rfl) (v := .ref (z 7 0)) rfl dX7_clearText_9 ?_
  refine lv_iconst (v := nI 0) S.1 S.2.1 dX7_clearText_12 (ofInt_nI 0) ?_
  have w := w.as (ws' := tpO Z z ++ plB Z (z 8) P9 ++ stB Z (z 1) X ++ [(z 7 0, .inr (1, [.ref (z 7 1), vI tl, vI ti, vI ta, vI tr, .ref (z 7 2)])), (z 7 1, .inl (Z 1, 100, .inl (ar 100 t))), (z 7 2, .inl (Z 0, 32, .inl (ar 32 (fun j => pk (k j)))))] ++ hiB Z (z 2 0) (z 2 1) (fun r => z (3 + r)) o n Y) rfl
  refine nv_putF (tpO Z z ++ plB Z (z 8) P9 ++ stB Z (z 1) X) (hiB Z (z 2 0) (z 2 1) (fun r => z (3 + r)) o n Y) S w (C := RX2) (T := TX2) (N := 6) hn_X7_clearText_2 tyX2_ok nmX2 (wc := [(z 7 0, .inr (1, [.ref (z 7 1), vI tl, vI ti, vI ta, vI tr, .ref (z 7 2)])), (z 7 1, .inl (Z 1, 100, .inl (ar 100 t))), (z 7 2, .inl (Z 0, 32, .inl (ar 32 (fun j => pk (k j)))))]) (wp := [(z 7 0, .inr (1, [.ref (z 7 1), vI 0, vI ti, vI ta, vI tr, .ref (z 7 2)])), (z 7 1, .inl (Z 1, 100, .inl (ar 100 t))), (z 7 2, .inl (Z 0, 32, .inl (ar 32 (fun j => pk (k j)))))]) (by simp only [List.append_assoc, List.nil_append, List.append_nil]) 0 rfl rfl 1 (by decide) (List.mem_of_getElem? (i := 2) rfl) rfl rfl (Nat.le_of_ble_eq_true rfl) rfl (ws' := tpO Z z ++ plB Z (z 8) P9 ++ stB Z (z 1) X ++ [(z 7 0, .inr (1, [.ref (z 7 1), vI 0, vI ti, vI ta, vI tr, .ref (z 7 2)])), (z 7 1, .inl (Z 1, 100, .inl (ar 100 t))), (z 7 2, .inl (Z 0, 32, .inl (ar 32 (fun j => pk (k j)))))] ++ hiB Z (z 2 0) (z 2 1) (fun r => z (3 + r)) o n Y) (by simp only [List.append_assoc, List.nil_append, List.append_nil]) dX7_clearText_13 (fun H locs w => ?_)
  refine lv_iload_n S.1 S.2.1 dX7_clearText_16 rfl (lv_at hl 0 rfl) ?_
  exact nv_iret S w hr hlocks rfl rfl rfl dX7_clearText_17

theorem hn_X7_undo_7 : ∀ w ∈ wsX70, w ∈ wsX7_undo := by decide +kernel
theorem hn_X7_undo_1 : ∀ w ∈ wsX10, w ∈ wsX7_undo := by decide +kernel
theorem hdV_X1_restore : yX1_restore.cls = RX1 ∧ yX1_restore.cls ≠ "java/lang/invoke/MethodHandle" ∧ yX1_restore.cls ≠ "java/lang/invoke/VarHandle" ∧ (parseMethodDescriptor yX1_restore.desc).map (fun d => d.parameters.length) = some 1 := by decide +kernel
set_option maxRecDepth 100000 in
set_option maxHeartbeats 4000000 in
theorem c_X7_undo (l : Launch) (hst : l.stackTraces = false) (D : va_G) (Z : Nat → ClassId) (z : Nat → Nat → Nat) (X : ST) (o n : Nat) (Y : Nat → ST) (tl ti ta tr : Nat) (t : Nat → Nat) (k : Nat → Nat → Nat) (P9 : PG) (ho : o < 4) (hn : n ≤ 4) : Xi l yX7_undo wsX7_undo 6 111 1 6 D Z [.ref (z 0 0)] (tpO Z z ++ plB Z (z 8) P9 ++ stB Z (z 1) X ++ ptB Z (z 7 0) (z 7 1) (z 7 2) tl ti ta tr t k ++ hiB Z (z 2 0) (z 2 1) (fun r => z (3 + r)) o n Y) (xI (n ≠ 0) eIS none) (nI (n - 1)) (tpO Z z ++ plB Z (z 8) P9 ++ stB Z (z 1) (Y ((o + (n - 1)) % 4)) ++ ptB Z (z 7 0) (z 7 1) (z 7 2) tl ti ta tr t k ++ hiB Z (z 2 0) (z 2 1) (fun r => z (3 + r)) o (n - 1) Y) := by
  refine nxe_i (cc := cX7_undo) (maxL := 1) (by decide +kernel) rfl (Nat.le_of_ble_eq_true rfl) (fun p e s m args below meth c A ls (S : CallFix p m c cX7_undo 1 s args wsX7_undo RX7) hr hlocks htab X9 hl w => ?_)
  have hl : lv_has ls 1 [(0, .ref (z 0 0))] := hl
  refine lv_aload_n S.1 S.2.1 dX7_undo_0 rfl (lv_at hl 0 rfl) ?_
  refine nv_get S w (C := RX7) (T := TX7) (N := 4) hn_X7_undo_7 0 rfl rfl 1 (by decide) (List.mem_of_getElem? (i := 3) rfl) (v := .ref (z 2 0)) rfl dX7_undo_1 ?_
  refine nv_get S w (C := RX1) (T := TX1) (N := 3) hn_X7_undo_1 37 rfl rfl 2 (by decide) (List.mem_of_getElem? (i := 4) rfl) (v := vI n) rfl dX7_undo_4 ?_
  refine nv_if_ne S (by omega) (tgt := 20) dX7_undo_7 (by decide) (fun h_1 => ?_) (fun h_1 => ?_)
  · skip
    refine lv_aload_n S.1 S.2.1 dX7_undo_20 rfl (lv_at hl 0 rfl) ?_
    refine nv_get S w (C := RX7) (T := TX7) (N := 4) hn_X7_undo_7 0 rfl rfl 1 (by decide) (List.mem_of_getElem? (i := 3) rfl) (v := .ref (z 2 0)) rfl dX7_undo_21 ?_
    refine lv_aload_n S.1 S.2.1 dX7_undo_24 rfl (lv_at hl 0 rfl) ?_
    refine nv_get S w (C := RX7) (T := TX7) (N := 4) hn_X7_undo_7 0 rfl rfl 0 (by decide) (List.mem_of_getElem? (i := 5) rfl) (v := .ref (z 1 0)) rfl dX7_undo_25 ?_
    have w := w.perm (ws' := tpO Z z ++ plB Z (z 8) P9 ++ hiB Z (z 2 0) (z 2 1) (fun r => z (3 + r)) o n Y ++ stB Z (z 1) X ++ ptB Z (z 7 0) (z 7 1) (z 7 2) tl ti ta tr t k) (List.Perm.trans sw2 (List.Perm.append_right _ sw2))
    refine nv_fVv (rest := []) (tpO Z z ++ plB Z (z 8) P9) (ptB Z (z 7 0) (z 7 1) (z 7 2) tl ti ta tr t k) (ws' := tpO Z z ++ plB Z (z 8) P9 ++ hiB Z (z 2 0) (z 2 1) (fun r => z (3 + r)) o (n - 1) Y ++ stB Z (z 1) (Y ((o + (n - 1)) % 4)) ++ ptB Z (z 7 0) (z 7 1) (z 7 2) tl ti ta tr t k) S w hl.1 (c_X1_restore l D Z (z 2 0) (z 2 1) (fun r => z (3 + r)) o n Y (z 1) X (by omega) (by omega) (by omega)) (by simp only [List.append_assoc, List.nil_append, List.append_nil]) rfl (by simp only [List.append_assoc, List.nil_append, List.append_nil]) gX7_undo_X1_restore rfl hdV_X1_restore ⟨Nat.le_of_ble_eq_true rfl, Nat.le_of_ble_eq_true rfl⟩ (q0 := 0) rfl rfl rfl rfl (Nat.le_of_ble_eq_true rfl) ⟨Nat.le_of_ble_eq_true rfl, Nat.le_of_ble_eq_true rfl⟩ dX7_undo_28 (fun H locs w => ?_)
    have w := w.perm (ws' := tpO Z z ++ plB Z (z 8) P9 ++ stB Z (z 1) (Y ((o + (n - 1)) % 4)) ++ ptB Z (z 7 0) (z 7 1) (z 7 2) tl ti ta tr t k ++ hiB Z (z 2 0) (z 2 1) (fun r => z (3 + r)) o (n - 1) Y) (List.Perm.trans (List.Perm.append_right _ sw2) sw2)
    refine lv_aload_n S.1 S.2.1 dX7_undo_31 rfl (lv_at hl 0 rfl) ?_
    refine nv_get S w (C := RX7) (T := TX7) (N := 4) hn_X7_undo_7 0 rfl rfl 1 (by decide) (List.mem_of_getElem? (i := 3) rfl) (v := .ref (z 2 0)) rfl dX7_undo_32 ?_
    refine nv_get S w (C := RX1) (T := TX1) (N := 3) hn_X7_undo_1 37 rfl rfl 2 (by decide) (List.mem_of_getElem? (i := 4) rfl) (v := vI (n - 1)) rfl dX7_undo_35 ?_
    exact nx_iret S w hr hlocks rfl (xI_t h_1) rfl rfl (Nat.le_of_ble_eq_true rfl) (Nat.le_of_ble_eq_true rfl) dX7_undo_38
  · skip
    exact nx_thr (cls := "java/lang/IllegalStateException") (ik := 110) (is := 218) (ic := 114) (kS := 3) (text := "no state is saved") S w X9 hst hl.1 htab hlocks (xI_f ⟨fun z9 => z9 h_1, rfl⟩) rfl (by decide +kernel) (List.mem_of_getElem? (i := 1) rfl) (List.mem_of_getElem? (i := 2) rfl) rfl (by decide +kernel) (by decide +kernel) (by decide +kernel) dX7_undo_10 dX7_undo_13 dX7_undo_14 dX7_undo_16 dX7_undo_19 (Nat.le_of_ble_eq_true rfl) (Nat.le_of_ble_eq_true rfl) (Nat.le_of_ble_eq_true rfl) (Nat.le_of_ble_eq_true rfl) (Nat.le_of_ble_eq_true rfl) (Nat.le_of_ble_eq_true rfl)

theorem hn_X7_parse_7 : ∀ w ∈ wsX70, w ∈ wsX7_parse := by decide +kernel
theorem hdV_X2_read : yX2_read.cls = RX2 ∧ yX2_read.cls ≠ "java/lang/invoke/MethodHandle" ∧ yX2_read.cls ≠ "java/lang/invoke/VarHandle" ∧ (parseMethodDescriptor yX2_read.desc).map (fun d => d.parameters.length) = some 0 := by decide +kernel
theorem hn_X7_parse_5 : ∀ w ∈ wsX50, w ∈ wsX7_parse := by decide +kernel
theorem hn_X7_parse_2 : ∀ w ∈ wsX20, w ∈ wsX7_parse := by decide +kernel
theorem hdV_X4_putPattern : yX4_putPattern.cls = RX4 ∧ yX4_putPattern.cls ≠ "java/lang/invoke/MethodHandle" ∧ yX4_putPattern.cls ≠ "java/lang/invoke/VarHandle" ∧ (parseMethodDescriptor yX4_putPattern.desc).map (fun d => d.parameters.length) = some 3 := by decide +kernel
set_option maxRecDepth 100000 in
set_option maxHeartbeats 4000000 in
theorem c_X7_parse (l : Launch) (D : va_G) (Z : Nat → ClassId) (z : Nat → Nat → Nat) (X : ST) (o n : Nat) (Y : Nat → ST) (tl ti ta tr : Nat) (t : Nat → Nat) (k : Nat → Nat → Nat) (P9 : PG) (ht : ∀ j, j < 100 → t j < 128) (htl : tl ≤ 100) (hti : ti ≤ 1000) (ho : o < 4) (hn : n ≤ 4) : Ci l yX7_parse wsX7_parse 6 131 D Z [.ref (z 0 0)] (tpO Z z ++ plB Z (z 8) P9 ++ stB Z (z 1) X ++ ptB Z (z 7 0) (z 7 1) (z 7 2) tl ti ta tr t k ++ hiB Z (z 2 0) (z 2 1) (fun r => z (3 + r)) o n Y) (prA (rtd (cx t tl) ta tr)) (tpO Z z ++ plB Z (z 8) P9 ++ stB Z (z 1) (ifz (rtd (cx t tl) ta tr).1  X (stPat X (rtd (cx t tl) ta tr).2.2.1 (rtd (cx t tl) ta tr).2.2.2.1 (rtd (cx t tl) ta tr).2.2.2.2)) ++ ptB Z (z 7 0) (z 7 1) (z 7 2) tl ((rtd (cx t tl) ta tr).2.1) ((rtd (cx t tl) ta tr).2.2.1) ((rtd (cx t tl) ta tr).2.2.2.1) t ((rtd (cx t tl) ta tr).2.2.2.2) ++ hiB Z (z 2 0) (z 2 1) (fun r => z (3 + r)) (ifz (rtd (cx t tl) ta tr).1  o (svO o n)) (ifz (rtd (cx t tl) ta tr).1  n (svN n + 1)) (ifz (rtd (cx t tl) ta tr).1  Y (svX o n Y X))) := by
  refine ne_i (cc := cX7_parse) (maxL := 1) (by decide +kernel) rfl (Nat.le_of_ble_eq_true rfl) (fun p e s m args below meth c A ls (S : CallFix p m c cX7_parse 1 s args wsX7_parse RX7) hr hlocks hl w => ?_)
  have hr1 := rtd_1 (c := cx t tl) (pa := ta) (ro := tr)
  have hl : lv_has ls 1 [(0, .ref (z 0 0))] := hl
  refine lv_aload_n S.1 S.2.1 dX7_parse_0 rfl (lv_at hl 0 rfl) ?_
  refine nv_get S w (C := RX7) (T := TX7) (N := 4) hn_X7_parse_7 0 rfl rfl 2 (by decide) (List.mem_of_getElem? (i := 1) rfl) (v := .ref (z 7 0)) rfl dX7_parse_1 ?_
  refine nv_fVi (rest := []) (tpO Z z ++ plB Z (z 8) P9 ++ stB Z (z 1) X) (hiB Z (z 2 0) (z 2 1) (fun r => z (3 + r)) o n Y) (ws' := tpO Z z ++ plB Z (z 8) P9 ++ stB Z (z 1) X ++ ptB Z (z 7 0) (z 7 1) (z 7 2) tl ((rtd (cx t tl) ta tr).2.1) ((rtd (cx t tl) ta tr).2.2.1) ((rtd (cx t tl) ta tr).2.2.2.1) t ((rtd (cx t tl) ta tr).2.2.2.2) ++ hiB Z (z 2 0) (z 2 1) (fun r => z (3 + r)) o n Y) S w hl.1 (c_X2_read l D Z (z 7 0) (z 7 1) (z 7 2) tl ti ta tr t k ht htl hti) (by simp only [List.append_assoc, List.nil_append, List.append_nil]) rfl (by simp only [List.append_assoc, List.nil_append, List.append_nil]) gX7_parse_X2_read rfl hdV_X2_read ⟨Nat.le_of_ble_eq_true rfl, Nat.le_of_ble_eq_true rfl⟩ (q0 := 0) rfl rfl rfl rfl (Nat.le_of_ble_eq_true rfl) ⟨Nat.zero_le _, Nat.zero_le _⟩ dX7_parse_4 (fun H locs w => ?_)
  refine nv_if_ne S (by omega) (tgt := 21) dX7_parse_7 (by decide) (fun h_1 => ?_) (fun h_1 => ?_)
  · skip
    refine lv_aload_n S.1 S.2.1 dX7_parse_21 rfl (lv_at hl 0 rfl) ?_
    refine nv_get S w (C := RX7) (T := TX7) (N := 4) hn_X7_parse_7 0 rfl rfl 1 (by decide) (List.mem_of_getElem? (i := 3) rfl) (v := .ref (z 2 0)) rfl dX7_parse_22 ?_
    refine lv_aload_n S.1 S.2.1 dX7_parse_25 rfl (lv_at hl 0 rfl) ?_
    refine nv_get S w (C := RX7) (T := TX7) (N := 4) hn_X7_parse_7 0 rfl rfl 0 (by decide) (List.mem_of_getElem? (i := 4) rfl) (v := .ref (z 1 0)) rfl dX7_parse_26 ?_
    have w := w.perm (ws' := tpO Z z ++ plB Z (z 8) P9 ++ hiB Z (z 2 0) (z 2 1) (fun r => z (3 + r)) o n Y ++ stB Z (z 1) X ++ ptB Z (z 7 0) (z 7 1) (z 7 2) tl ((rtd (cx t tl) ta tr).2.1) ((rtd (cx t tl) ta tr).2.2.1) ((rtd (cx t tl) ta tr).2.2.2.1) t ((rtd (cx t tl) ta tr).2.2.2.2)) (List.Perm.trans sw2 (List.Perm.append_right _ sw2))
    refine nv_fVv (rest := []) (tpO Z z ++ plB Z (z 8) P9) (ptB Z (z 7 0) (z 7 1) (z 7 2) tl ((rtd (cx t tl) ta tr).2.1) ((rtd (cx t tl) ta tr).2.2.1) ((rtd (cx t tl) ta tr).2.2.2.1) t ((rtd (cx t tl) ta tr).2.2.2.2)) (ws' := tpO Z z ++ plB Z (z 8) P9 ++ hiB Z (z 2 0) (z 2 1) (fun r => z (3 + r)) (svO o n) (svN n + 1) (svX o n Y X) ++ stB Z (z 1) X ++ ptB Z (z 7 0) (z 7 1) (z 7 2) tl ((rtd (cx t tl) ta tr).2.1) ((rtd (cx t tl) ta tr).2.2.1) ((rtd (cx t tl) ta tr).2.2.2.1) t ((rtd (cx t tl) ta tr).2.2.2.2)) S w hl.1 (c_X1_save l D Z (z 2 0) (z 2 1) (fun r => z (3 + r)) o n Y (z 1) X (by omega) (by omega)) (by simp only [List.append_assoc, List.nil_append, List.append_nil]) rfl (by simp only [List.append_assoc, List.nil_append, List.append_nil]) gX7_parse_X1_save rfl hdV_X1_save ⟨Nat.le_of_ble_eq_true rfl, Nat.le_of_ble_eq_true rfl⟩ (q0 := 0) rfl rfl rfl rfl (Nat.le_of_ble_eq_true rfl) ⟨Nat.zero_le _, Nat.zero_le _⟩ dX7_parse_29 (fun H locs w => ?_)
    have w := w.perm (ws' := tpO Z z ++ plB Z (z 8) P9 ++ stB Z (z 1) X ++ ptB Z (z 7 0) (z 7 1) (z 7 2) tl ((rtd (cx t tl) ta tr).2.1) ((rtd (cx t tl) ta tr).2.2.1) ((rtd (cx t tl) ta tr).2.2.2.1) t ((rtd (cx t tl) ta tr).2.2.2.2) ++ hiB Z (z 2 0) (z 2 1) (fun r => z (3 + r)) (svO o n) (svN n + 1) (svX o n Y X)) (List.Perm.trans (List.Perm.append_right _ sw2) sw2)
    have w := w.as (ws' := tpO Z z ++ plB Z (z 8) P9 ++ stO Z ((z 1) 0) ((z 1) 1) ((z 1) 5) ++ plB Z (fun k => (z 1) (5 + k)) X.2 ++ songB Z ((z 1) 1) ((z 1) 2) ((z 1) 3) ((z 1) 4) X.1 ++ [((z 7 0), .inr (1, [.ref (z 7 1), vI tl, vI ((rtd (cx t tl) ta tr).2.1), vI ((rtd (cx t tl) ta tr).2.2.1), vI ((rtd (cx t tl) ta tr).2.2.2.1), .ref (z 7 2)])), ((z 7 1), .inl (Z 1, 100, .inl (ar 100 t)))] ++ [((z 7 2), .inl (Z 0, 32, .inl (ar 32 (fun j => pk (((rtd (cx t tl) ta tr).2.2.2.2) j)))))] ++ hiB Z (z 2 0) (z 2 1) (fun r => z (3 + r)) (svO o n) (svN n + 1) (svX o n Y X)) (by simp only [stB, ptB, List.append_assoc, List.cons_append, List.nil_append])
    have hok := rtd_ok h_1
    refine lv_aload_n S.1 S.2.1 dX7_parse_32 rfl (lv_at hl 0 rfl) ?_
    refine nv_get S w (C := RX7) (T := TX7) (N := 4) hn_X7_parse_7 0 rfl rfl 0 (by decide) (List.mem_of_getElem? (i := 4) rfl) (v := .ref (z 1 0)) rfl dX7_parse_33 ?_
    refine nv_get S w (C := RX5) (T := TX5) (N := 2) hn_X7_parse_5 15 rfl rfl 0 (by decide) (List.mem_of_getElem? (i := 5) rfl) (v := .ref ((z 1) 1)) rfl dX7_parse_36 ?_
    refine lv_aload_n S.1 S.2.1 dX7_parse_39 rfl (lv_at hl 0 rfl) ?_
    refine nv_get S w (C := RX7) (T := TX7) (N := 4) hn_X7_parse_7 0 rfl rfl 2 (by decide) (List.mem_of_getElem? (i := 1) rfl) (v := .ref (z 7 0)) rfl dX7_parse_40 ?_
    refine nv_get S w (C := RX2) (T := TX2) (N := 6) hn_X7_parse_2 34 rfl rfl 3 (by decide) (List.mem_of_getElem? (i := 6) rfl) (v := vI ((rtd (cx t tl) ta tr).2.2.1)) rfl dX7_parse_43 ?_
    refine lv_aload_n S.1 S.2.1 dX7_parse_46 rfl (lv_at hl 0 rfl) ?_
    refine nv_get S w (C := RX7) (T := TX7) (N := 4) hn_X7_parse_7 0 rfl rfl 2 (by decide) (List.mem_of_getElem? (i := 1) rfl) (v := .ref (z 7 0)) rfl dX7_parse_47 ?_
    refine nv_get S w (C := RX2) (T := TX2) (N := 6) hn_X7_parse_2 34 rfl rfl 4 (by decide) (List.mem_of_getElem? (i := 7) rfl) (v := vI ((rtd (cx t tl) ta tr).2.2.2.1)) rfl dX7_parse_50 ?_
    refine lv_aload_n S.1 S.2.1 dX7_parse_53 rfl (lv_at hl 0 rfl) ?_
    refine nv_get S w (C := RX7) (T := TX7) (N := 4) hn_X7_parse_7 0 rfl rfl 2 (by decide) (List.mem_of_getElem? (i := 1) rfl) (v := .ref (z 7 0)) rfl dX7_parse_54 ?_
    refine nv_get S w (C := RX2) (T := TX2) (N := 6) hn_X7_parse_2 34 rfl rfl 5 (by decide) (List.mem_of_getElem? (i := 8) rfl) (v := .ref (z 7 2)) rfl dX7_parse_57 ?_
    have w := w.perm (ws' := tpO Z z ++ plB Z (z 8) P9 ++ stO Z ((z 1) 0) ((z 1) 1) ((z 1) 5) ++ plB Z (fun k => (z 1) (5 + k)) X.2 ++ songB Z ((z 1) 1) ((z 1) 2) ((z 1) 3) ((z 1) 4) X.1 ++ [((z 7 2), .inl (Z 0, 32, .inl (ar 32 (fun j => pk (((rtd (cx t tl) ta tr).2.2.2.2) j)))))] ++ [((z 7 0), .inr (1, [.ref (z 7 1), vI tl, vI ((rtd (cx t tl) ta tr).2.1), vI ((rtd (cx t tl) ta tr).2.2.1), vI ((rtd (cx t tl) ta tr).2.2.2.1), .ref (z 7 2)])), ((z 7 1), .inl (Z 1, 100, .inl (ar 100 t)))] ++ hiB Z (z 2 0) (z 2 1) (fun r => z (3 + r)) (svO o n) (svN n + 1) (svX o n Y X)) (List.Perm.append_right _ sw2)
    refine nv_fVv (rest := []) (tpO Z z ++ plB Z (z 8) P9 ++ stO Z ((z 1) 0) ((z 1) 1) ((z 1) 5) ++ plB Z (fun k => (z 1) (5 + k)) X.2) ([((z 7 0), .inr (1, [.ref (z 7 1), vI tl, vI ((rtd (cx t tl) ta tr).2.1), vI ((rtd (cx t tl) ta tr).2.2.1), vI ((rtd (cx t tl) ta tr).2.2.2.1), .ref (z 7 2)])), ((z 7 1), .inl (Z 1, 100, .inl (ar 100 t)))] ++ hiB Z (z 2 0) (z 2 1) (fun r => z (3 + r)) (svO o n) (svN n + 1) (svX o n Y X)) (ws' := tpO Z z ++ plB Z (z 8) P9 ++ stO Z ((z 1) 0) ((z 1) 1) ((z 1) 5) ++ plB Z (fun k => (z 1) (5 + k)) X.2 ++ songB Z ((z 1) 1) ((z 1) 2) ((z 1) 3) ((z 1) 4) (fun i => if 32 * ((rtd (cx t tl) ta tr).2.2.1) ≤ i ∧ i < 32 * ((rtd (cx t tl) ta tr).2.2.1) + 32 then ((rtd (cx t tl) ta tr).2.2.2.2) (i - 32 * ((rtd (cx t tl) ta tr).2.2.1)) else X.1.1 i, un X.1.2.1 ((rtd (cx t tl) ta tr).2.2.1) ((rtd (cx t tl) ta tr).2.2.2.1), X.1.2.2) ++ [((z 7 2), .inl (Z 0, 32, .inl (ar 32 (fun i => pk (((rtd (cx t tl) ta tr).2.2.2.2) i)))))] ++ [((z 7 0), .inr (1, [.ref (z 7 1), vI tl, vI ((rtd (cx t tl) ta tr).2.1), vI ((rtd (cx t tl) ta tr).2.2.1), vI ((rtd (cx t tl) ta tr).2.2.2.1), .ref (z 7 2)])), ((z 7 1), .inl (Z 1, 100, .inl (ar 100 t)))] ++ hiB Z (z 2 0) (z 2 1) (fun r => z (3 + r)) (svO o n) (svN n + 1) (svX o n Y X)) S w hl.1 (c_X4_putPattern l D Z ((z 1) 1) ((z 1) 2) ((z 1) 3) ((z 1) 4) X.1 ((rtd (cx t tl) ta tr).2.2.1) ((rtd (cx t tl) ta tr).2.2.2.1) (z 7 2) ((rtd (cx t tl) ta tr).2.2.2.2) (by rw [hok.1]; exact hok.2.1)) (by simp only [List.append_assoc, List.nil_append, List.append_nil]) rfl (by simp only [List.append_assoc, List.nil_append, List.append_nil]) gX7_parse_X4_putPattern rfl hdV_X4_putPattern ⟨Nat.le_of_ble_eq_true rfl, Nat.le_of_ble_eq_true rfl⟩ (q0 := 0) rfl rfl rfl rfl (Nat.le_of_ble_eq_true rfl) ⟨Nat.zero_le _, Nat.zero_le _⟩ dX7_parse_60 (fun H locs w => ?_)
    have w := w.perm (ws' := tpO Z z ++ plB Z (z 8) P9 ++ stO Z ((z 1) 0) ((z 1) 1) ((z 1) 5) ++ plB Z (fun k => (z 1) (5 + k)) X.2 ++ songB Z ((z 1) 1) ((z 1) 2) ((z 1) 3) ((z 1) 4) (fun i => if 32 * ((rtd (cx t tl) ta tr).2.2.1) ≤ i ∧ i < 32 * ((rtd (cx t tl) ta tr).2.2.1) + 32 then ((rtd (cx t tl) ta tr).2.2.2.2) (i - 32 * ((rtd (cx t tl) ta tr).2.2.1)) else X.1.1 i, un X.1.2.1 ((rtd (cx t tl) ta tr).2.2.1) ((rtd (cx t tl) ta tr).2.2.2.1), X.1.2.2) ++ [((z 7 0), .inr (1, [.ref (z 7 1), vI tl, vI ((rtd (cx t tl) ta tr).2.1), vI ((rtd (cx t tl) ta tr).2.2.1), vI ((rtd (cx t tl) ta tr).2.2.2.1), .ref (z 7 2)])), ((z 7 1), .inl (Z 1, 100, .inl (ar 100 t)))] ++ [((z 7 2), .inl (Z 0, 32, .inl (ar 32 (fun i => pk (((rtd (cx t tl) ta tr).2.2.2.2) i)))))] ++ hiB Z (z 2 0) (z 2 1) (fun r => z (3 + r)) (svO o n) (svN n + 1) (svX o n Y X)) (List.Perm.append_right _ sw2)
    refine lv_aload_n S.1 S.2.1 dX7_parse_63 rfl (lv_at hl 0 rfl) ?_
    refine nv_get S w (C := RX7) (T := TX7) (N := 4) hn_X7_parse_7 0 rfl rfl 2 (by decide) (List.mem_of_getElem? (i := 1) rfl) (v := .ref (z 7 0)) rfl dX7_parse_64 ?_
    refine nv_get S w (C := RX2) (T := TX2) (N := 6) hn_X7_parse_2 34 rfl rfl 3 (by decide) (List.mem_of_getElem? (i := 6) rfl) (v := vI ((rtd (cx t tl) ta tr).2.2.1)) rfl dX7_parse_67 ?_
    exact nv_iret S w hr hlocks rfl (by unfold prA; rw [if_neg h_1]) (by simp only [ifz_s h_1, stPat, stB, ptB, List.append_assoc, List.cons_append, List.nil_append]) dX7_parse_70
  · skip
    refine lv_bipush (v := -10) S.1 S.2.1 dX7_parse_10 (by decide +kernel) ?_
    refine lv_aload_n S.1 S.2.1 dX7_parse_12 rfl (lv_at hl 0 rfl) ?_
    refine nv_get S w (C := RX7) (T := TX7) (N := 4) hn_X7_parse_7 0 rfl rfl 2 (by decide) (List.mem_of_getElem? (i := 1) rfl) (v := .ref (z 7 0)) rfl dX7_parse_13 ?_
    refine nv_get S w (C := RX2) (T := TX2) (N := 6) hn_X7_parse_2 34 rfl rfl 2 (by decide) (List.mem_of_getElem? (i := 2) rfl) (v := vI ((rtd (cx t tl) ta tr).2.1)) rfl dX7_parse_16 ?_
    refine lv_isub S.1 S.2.1 dX7_parse_19 ?_
    exact nv_iret S w hr hlocks rfl (by unfold prA; rw [if_pos h_1]) (by simp only [ifz_0 h_1]) dX7_parse_20
