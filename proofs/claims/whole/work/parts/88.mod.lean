theorem hn_X8_meanVolume_8 : ∀ w ∈ wsX80, w ∈ wsX8_meanVolume := by decide +kernel
set_option maxRecDepth 100000 in
set_option maxHeartbeats 4000000 in
theorem c_X8_meanVolume (l : Launch) (D : va_G) (Z : Nat → ClassId) (b : Nat → Nat) (X : ST) (sv sd : Nat → Nat) (sm th tl pl ro nu : Nat) (t r : Nat → Nat) (hX : XB X) : Cd l yX8_meanVolume wsX8_meanVolume 2 43 D Z [.ref (b 0)] (mdM Z b X sv sd sm th tl pl ro nu t r) (mvD X) (mdM Z b X sv sd sm 0 tl pl ro nu t r) := by
  refine ne_d (cc := cX8_meanVolume) (maxL := 3) (by decide +kernel) rfl (Nat.le_of_ble_eq_true rfl) (fun p e s m args below meth c A ls (S : CallFix p m c cX8_meanVolume 3 s args wsX8_meanVolume RX8) hr hlocks hl w => ?_)
  have hl : lv_has ls 3 [(0, .ref (b 0))] := hl
  refine lv_aload_n S.1 S.2.1 dX8_meanVolume_0 rfl (lv_at hl 0 rfl) ?_
  refine lv_iconst (v := nI 0) S.1 S.2.1 dX8_meanVolume_1 (ofInt_nI 0) ?_
  refine nv_put S w (C := RX8) (T := TX8) (N := 11) hn_X8_meanVolume_8 tyX8_ok nmX8 0 rfl rfl 4 (by decide) (List.mem_of_getElem? (i := 1) rfl) rfl rfl (Nat.le_of_ble_eq_true rfl) (ws' := [(b 0, .inr (7, [.ref (b 1), .ref (b 2), .ref (b 3), vI sm, vI 0, .ref (b 4), vI tl, vI pl, .ref (b 5), vI ro, vI nu])), (b 1, .inl (Z 0, 853, .inl (ar 853 (enc X)))), (b 2, .inl (Z 0, 3412, .inl (ar 3412 sv))), (b 3, .inl (Z 0, 853, .inl (ar 853 sd))), (b 4, .inl (Z 0, 100, .inl (ar 100 t))), (b 5, .inl (Z 0, 128, .inl (ar 128 r)))]) rfl dX8_meanVolume_2 (fun H locs w => ?_)
  have w := w.as (ws' := mdM Z b X sv sd sm 0 tl pl ro nu t r) rfl
  refine lv_aload_n S.1 S.2.1 dX8_meanVolume_5 rfl (lv_at hl 0 rfl) ?_
  refine lv_iconst (v := nI 0) S.1 S.2.1 dX8_meanVolume_6 (ofInt_nI 0) ?_
  refine lv_iconst (v := nI 1) S.1 S.2.1 dX8_meanVolume_7 (ofInt_nI 1) ?_
  refine nv_rVi (rest := []) S w hl.1 (c_X8_of l D Z b X sv sd sm 0 tl pl ro nu t r 0 1 (by omega) (by omega)) [0, 1, 2, 3, 4, 5] rfl rfl gX8_meanVolume_X8_of rfl hdV_X8_of ⟨Nat.le_of_ble_eq_true rfl, Nat.le_of_ble_eq_true rfl⟩ (q0 := 0) rfl rfl rfl rfl (Nat.le_of_ble_eq_true rfl) ⟨Nat.zero_le _, Nat.zero_le _⟩ dX8_meanVolume_8 (fun H locs w => ?_)
  refine lv_aload_n S.1 S.2.1 dX8_meanVolume_11 rfl (lv_at hl 0 rfl) ?_
  refine lv_iconst (v := nI 1) S.1 S.2.1 dX8_meanVolume_12 (ofInt_nI 1) ?_
  refine lv_iconst (v := nI 1) S.1 S.2.1 dX8_meanVolume_13 (ofInt_nI 1) ?_
  refine nv_rVi (rest := [vI (X.2.2 0 1)]) S w hl.1 (c_X8_of l D Z b X sv sd sm 0 tl pl ro nu t r 1 1 (by omega) (by omega)) [0, 1, 2, 3, 4, 5] rfl rfl gX8_meanVolume_X8_of rfl hdV_X8_of ⟨Nat.le_of_ble_eq_true rfl, Nat.le_of_ble_eq_true rfl⟩ (q0 := 0) rfl rfl rfl rfl (Nat.le_of_ble_eq_true rfl) ⟨Nat.zero_le _, Nat.zero_le _⟩ dX8_meanVolume_14 (fun H locs w => ?_)
  refine nv_iadd S dX8_meanVolume_17 ?_
  refine lv_aload_n S.1 S.2.1 dX8_meanVolume_18 rfl (lv_at hl 0 rfl) ?_
  refine lv_iconst (v := nI 2) S.1 S.2.1 dX8_meanVolume_19 (ofInt_nI 2) ?_
  refine lv_iconst (v := nI 1) S.1 S.2.1 dX8_meanVolume_20 (ofInt_nI 1) ?_
  refine nv_rVi (rest := [vI ((X.2.2 0 1) + (X.2.2 1 1))]) S w hl.1 (c_X8_of l D Z b X sv sd sm 0 tl pl ro nu t r 2 1 (by omega) (by omega)) [0, 1, 2, 3, 4, 5] rfl rfl gX8_meanVolume_X8_of rfl hdV_X8_of ⟨Nat.le_of_ble_eq_true rfl, Nat.le_of_ble_eq_true rfl⟩ (q0 := 0) rfl rfl rfl rfl (Nat.le_of_ble_eq_true rfl) ⟨Nat.zero_le _, Nat.zero_le _⟩ dX8_meanVolume_21 (fun H locs w => ?_)
  refine nv_iadd S dX8_meanVolume_24 ?_
  refine lv_aload_n S.1 S.2.1 dX8_meanVolume_25 rfl (lv_at hl 0 rfl) ?_
  refine lv_iconst (v := nI 3) S.1 S.2.1 dX8_meanVolume_26 (ofInt_nI 3) ?_
  refine lv_iconst (v := nI 1) S.1 S.2.1 dX8_meanVolume_27 (ofInt_nI 1) ?_
  refine nv_rVi (rest := [vI (((X.2.2 0 1) + (X.2.2 1 1)) + (X.2.2 2 1))]) S w hl.1 (c_X8_of l D Z b X sv sd sm 0 tl pl ro nu t r 3 1 (by omega) (by omega)) [0, 1, 2, 3, 4, 5] rfl rfl gX8_meanVolume_X8_of rfl hdV_X8_of ⟨Nat.le_of_ble_eq_true rfl, Nat.le_of_ble_eq_true rfl⟩ (q0 := 0) rfl rfl rfl rfl (Nat.le_of_ble_eq_true rfl) ⟨Nat.zero_le _, Nat.zero_le _⟩ dX8_meanVolume_28 (fun H locs w => ?_)
  refine nv_iadd S dX8_meanVolume_31 ?_
  have v0 := (hX.2.1.2.2.2.2.2 0 (by decide)).1.2.1
  have v1 := (hX.2.1.2.2.2.2.2 1 (by decide)).1.2.1
  have v2 := (hX.2.1.2.2.2.2.2 2 (by decide)).1.2.1
  have v3 := (hX.2.1.2.2.2.2.2 3 (by decide)).1.2.1
  refine lv_i2d S.1 S.2.1 dX8_meanVolume_32 ?_
  refine lv_dstore_n (lv' := [(1, .double (FP.i2d (nI ((((X.2.2 0 1) + (X.2.2 1 1)) + (X.2.2 2 1)) + (X.2.2 3 1))))), (0, .ref (b 0))]) S.1 S.2.1 dX8_meanVolume_33 rfl hl (by decide) rfl (fun ls hl => ?_)
  refine lv_dload_n S.1 S.2.1 dX8_meanVolume_34 rfl (lv_at hl 0 rfl) ?_
  refine lv_ldc2d (v := 4616189618054758400) S.1 S.2.1 S.2.2.2.1 (S.2.2.2.2 _ (by decide +kernel)) dX8_meanVolume_35 ?_
  refine lv_ddiv S.1 S.2.1 dX8_meanVolume_38 (mv_n64 _ (by omega)) ?_
  exact nv_dret S w hr hlocks (by unfold mvD; rw [show cnt (fun c => X.2.2 c 1) 4 = X.2.2 0 1 + X.2.2 1 1 + X.2.2 2 1 + X.2.2 3 1 by simp only [cnt]; omega]) rfl dX8_meanVolume_39

theorem hn_X8_undo_8 : ∀ w ∈ wsX80, w ∈ wsX8_undo := by decide +kernel
set_option maxRecDepth 100000 in
set_option maxHeartbeats 4000000 in
theorem k_X8_undo (l : Launch) (D : va_G) (Z : Nat → ClassId) (b : Nat → Nat) (X Y9 : ST) (sv sd : Nat → Nat) (sm th tl pl ro nu : Nat) (t r : Nat → Nat) (hsm : sm ≤ 4) (hy9 : sm ≠ 0 → ∀ j, j < 853 → sv (853 * (sm - 1) + j) = enc Y9 j) {p : Program} {e : Env} {s : State} {m : MethodId} {args : Array Value} {below : List Frame} {meth : Method} {c : Code} {A : Nat → Prop} (S : CallFix p m c cX8_undo 2 s args wsX8_undo RX8) (hr : meth.sig.returnType = (some .int)) (hlocks : meth.locks = false) : ∀ (n9 : Nat), (∀ (i : Nat) (hi9 : i ≤ 853) (h0 : sm ≠ 0) (hkc : kC (sm ≠ 0) True = 0) (hm : 853 - i < n9), ∀ (H : Heap) (locs : List Loc) (ls : Array Slot) (hl : lv_has ls 2 [(0, .ref (b 0)), (1, vI i)]) (w : Wd D Z A s ([(b 0, .inr (7, [.ref (b 1), .ref (b 2), .ref (b 3), vI (sm - 1), vI th, .ref (b 4), vI tl, vI pl, .ref (b 5), vI ro, vI nu])), (b 1, .inl (Z 0, 853, .inl (ar 853 (cpN (enc Y9) (enc X) i)))), (b 2, .inl (Z 0, 3412, .inl (ar 3412 sv))), (b 3, .inl (Z 0, 853, .inl (ar 853 sd))), (b 4, .inl (Z 0, 100, .inl (ar 100 t))), (b 5, .inl (Z 0, 128, .inl (ar 128 r)))]) H locs), W p l e (rmO 1 21) s m args below meth c H locs 0 0 (Qi below D Z A args s (ifz (kC (sm ≠ 0) True) (nI (sm - 1)) (nI 0)) (mdM Z b (ifz (kC (sm ≠ 0) True) Y9 X) sv sd (sm - 1) (kC (sm ≠ 0) True) tl pl ro nu t r)) (F0 m 25 ls [])) := by
  intro n9
  induction n9 with
  | zero => intro i hi9 h0 hkc hm; exact absurd hm (Nat.not_lt_zero _)
  | succ n9 ih =>
    skip
    · intro i hi9 h0 hkc hm H locs ls hl w
      refine lv_iload_n S.1 S.2.1 dX8_undo_25 rfl (lv_at hl 1 rfl) ?_
      refine lv_sipush (v := nI 853) S.1 S.2.1 dX8_undo_26 (by decide +kernel) ?_
      refine nv_icmp_ge S (by omega) (by omega) (tgt := 59) dX8_undo_29 (by decide) (fun h_1 => ?_) (fun h_1 => ?_)
      · skip
        refine lv_aload_n S.1 S.2.1 dX8_undo_59 rfl (lv_at hl 0 rfl) ?_
        have w := w.as (ws' := mdM Z b Y9 sv sd (sm - 1) th tl pl ro nu t r) (mdM_f (fun j hj => by rw [show i = 853 by omega]; exact if_pos hj) (fun j _ => rfl) (fun j _ => rfl))
        refine lv_aload_n S.1 S.2.1 dX8_undo_60 rfl (lv_at hl 0 rfl) ?_
        refine nv_get S w (C := RX8) (T := TX8) (N := 11) hn_X8_undo_8 0 rfl rfl 3 (by decide) (List.mem_of_getElem? (i := 1) rfl) (v := vI (sm - 1)) rfl dX8_undo_61 ?_
        refine nv_cVi (rest := []) (ws' := mdM Z b Y9 sv sd (sm - 1) 0 tl pl ro nu t r) S w hl.1 (c_X8_fine l D Z b Y9 sv sd (sm - 1) th tl pl ro nu t r (nI (sm - 1)) ) [0, 1, 2, 3, 4, 5] rfl rfl rfl rfl gX8_undo_X8_fine rfl hdV_X8_fine ⟨Nat.le_of_ble_eq_true rfl, Nat.le_of_ble_eq_true rfl⟩ (q0 := 0) rfl rfl rfl rfl (Nat.le_of_ble_eq_true rfl) ⟨Nat.zero_le _, Nat.zero_le _⟩ dX8_undo_64 (fun H locs w => ?_)
        exact nv_iret S w hr hlocks rfl (by rw [hkc]; rfl) (by rw [hkc]; rfl) dX8_undo_67
      · skip
        refine lv_aload_n S.1 S.2.1 dX8_undo_32 rfl (lv_at hl 0 rfl) ?_
        refine nv_get S w (C := RX8) (T := TX8) (N := 11) hn_X8_undo_8 0 rfl rfl 0 (by decide) (List.mem_of_getElem? (i := 2) rfl) (v := .ref (b 1)) rfl dX8_undo_33 ?_
        refine lv_iload_n S.1 S.2.1 dX8_undo_36 rfl (lv_at hl 1 rfl) ?_
        refine lv_aload_n S.1 S.2.1 dX8_undo_37 rfl (lv_at hl 0 rfl) ?_
        refine nv_get S w (C := RX8) (T := TX8) (N := 11) hn_X8_undo_8 0 rfl rfl 1 (by decide) (List.mem_of_getElem? (i := 3) rfl) (v := .ref (b 2)) rfl dX8_undo_38 ?_
        refine lv_sipush (v := nI 853) S.1 S.2.1 dX8_undo_41 (by decide +kernel) ?_
        refine lv_aload_n S.1 S.2.1 dX8_undo_44 rfl (lv_at hl 0 rfl) ?_
        refine nv_get S w (C := RX8) (T := TX8) (N := 11) hn_X8_undo_8 0 rfl rfl 3 (by decide) (List.mem_of_getElem? (i := 1) rfl) (v := vI (sm - 1)) rfl dX8_undo_45 ?_
        refine nv_imul S dX8_undo_48 ?_
        refine lv_iload_n S.1 S.2.1 dX8_undo_49 rfl (lv_at hl 1 rfl) ?_
        refine nv_iadd S dX8_undo_50 ?_
        refine nv_iald S w (i := ((853 * (sm - 1)) + i)) (g := sv) 2 rfl (by omega) (by decide) dX8_undo_51 ?_
        refine W.eq (g2 := F0 m 52 ls [vI (enc Y9 i), vI i, .ref (b 1)]) (by rw [hy9 (by omega) i (by omega)]) ?_
        refine nv_iast S w (i := i) (x := (enc Y9 i)) (g := (cpN (enc Y9) (enc X) i)) 1 rfl (by omega) (by decide) (ws' := [(b 0, .inr (7, [.ref (b 1), .ref (b 2), .ref (b 3), vI (sm - 1), vI th, .ref (b 4), vI tl, vI pl, .ref (b 5), vI ro, vI nu])), (b 1, .inl (Z 0, 853, .inl (ar 853 (un (cpN (enc Y9) (enc X) i) i (enc Y9 i))))), (b 2, .inl (Z 0, 3412, .inl (ar 3412 sv))), (b 3, .inl (Z 0, 853, .inl (ar 853 sd))), (b 4, .inl (Z 0, 100, .inl (ar 100 t))), (b 5, .inl (Z 0, 128, .inl (ar 128 r)))]) rfl dX8_undo_52 (fun H locs w => ?_)
        refine lv_iinc (v := nI (i + 1)) (lv' := [(1, vI (i + 1)), (0, .ref (b 0))]) S.1 S.2.1 dX8_undo_53 hl (k := 1) rfl (nI_incI i 1) (by decide) rfl (fun ls hl => ?_)
        refine lv_goto (tgt := 25) S.1 S.2.1 dX8_undo_56 (by decide) ?_
        exact ih (i + 1) (by omega) h0 hkc (by omega) _ _ _ (lv_sub hl [1, 0] rfl) (w.as (by rw [cpN_s]))
set_option maxRecDepth 100000 in
set_option maxHeartbeats 4000000 in
theorem c_X8_undo (l : Launch) (D : va_G) (Z : Nat → ClassId) (b : Nat → Nat) (X Y9 : ST) (sv sd : Nat → Nat) (sm th tl pl ro nu : Nat) (t r : Nat → Nat) (hsm : sm ≤ 4) (hy9 : sm ≠ 0 → ∀ j, j < 853 → sv (853 * (sm - 1) + j) = enc Y9 j) : Ci l yX8_undo wsX8_undo 1 21 D Z [.ref (b 0)] (mdM Z b X sv sd sm th tl pl ro nu t r) (ifz (kC (sm ≠ 0) True) (nI (sm - 1)) (nI 0)) (mdM Z b (ifz (kC (sm ≠ 0) True) Y9 X) sv sd (sm - 1) (kC (sm ≠ 0) True) tl pl ro nu t r) := by
  refine ne_i (cc := cX8_undo) (maxL := 2) (by decide +kernel) rfl (Nat.le_of_ble_eq_true rfl) (fun p e s m args below meth c A ls (S : CallFix p m c cX8_undo 2 s args wsX8_undo RX8) hr hlocks hl w => ?_)
  have hl : lv_has ls 2 [(0, .ref (b 0))] := hl
  refine lv_aload_n S.1 S.2.1 dX8_undo_0 rfl (lv_at hl 0 rfl) ?_
  refine nv_get S w (C := RX8) (T := TX8) (N := 11) hn_X8_undo_8 0 rfl rfl 3 (by decide) (List.mem_of_getElem? (i := 1) rfl) (v := vI sm) rfl dX8_undo_1 ?_
  refine nv_if_ne S (by omega) (tgt := 13) dX8_undo_4 (by decide) (fun h_2 => ?_) (fun h_2 => ?_)
  · skip
    refine lv_aload_n S.1 S.2.1 dX8_undo_13 rfl (lv_at hl 0 rfl) ?_
    refine lv_dup S.1 S.2.1 dX8_undo_14 rfl ?_
    refine nv_get S w (C := RX8) (T := TX8) (N := 11) hn_X8_undo_8 0 rfl rfl 3 (by decide) (List.mem_of_getElem? (i := 1) rfl) (v := vI sm) rfl dX8_undo_15 ?_
    refine lv_iconst (v := nI 1) S.1 S.2.1 dX8_undo_18 (ofInt_nI 1) ?_
    refine nv_isub S (by omega) dX8_undo_19 ?_
    refine nv_put S w (C := RX8) (T := TX8) (N := 11) hn_X8_undo_8 tyX8_ok nmX8 0 rfl rfl 3 (by decide) (List.mem_of_getElem? (i := 1) rfl) rfl rfl (Nat.le_of_ble_eq_true rfl) (ws' := [(b 0, .inr (7, [.ref (b 1), .ref (b 2), .ref (b 3), vI (sm - 1), vI th, .ref (b 4), vI tl, vI pl, .ref (b 5), vI ro, vI nu])), (b 1, .inl (Z 0, 853, .inl (ar 853 (enc X)))), (b 2, .inl (Z 0, 3412, .inl (ar 3412 sv))), (b 3, .inl (Z 0, 853, .inl (ar 853 sd))), (b 4, .inl (Z 0, 100, .inl (ar 100 t))), (b 5, .inl (Z 0, 128, .inl (ar 128 r)))]) rfl dX8_undo_20 (fun H locs w => ?_)
    refine lv_iconst (v := nI 0) S.1 S.2.1 dX8_undo_23 (ofInt_nI 0) ?_
    refine lv_istore_n (lv' := [(1, vI 0), (0, .ref (b 0))]) S.1 S.2.1 dX8_undo_24 rfl hl (by decide) rfl (fun ls hl => ?_)
    exact k_X8_undo l D Z b X Y9 sv sd sm th tl pl ro nu t r hsm hy9 S hr hlocks _ 0 (by omega) h_2 (kC_0 h_2 trivial) (Nat.lt_succ_self _) _ _ _ (lv_sub hl [1, 0] rfl) (w.as (by rw [cpN_0]; try rfl))
  · skip
    refine lv_aload_n S.1 S.2.1 dX8_undo_7 rfl (lv_at hl 0 rfl) ?_
    refine lv_iconst (v := nI 1) S.1 S.2.1 dX8_undo_8 (ofInt_nI 1) ?_
    refine nv_cVi (rest := []) (ws' := mdM Z b X sv sd sm 1 tl pl ro nu t r) S w hl.1 (c_X8_throwing l D Z b X sv sd sm th tl pl ro nu t r 1 ) [0, 1, 2, 3, 4, 5] rfl rfl rfl rfl gX8_undo_X8_throwing rfl hdV_X8_throwing ⟨Nat.le_of_ble_eq_true rfl, Nat.le_of_ble_eq_true rfl⟩ (q0 := 0) rfl rfl rfl rfl (Nat.le_of_ble_eq_true rfl) ⟨Nat.zero_le _, Nat.zero_le _⟩ dX8_undo_9 (fun H locs w => ?_)
    exact nv_iret S w hr hlocks rfl (by rw [kC_1 (fun z9 => z9 h_2)]; rfl) (by rw [kC_1 (fun z9 => z9 h_2), show sm - 1 = sm by omega]; try rfl) dX8_undo_12

theorem hn_X8_append_8 : ∀ w ∈ wsX80, w ∈ wsX8_append := by decide +kernel
set_option maxRecDepth 100000 in
set_option maxHeartbeats 4000000 in
theorem c_X8_append (l : Launch) (D : va_G) (Z : Nat → ClassId) (b : Nat → Nat) (X : ST) (sv sd : Nat → Nat) (sm th tl pl ro nu : Nat) (t r : Nat → Nat) (xa : Int32) (htl : tl ≤ 100) : Ci l yX8_append wsX8_append 1 25 D Z [.ref (b 0), .int xa] (mdM Z b X sv sd sm th tl pl ro nu t r) (ifz (kC (rgI 0 127 xa) (tl < 100)) (nI (tl + 1)) (nI 0)) (mdM Z b X sv sd sm (kC (rgI 0 127 xa) (tl < 100)) (ifz (kC (rgI 0 127 xa) (tl < 100)) (tl + 1) tl) pl ro nu (ifz (kC (rgI 0 127 xa) (tl < 100)) (un t tl (toN xa)) t) r) := by
  refine ne_i (cc := cX8_append) (maxL := 2) (by decide +kernel) rfl (Nat.le_of_ble_eq_true rfl) (fun p e s m args below meth c A ls (S : CallFix p m c cX8_append 2 s args wsX8_append RX8) hr hlocks hl w => ?_)
  have hl : lv_has ls 2 [(0, .ref (b 0)), (1, .int xa)] := hl
  refine lv_iload_n S.1 S.2.1 dX8_append_0 rfl (lv_at hl 1 rfl) ?_
  refine lv_i2l (v := xa.toInt64) S.1 S.2.1 dX8_append_1 rfl ?_
  refine lv_lconst (v := 0) S.1 S.2.1 dX8_append_2 rfl ?_
  refine lv_ldc2 (v := 127) S.1 S.2.1 S.2.2.2.1 (S.2.2.2.2 _ (by decide +kernel)) dX8_append_3 ?_
  refine nv_pSi (rest := []) S w hl.1 (c_X8_inI l D Z xa 0 127 (by omega) (by omega)) gX8_append_X8_in rfl hdS_X8_in ⟨Nat.le_of_ble_eq_true rfl, Nat.le_of_ble_eq_true rfl⟩ rfl rfl (Nat.le_of_ble_eq_true rfl) ⟨Nat.zero_le _, Nat.zero_le _⟩ dX8_append_6 (fun H locs w => ?_)
  refine nv_if_neB S (tgt := 18) dX8_append_9 (by decide) (fun h_1 => ?_) (fun h_1 => ?_)
  · skip
    obtain ⟨na, rfl, hna⟩ := rg_nat (by decide) (by decide) h_1
    have eqna : toN (nI na) = na := toN_nI (by omega)
    refine lv_aload_n S.1 S.2.1 dX8_append_18 rfl (lv_at hl 0 rfl) ?_
    refine nv_get S w (C := RX8) (T := TX8) (N := 11) hn_X8_append_8 0 rfl rfl 6 (by decide) (List.mem_of_getElem? (i := 2) rfl) (v := vI tl) rfl dX8_append_19 ?_
    refine lv_bipush (v := nI 100) S.1 S.2.1 dX8_append_22 (by decide +kernel) ?_
    refine nv_icmp_ne S (by omega) (by omega) (tgt := 33) dX8_append_24 (by decide) (fun h_2 => ?_) (fun h_2 => ?_)
    · skip
      refine lv_aload_n S.1 S.2.1 dX8_append_33 rfl (lv_at hl 0 rfl) ?_
      refine nv_get S w (C := RX8) (T := TX8) (N := 11) hn_X8_append_8 0 rfl rfl 5 (by decide) (List.mem_of_getElem? (i := 3) rfl) (v := .ref (b 4)) rfl dX8_append_34 ?_
      refine lv_aload_n S.1 S.2.1 dX8_append_37 rfl (lv_at hl 0 rfl) ?_
      refine nv_get S w (C := RX8) (T := TX8) (N := 11) hn_X8_append_8 0 rfl rfl 6 (by decide) (List.mem_of_getElem? (i := 2) rfl) (v := vI tl) rfl dX8_append_38 ?_
      refine lv_iload_n S.1 S.2.1 dX8_append_41 rfl (lv_at hl 1 rfl) ?_
      refine nv_iast S w (i := tl) (x := na) (g := t) 4 rfl (by omega) (by decide) (ws' := [(b 0, .inr (7, [.ref (b 1), .ref (b 2), .ref (b 3), vI sm, vI th, .ref (b 4), vI tl, vI pl, .ref (b 5), vI ro, vI nu])), (b 1, .inl (Z 0, 853, .inl (ar 853 (enc X)))), (b 2, .inl (Z 0, 3412, .inl (ar 3412 sv))), (b 3, .inl (Z 0, 853, .inl (ar 853 sd))), (b 4, .inl (Z 0, 100, .inl (ar 100 (un t tl na)))), (b 5, .inl (Z 0, 128, .inl (ar 128 r)))]) rfl dX8_append_42 (fun H locs w => ?_)
      refine lv_aload_n S.1 S.2.1 dX8_append_43 rfl (lv_at hl 0 rfl) ?_
      refine lv_dup S.1 S.2.1 dX8_append_44 rfl ?_
      refine nv_get S w (C := RX8) (T := TX8) (N := 11) hn_X8_append_8 0 rfl rfl 6 (by decide) (List.mem_of_getElem? (i := 2) rfl) (v := vI tl) rfl dX8_append_45 ?_
      refine lv_iconst (v := nI 1) S.1 S.2.1 dX8_append_48 (ofInt_nI 1) ?_
      refine nv_iadd S dX8_append_49 ?_
      refine nv_put S w (C := RX8) (T := TX8) (N := 11) hn_X8_append_8 tyX8_ok nmX8 0 rfl rfl 6 (by decide) (List.mem_of_getElem? (i := 2) rfl) rfl rfl (Nat.le_of_ble_eq_true rfl) (ws' := [(b 0, .inr (7, [.ref (b 1), .ref (b 2), .ref (b 3), vI sm, vI th, .ref (b 4), vI (tl + 1), vI pl, .ref (b 5), vI ro, vI nu])), (b 1, .inl (Z 0, 853, .inl (ar 853 (enc X)))), (b 2, .inl (Z 0, 3412, .inl (ar 3412 sv))), (b 3, .inl (Z 0, 853, .inl (ar 853 sd))), (b 4, .inl (Z 0, 100, .inl (ar 100 (un t tl na)))), (b 5, .inl (Z 0, 128, .inl (ar 128 r)))]) rfl dX8_append_50 (fun H locs w => ?_)
      have w := w.as (ws' := mdM Z b X sv sd sm th (tl + 1) pl ro nu (un t tl na) r) rfl
      refine lv_aload_n S.1 S.2.1 dX8_append_53 rfl (lv_at hl 0 rfl) ?_
      refine lv_aload_n S.1 S.2.1 dX8_append_54 rfl (lv_at hl 0 rfl) ?_
      refine nv_get S w (C := RX8) (T := TX8) (N := 11) hn_X8_append_8 0 rfl rfl 6 (by decide) (List.mem_of_getElem? (i := 2) rfl) (v := vI (tl + 1)) rfl dX8_append_55 ?_
      refine nv_cVi (rest := []) (ws' := mdM Z b X sv sd sm 0 (tl + 1) pl ro nu (un t tl na) r) S w hl.1 (c_X8_fine l D Z b X sv sd sm th (tl + 1) pl ro nu (un t tl na) r (nI (tl + 1)) ) [0, 1, 2, 3, 4, 5] rfl rfl rfl rfl gX8_append_X8_fine rfl hdV_X8_fine ⟨Nat.le_of_ble_eq_true rfl, Nat.le_of_ble_eq_true rfl⟩ (q0 := 0) rfl rfl rfl rfl (Nat.le_of_ble_eq_true rfl) ⟨Nat.zero_le _, Nat.zero_le _⟩ dX8_append_58 (fun H locs w => ?_)
      exact nv_iret S w hr hlocks rfl (by rw [kC_0 h_1 (by omega)]; rfl) (by rw [kC_0 h_1 (by omega)]; simp only [eqna]; try rfl) dX8_append_61
    · skip
      refine lv_aload_n S.1 S.2.1 dX8_append_27 rfl (lv_at hl 0 rfl) ?_
      refine lv_iconst (v := nI 2) S.1 S.2.1 dX8_append_28 (ofInt_nI 2) ?_
      refine nv_cVi (rest := []) (ws' := mdM Z b X sv sd sm 2 tl pl ro nu t r) S w hl.1 (c_X8_throwing l D Z b X sv sd sm th tl pl ro nu t r 2 ) [0, 1, 2, 3, 4, 5] rfl rfl rfl rfl gX8_append_X8_throwing rfl hdV_X8_throwing ⟨Nat.le_of_ble_eq_true rfl, Nat.le_of_ble_eq_true rfl⟩ (q0 := 0) rfl rfl rfl rfl (Nat.le_of_ble_eq_true rfl) ⟨Nat.zero_le _, Nat.zero_le _⟩ dX8_append_29 (fun H locs w => ?_)
      exact nv_iret S w hr hlocks rfl (by rw [kC_2 h_1 (by omega)]; try rfl) (by rw [kC_2 h_1 (by omega)]; try rfl) dX8_append_32
  · skip
    refine lv_aload_n S.1 S.2.1 dX8_append_12 rfl (lv_at hl 0 rfl) ?_
    refine lv_iconst (v := nI 1) S.1 S.2.1 dX8_append_13 (ofInt_nI 1) ?_
    refine nv_cVi (rest := []) (ws' := mdM Z b X sv sd sm 1 tl pl ro nu t r) S w hl.1 (c_X8_throwing l D Z b X sv sd sm th tl pl ro nu t r 1 ) [0, 1, 2, 3, 4, 5] rfl rfl rfl rfl gX8_append_X8_throwing rfl hdV_X8_throwing ⟨Nat.le_of_ble_eq_true rfl, Nat.le_of_ble_eq_true rfl⟩ (q0 := 0) rfl rfl rfl rfl (Nat.le_of_ble_eq_true rfl) ⟨Nat.zero_le _, Nat.zero_le _⟩ dX8_append_14 (fun H locs w => ?_)
    exact nv_iret S w hr hlocks rfl (by rw [kC_1 h_1]; try rfl) (by rw [kC_1 h_1]; try rfl) dX8_append_17

theorem hn_X8_clearText_8 : ∀ w ∈ wsX80, w ∈ wsX8_clearText := by decide +kernel
set_option maxRecDepth 100000 in
set_option maxHeartbeats 4000000 in
theorem c_X8_clearText (l : Launch) (D : va_G) (Z : Nat → ClassId) (b : Nat → Nat) (X : ST) (sv sd : Nat → Nat) (sm th tl pl ro nu : Nat) (t r : Nat → Nat)  : Ci l yX8_clearText wsX8_clearText 1 21 D Z [.ref (b 0)] (mdM Z b X sv sd sm th tl pl ro nu t r) (nI tl) (mdM Z b X sv sd sm 0 0 pl ro nu t r) := by
  refine ne_i (cc := cX8_clearText) (maxL := 2) (by decide +kernel) rfl (Nat.le_of_ble_eq_true rfl) (fun p e s m args below meth c A ls (S : CallFix p m c cX8_clearText 2 s args wsX8_clearText RX8) hr hlocks hl w => ?_)
  have hl : lv_has ls 2 [(0, .ref (b 0))] := hl
  refine lv_aload_n S.1 S.2.1 dX8_clearText_0 rfl (lv_at hl 0 rfl) ?_
  refine nv_get S w (C := RX8) (T := TX8) (N := 11) hn_X8_clearText_8 0 rfl rfl 6 (by decide) (List.mem_of_getElem? (i := 1) rfl) (v := vI tl) rfl dX8_clearText_1 ?_
  refine lv_istore_n (lv' := [(1, vI tl), (0, .ref (b 0))]) S.1 S.2.1 dX8_clearText_4 rfl hl (by decide) rfl (fun ls hl => ?_)
  refine lv_aload_n S.1 S.2.1 dX8_clearText_5 rfl (lv_at hl 1 rfl) ?_
  refine lv_iconst (v := nI 0) S.1 S.2.1 dX8_clearText_6 (ofInt_nI 0) ?_
  refine nv_put S w (C := RX8) (T := TX8) (N := 11) hn_X8_clearText_8 tyX8_ok nmX8 0 rfl rfl 6 (by decide) (List.mem_of_getElem? (i := 1) rfl) rfl rfl (Nat.le_of_ble_eq_true rfl) (ws' := [(b 0, .inr (7, [.ref (b 1), .ref (b 2), .ref (b 3), vI sm, vI th, .ref (b 4), vI 0, vI pl, .ref (b 5), vI ro, vI nu])), (b 1, .inl (Z 0, 853, .inl (ar 853 (enc X)))), (b 2, .inl (Z 0, 3412, .inl (ar 3412 sv))), (b 3, .inl (Z 0, 853, .inl (ar 853 sd))), (b 4, .inl (Z 0, 100, .inl (ar 100 t))), (b 5, .inl (Z 0, 128, .inl (ar 128 r)))]) rfl dX8_clearText_7 (fun H locs w => ?_)
  have w := w.as (ws' := mdM Z b X sv sd sm th 0 pl ro nu t r) rfl
  refine lv_aload_n S.1 S.2.1 dX8_clearText_10 rfl (lv_at hl 1 rfl) ?_
  refine lv_iload_n S.1 S.2.1 dX8_clearText_11 rfl (lv_at hl 0 rfl) ?_
  refine nv_cVi (rest := []) (ws' := mdM Z b X sv sd sm 0 0 pl ro nu t r) S w hl.1 (c_X8_fine l D Z b X sv sd sm th 0 pl ro nu t r (nI tl) ) [0, 1, 2, 3, 4, 5] rfl rfl rfl rfl gX8_clearText_X8_fine rfl hdV_X8_fine ⟨Nat.le_of_ble_eq_true rfl, Nat.le_of_ble_eq_true rfl⟩ (q0 := 0) rfl rfl rfl rfl (Nat.le_of_ble_eq_true rfl) ⟨Nat.zero_le _, Nat.zero_le _⟩ dX8_clearText_12 (fun H locs w => ?_)
  exact nv_iret S w hr hlocks rfl rfl rfl dX8_clearText_15
