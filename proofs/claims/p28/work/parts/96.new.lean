theorem hn_X6_init_6 : ∀ w ∈ wsX60, w ∈ wsX6_init := by decide +kernel
set_option maxRecDepth 100000 in
set_option maxHeartbeats 4000000 in
theorem c_X6_init (l : Launch) (D : va_G) (Z : Nat → ClassId) (q : Nat) : Ck l yX6_init wsX6_init 1 12 2 6 D Z [.ref q] ([(q, .inr (5, [vI 0, vI 0, vI 0, vI 0, vI 0, vI 0, .null, .null, vI 0]))]) (fun (a9 : Nat × Nat) => voiceB Z q a9.1 a9.2 V0) := by
  refine ne_k (cc := cX6_init) (maxL := 1) (by decide +kernel) rfl (Nat.le_of_ble_eq_true rfl) rfl (fun p e s m args below meth c A ls (S : CallFix p m c cX6_init 1 s args wsX6_init RX6) hr hlocks hname hao hl w => ?_)
  have hl : lv_has ls 1 [(0, .ref q)] := hl
  refine lv_aload_n S.1 S.2.1 dX6_init_0 rfl (lv_at hl 0 rfl) ?_
  refine nv_obj S hl.1 (List.mem_of_getElem? (i := 1) rfl) (List.mem_of_getElem? (i := 2) rfl) (List.mem_of_getElem? (i := 3) rfl) dX6_init_1 (Nat.le_of_ble_eq_true rfl) (Nat.le_of_ble_eq_true rfl) ?_
  refine lv_aload_n S.1 S.2.1 dX6_init_4 rfl (lv_at hl 0 rfl) ?_
  refine lv_iconst (v := nI 3) S.1 S.2.1 dX6_init_5 (ofInt_nI 3) ?_
  refine nv_newi S w (n := 3) (List.mem_of_getElem? (i := 4) rfl) (by decide) (Nat.le_of_ble_eq_true rfl) (Nat.le_of_ble_eq_true rfl) dX6_init_6 (fun q1 H w => ?_)
  refine nv_putR S w hname (C := RX6) (T := TX6) (N := 9) hn_X6_init_6 tyX6_ok nmX6 0 rfl rfl 6 (by decide) (List.mem_of_getElem? (i := 5) rfl) rfl rfl rfl rfl (Nat.le_of_ble_eq_true rfl) (ws' := [(q, .inr (5, [vI 0, vI 0, vI 0, vI 0, vI 0, vI 0, .ref q1, .null, vI 0]))] ++ [(q1, .inl (Z 0, 3, .inl (ar 3 (fun _ => 0))))]) rfl dX6_init_8 (fun H locs w => ?_)
  refine lv_aload_n S.1 S.2.1 dX6_init_11 rfl (lv_at hl 0 rfl) ?_
  refine lv_iconst (v := nI 3) S.1 S.2.1 dX6_init_12 (ofInt_nI 3) ?_
  refine nv_newi S w (n := 3) (List.mem_of_getElem? (i := 4) rfl) (by decide) (Nat.le_of_ble_eq_true rfl) (Nat.le_of_ble_eq_true rfl) dX6_init_13 (fun q2 H w => ?_)
  refine nv_putR S w hname (C := RX6) (T := TX6) (N := 9) hn_X6_init_6 tyX6_ok nmX6 0 rfl rfl 7 (by decide) (List.mem_of_getElem? (i := 6) rfl) rfl rfl rfl rfl (Nat.le_of_ble_eq_true rfl) (ws' := [(q, .inr (5, [vI 0, vI 0, vI 0, vI 0, vI 0, vI 0, .ref q1, .ref q2, vI 0]))] ++ [(q1, .inl (Z 0, 3, .inl (ar 3 (fun _ => 0))))] ++ [(q2, .inl (Z 0, 3, .inl (ar 3 (fun _ => 0))))]) rfl dX6_init_15 (fun H locs w => ?_)
  refine lv_aload_n S.1 S.2.1 dX6_init_18 rfl (lv_at hl 0 rfl) ?_
  refine lv_sipush (v := nI 960) S.1 S.2.1 dX6_init_19 (by decide +kernel) ?_
  refine nv_put S w (C := RX6) (T := TX6) (N := 9) hn_X6_init_6 tyX6_ok nmX6 0 rfl rfl 8 (by decide) (List.mem_of_getElem? (i := 7) rfl) rfl rfl (Nat.le_of_ble_eq_true rfl) (ws' := [(q, .inr (5, [vI 0, vI 0, vI 0, vI 0, vI 0, vI 0, .ref q1, .ref q2, vI 960]))] ++ [(q1, .inl (Z 0, 3, .inl (ar 3 (fun _ => 0))))] ++ [(q2, .inl (Z 0, 3, .inl (ar 3 (fun _ => 0))))]) rfl dX6_init_22 (fun H locs w => ?_)
  exact nv_kret S w hr hlocks (q1, q2) (voiceB_mk (V := V0) rfl rfl rfl rfl rfl rfl rfl (fun j hj => by unfold V0; rw [if_neg (by omega)]) (fun j hj => by unfold V0; rw [if_neg (by omega)])) (Nat.le_of_ble_eq_true rfl) (Nat.le_of_ble_eq_true rfl) dX6_init_25

theorem hn_X4_init_4 : ∀ w ∈ wsX40, w ∈ wsX4_init := by decide +kernel
set_option maxRecDepth 100000 in
set_option maxHeartbeats 4000000 in
theorem k_X4_init_b (l : Launch) (D : va_G) (Z : Nat → ClassId) (q : Nat)  {p : Program} {e : Env} {s : State} {m : MethodId} {args : Array Value} {below : List Frame} {meth : Method} {c : Code} {A : Nat → Prop} (S : CallFix p m c cX4_init 2 s args wsX4_init RX4) (hr : meth.sig.returnType = none) (hlocks : meth.locks = false) (hname : meth.name = "<init>") (hao : AO s) : ∀ (n9 : Nat), (∀ (q1 q2 q3 i : Nat) (hi9 : i ≤ 6) (hm : 6 - i < n9), ∀ (H : Heap) (locs : List Loc) (ls : Array Slot) (hl : lv_has ls 2 [(0, .ref q), (1, vI i)]) (w : Wd D Z A s ([(q, .inr (3, [.ref q1, .ref q2, .ref q3, vI 1]))] ++ [(q1, .inl (Z 0, 192, .inl (ar 192 (flN 960 (fun _ => 0) 192))))] ++ [(q2, .inl (Z 0, 6, .inl (ar 6 (flN 4 (fun _ => 0) i))))] ++ [(q3, .inl (Z 0, 8, .inl (ar 8 (fun _ => 0))))]) H locs), W p l e (rmX 1 12 3 206) s m args below meth c H locs 3 206 (Qk below D Z A args s (fun (a9 : Nat × Nat × Nat) => songB Z q a9.1 a9.2.1 a9.2.2 G0) 3 206) (F0 m 62 ls [])) := by
  intro n9
  induction n9 with
  | zero => intro q1 q2 q3 i hi9 hm; exact absurd hm (Nat.not_lt_zero _)
  | succ n9 ih =>
    skip
    · intro q1 q2 q3 i hi9 hm H locs ls hl w
      refine lv_iload_n S.1 S.2.1 dX4_init_62 rfl (lv_at hl 1 rfl) ?_
      refine lv_aload_n S.1 S.2.1 dX4_init_63 rfl (lv_at hl 0 rfl) ?_
      refine nv_get S w (C := RX4) (T := TX4) (N := 4) hn_X4_init_4 0 rfl rfl 1 (by decide) (List.mem_of_getElem? (i := 6) rfl) (v := .ref q2) rfl dX4_init_64 ?_
      refine nv_alen S w 2 0 rfl rfl (n := 6) rfl dX4_init_67 ?_
      refine nv_icmp_ge S (by omega) (by omega) (tgt := 84) dX4_init_68 (by decide) (fun h_1 => ?_) (fun h_1 => ?_)
      · skip
        exact nv_kret S w hr hlocks (q1, q2, q3) (songB_mk (G := G0) rfl (fun j hj => if_pos hj) (fun j hj => by rw [show i = 6 by omega]; exact if_pos hj) (fun j hj => rfl)) (Nat.le_of_ble_eq_true rfl) (Nat.le_of_ble_eq_true rfl) dX4_init_84
      · skip
        refine lv_aload_n S.1 S.2.1 dX4_init_71 rfl (lv_at hl 0 rfl) ?_
        refine nv_get S w (C := RX4) (T := TX4) (N := 4) hn_X4_init_4 0 rfl rfl 1 (by decide) (List.mem_of_getElem? (i := 6) rfl) (v := .ref q2) rfl dX4_init_72 ?_
        refine lv_iload_n S.1 S.2.1 dX4_init_75 rfl (lv_at hl 1 rfl) ?_
        refine lv_iconst (v := nI 4) S.1 S.2.1 dX4_init_76 (ofInt_nI 4) ?_
        refine nv_iast S w (i := i) (x := 4) (g := (flN 4 (fun _ => 0) i)) 2 rfl (by omega) (by decide) (ws' := [(q, .inr (3, [.ref q1, .ref q2, .ref q3, vI 1]))] ++ [(q1, .inl (Z 0, 192, .inl (ar 192 (flN 960 (fun _ => 0) 192))))] ++ [(q2, .inl (Z 0, 6, .inl (ar 6 (un (flN 4 (fun _ => 0) i) i 4))))] ++ [(q3, .inl (Z 0, 8, .inl (ar 8 (fun _ => 0))))]) rfl dX4_init_77 (fun H locs w => ?_)
        refine lv_iinc (v := nI (i + 1)) (lv' := [(1, vI (i + 1)), (0, .ref q)]) S.1 S.2.1 dX4_init_78 hl (k := 1) rfl (nI_incI i 1) (by decide) rfl (fun ls hl => ?_)
        refine lv_goto (tgt := 62) S.1 S.2.1 dX4_init_81 (by decide) ?_
        exact ih q1 q2 q3 (i + 1) (by omega) (by omega) _ _ _ (lv_sub hl [1, 0] rfl) (w.as (by rw [flN_s]))
set_option maxRecDepth 100000 in
set_option maxHeartbeats 4000000 in
theorem k_X4_init_a (l : Launch) (D : va_G) (Z : Nat → ClassId) (q : Nat)  {p : Program} {e : Env} {s : State} {m : MethodId} {args : Array Value} {below : List Frame} {meth : Method} {c : Code} {A : Nat → Prop} (S : CallFix p m c cX4_init 2 s args wsX4_init RX4) (hr : meth.sig.returnType = none) (hlocks : meth.locks = false) (hname : meth.name = "<init>") (hao : AO s) : ∀ (n9 : Nat), (∀ (q1 q2 q3 i : Nat) (hi9 : i ≤ 192) (hm : 192 - i < n9), ∀ (H : Heap) (locs : List Loc) (ls : Array Slot) (hl : lv_has ls 2 [(0, .ref q), (1, vI i)]) (w : Wd D Z A s ([(q, .inr (3, [.ref q1, .ref q2, .ref q3, vI 1]))] ++ [(q1, .inl (Z 0, 192, .inl (ar 192 (flN 960 (fun _ => 0) i))))] ++ [(q2, .inl (Z 0, 6, .inl (ar 6 (fun _ => 0))))] ++ [(q3, .inl (Z 0, 8, .inl (ar 8 (fun _ => 0))))]) H locs), W p l e (rmX 1 12 3 206) s m args below meth c H locs 3 206 (Qk below D Z A args s (fun (a9 : Nat × Nat × Nat) => songB Z q a9.1 a9.2.1 a9.2.2 G0) 3 206) (F0 m 36 ls [])) := by
  intro n9
  induction n9 with
  | zero => intro q1 q2 q3 i hi9 hm; exact absurd hm (Nat.not_lt_zero _)
  | succ n9 ih =>
    skip
    · intro q1 q2 q3 i hi9 hm H locs ls hl w
      refine lv_iload_n S.1 S.2.1 dX4_init_36 rfl (lv_at hl 1 rfl) ?_
      refine lv_aload_n S.1 S.2.1 dX4_init_37 rfl (lv_at hl 0 rfl) ?_
      refine nv_get S w (C := RX4) (T := TX4) (N := 4) hn_X4_init_4 0 rfl rfl 0 (by decide) (List.mem_of_getElem? (i := 5) rfl) (v := .ref q1) rfl dX4_init_38 ?_
      refine nv_alen S w 1 0 rfl rfl (n := 192) rfl dX4_init_41 ?_
      refine nv_icmp_ge S (by omega) (by omega) (tgt := 60) dX4_init_42 (by decide) (fun h_2 => ?_) (fun h_2 => ?_)
      · skip
        refine lv_iconst (v := nI 0) S.1 S.2.1 dX4_init_60 (ofInt_nI 0) ?_
        refine lv_istore_n (lv' := [(1, vI 0), (0, .ref q)]) S.1 S.2.1 dX4_init_61 rfl hl (by decide) rfl (fun ls hl => ?_)
        exact k_X4_init_b l D Z q S hr hlocks hname hao _ q1 q2 q3 0 (by omega) (Nat.lt_succ_self _) _ _ _ (lv_sub hl [1, 0] rfl) (w.as (by rw [flN_0, show i = 192 by omega]))
      · skip
        refine lv_aload_n S.1 S.2.1 dX4_init_45 rfl (lv_at hl 0 rfl) ?_
        refine nv_get S w (C := RX4) (T := TX4) (N := 4) hn_X4_init_4 0 rfl rfl 0 (by decide) (List.mem_of_getElem? (i := 5) rfl) (v := .ref q1) rfl dX4_init_46 ?_
        refine lv_iload_n S.1 S.2.1 dX4_init_49 rfl (lv_at hl 1 rfl) ?_
        refine lv_sipush (v := nI 960) S.1 S.2.1 dX4_init_50 (by decide +kernel) ?_
        refine nv_iast S w (i := i) (x := 960) (g := (flN 960 (fun _ => 0) i)) 1 rfl (by omega) (by decide) (ws' := [(q, .inr (3, [.ref q1, .ref q2, .ref q3, vI 1]))] ++ [(q1, .inl (Z 0, 192, .inl (ar 192 (un (flN 960 (fun _ => 0) i) i 960))))] ++ [(q2, .inl (Z 0, 6, .inl (ar 6 (fun _ => 0))))] ++ [(q3, .inl (Z 0, 8, .inl (ar 8 (fun _ => 0))))]) rfl dX4_init_53 (fun H locs w => ?_)
        refine lv_iinc (v := nI (i + 1)) (lv' := [(1, vI (i + 1)), (0, .ref q)]) S.1 S.2.1 dX4_init_54 hl (k := 1) rfl (nI_incI i 1) (by decide) rfl (fun ls hl => ?_)
        refine lv_goto (tgt := 36) S.1 S.2.1 dX4_init_57 (by decide) ?_
        exact ih q1 q2 q3 (i + 1) (by omega) (by omega) _ _ _ (lv_sub hl [1, 0] rfl) (w.as (by rw [flN_s]))
set_option maxRecDepth 100000 in
set_option maxHeartbeats 4000000 in
theorem c_X4_init (l : Launch) (D : va_G) (Z : Nat → ClassId) (q : Nat) : Ck l yX4_init wsX4_init 1 12 3 206 D Z [.ref q] ([(q, .inr (3, [.null, .null, .null, vI 0]))]) (fun (a9 : Nat × Nat × Nat) => songB Z q a9.1 a9.2.1 a9.2.2 G0) := by
  refine ne_k (cc := cX4_init) (maxL := 2) (by decide +kernel) rfl (Nat.le_of_ble_eq_true rfl) rfl (fun p e s m args below meth c A ls (S : CallFix p m c cX4_init 2 s args wsX4_init RX4) hr hlocks hname hao hl w => ?_)
  have hl : lv_has ls 2 [(0, .ref q)] := hl
  refine lv_aload_n S.1 S.2.1 dX4_init_0 rfl (lv_at hl 0 rfl) ?_
  refine nv_obj S hl.1 (List.mem_of_getElem? (i := 1) rfl) (List.mem_of_getElem? (i := 2) rfl) (List.mem_of_getElem? (i := 3) rfl) dX4_init_1 (Nat.le_of_ble_eq_true rfl) (Nat.le_of_ble_eq_true rfl) ?_
  refine lv_aload_n S.1 S.2.1 dX4_init_4 rfl (lv_at hl 0 rfl) ?_
  refine lv_sipush (v := nI 192) S.1 S.2.1 dX4_init_5 (by decide +kernel) ?_
  refine nv_newi S w (n := 192) (List.mem_of_getElem? (i := 4) rfl) (by decide) (Nat.le_of_ble_eq_true rfl) (Nat.le_of_ble_eq_true rfl) dX4_init_8 (fun q1 H w => ?_)
  refine nv_putR S w hname (C := RX4) (T := TX4) (N := 4) hn_X4_init_4 tyX4_ok nmX4 0 rfl rfl 0 (by decide) (List.mem_of_getElem? (i := 5) rfl) rfl rfl rfl rfl (Nat.le_of_ble_eq_true rfl) (ws' := [(q, .inr (3, [.ref q1, .null, .null, vI 0]))] ++ [(q1, .inl (Z 0, 192, .inl (ar 192 (fun _ => 0))))]) rfl dX4_init_10 (fun H locs w => ?_)
  refine lv_aload_n S.1 S.2.1 dX4_init_13 rfl (lv_at hl 0 rfl) ?_
  refine lv_bipush (v := nI 6) S.1 S.2.1 dX4_init_14 (by decide +kernel) ?_
  refine nv_newi S w (n := 6) (List.mem_of_getElem? (i := 4) rfl) (by decide) (Nat.le_of_ble_eq_true rfl) (Nat.le_of_ble_eq_true rfl) dX4_init_16 (fun q2 H w => ?_)
  refine nv_putR S w hname (C := RX4) (T := TX4) (N := 4) hn_X4_init_4 tyX4_ok nmX4 0 rfl rfl 1 (by decide) (List.mem_of_getElem? (i := 6) rfl) rfl rfl rfl rfl (Nat.le_of_ble_eq_true rfl) (ws' := [(q, .inr (3, [.ref q1, .ref q2, .null, vI 0]))] ++ [(q1, .inl (Z 0, 192, .inl (ar 192 (fun _ => 0))))] ++ [(q2, .inl (Z 0, 6, .inl (ar 6 (fun _ => 0))))]) rfl dX4_init_18 (fun H locs w => ?_)
  refine lv_aload_n S.1 S.2.1 dX4_init_21 rfl (lv_at hl 0 rfl) ?_
  refine lv_bipush (v := nI 8) S.1 S.2.1 dX4_init_22 (by decide +kernel) ?_
  refine nv_newi S w (n := 8) (List.mem_of_getElem? (i := 4) rfl) (by decide) (Nat.le_of_ble_eq_true rfl) (Nat.le_of_ble_eq_true rfl) dX4_init_24 (fun q3 H w => ?_)
  refine nv_putR S w hname (C := RX4) (T := TX4) (N := 4) hn_X4_init_4 tyX4_ok nmX4 0 rfl rfl 2 (by decide) (List.mem_of_getElem? (i := 7) rfl) rfl rfl rfl rfl (Nat.le_of_ble_eq_true rfl) (ws' := [(q, .inr (3, [.ref q1, .ref q2, .ref q3, vI 0]))] ++ [(q1, .inl (Z 0, 192, .inl (ar 192 (fun _ => 0))))] ++ [(q2, .inl (Z 0, 6, .inl (ar 6 (fun _ => 0))))] ++ [(q3, .inl (Z 0, 8, .inl (ar 8 (fun _ => 0))))]) rfl dX4_init_26 (fun H locs w => ?_)
  refine lv_aload_n S.1 S.2.1 dX4_init_29 rfl (lv_at hl 0 rfl) ?_
  refine lv_iconst (v := nI 1) S.1 S.2.1 dX4_init_30 (ofInt_nI 1) ?_
  refine nv_put S w (C := RX4) (T := TX4) (N := 4) hn_X4_init_4 tyX4_ok nmX4 0 rfl rfl 3 (by decide) (List.mem_of_getElem? (i := 8) rfl) rfl rfl (Nat.le_of_ble_eq_true rfl) (ws' := [(q, .inr (3, [.ref q1, .ref q2, .ref q3, vI 1]))] ++ [(q1, .inl (Z 0, 192, .inl (ar 192 (fun _ => 0))))] ++ [(q2, .inl (Z 0, 6, .inl (ar 6 (fun _ => 0))))] ++ [(q3, .inl (Z 0, 8, .inl (ar 8 (fun _ => 0))))]) rfl dX4_init_31 (fun H locs w => ?_)
  refine lv_iconst (v := nI 0) S.1 S.2.1 dX4_init_34 (ofInt_nI 0) ?_
  refine lv_istore_n (lv' := [(1, vI 0), (0, .ref q)]) S.1 S.2.1 dX4_init_35 rfl hl (by decide) rfl (fun ls hl => ?_)
  exact k_X4_init_a l D Z q S hr hlocks hname hao _ q1 q2 q3 0 (by omega) (Nat.lt_succ_self _) _ _ _ (lv_sub hl [1, 0] rfl) (w.as (by rw [flN_0]))
