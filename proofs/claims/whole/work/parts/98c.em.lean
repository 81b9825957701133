theorem hn_X8_init_8 : ∀ w ∈ wsX80, w ∈ wsX8_init := by decide +kernel
theorem hdV_X8_empties : yX8_empties.cls = RX8 ∧ yX8_empties.cls ≠ "java/lang/invoke/MethodHandle" ∧ yX8_empties.cls ≠ "java/lang/invoke/VarHandle" ∧ (parseMethodDescriptor yX8_empties.desc).map (fun d => d.parameters.length) = some 1 := by decide +kernel
set_option maxRecDepth 100000 in
set_option maxHeartbeats 4000000 in
theorem k_X8_init (l : Launch) (D : va_G) (Z : Nat → ClassId) (q : Nat)  {p : Program} {e : Env} {s : State} {m : MethodId} {args : Array Value} {below : List Frame} {meth : Method} {c : Code} {A : Nat → Prop} (S : CallFix p m c cX8_init 2 s args wsX8_init RX8) (hr : meth.sig.returnType = none) (hlocks : meth.locks = false) (hname : meth.name = "<init>") (hao : AO s) : ∀ (n9 : Nat), (∀ (b : Nat → Nat) (i : Nat) (hi6 : i ≤ 6) (hbq : b 0 = q) (hm : 6 - i < n9), ∀ (H : Heap) (locs : List Loc) (ls : Array Slot) (hl : lv_has ls 2 [(0, .ref (b 0)), (1, vI i)]) (w : Wd D Z A s (mdM Z b (mX i) (fun _ => 0) (fun _ => 0) 0 0 0 0 0 0 (fun _ => 0) (fun _ => 0)) H locs), W p l e (rmX 2 45 5 5346) s m args below meth c H locs 5 5346 (Qk below D Z A args s (fun (a9 : Nat → Nat) => mdM Z (adK q a9) MX0 (fun _ => 0) (fun _ => 0) 0 0 0 0 0 0 (fun _ => 0) (fun _ => 0)) 5 5346) (F0 m 50 ls [])) := by
  intro n9
  induction n9 with
  | zero => intro b i hi6 hbq hm; exact absurd hm (Nat.not_lt_zero _)
  | succ n9 ih =>
    skip
    · intro b i hi6 hbq hm H locs ls hl w
      refine lv_iload_n S.1 S.2.1 dX8_init_50 rfl (lv_at hl 1 rfl) ?_
      refine lv_bipush (v := nI 6) S.1 S.2.1 dX8_init_51 (by decide +kernel) ?_
      refine nv_icmp_ge S (by omega) (by omega) (tgt := 77) dX8_init_53 (by decide) (fun h_1 => ?_) (fun h_1 => ?_)
      · skip
        refine lv_aload_n S.1 S.2.1 dX8_init_77 rfl (lv_at hl 0 rfl) ?_
        refine nv_get S w (C := RX8) (T := TX8) (N := 11) hn_X8_init_8 0 rfl rfl 0 (by decide) (List.mem_of_getElem? (i := 5) rfl) (v := .ref (b 1)) rfl dX8_init_78 ?_
        refine lv_bipush (v := nI 6) S.1 S.2.1 dX8_init_81 (by decide +kernel) ?_
        refine lv_iconst (v := nI 1) S.1 S.2.1 dX8_init_83 (ofInt_nI 1) ?_
        refine nv_iast S w (i := 6) (x := 1) (g := (enc (mX i))) 1 rfl (by omega) (by decide) (ws' := [(b 0, .inr (7, [.ref (b 1), .ref (b 2), .ref (b 3), vI 0, vI 0, .ref (b 4), vI 0, vI 0, .ref (b 5), vI 0, vI 0])), (b 1, .inl (Z 0, 853, .inl (ar 853 (un (enc (mX i)) 6 1)))), (b 2, .inl (Z 0, 3412, .inl (ar 3412 (fun _ => 0)))), (b 3, .inl (Z 0, 853, .inl (ar 853 (fun _ => 0)))), (b 4, .inl (Z 0, 100, .inl (ar 100 (fun _ => 0)))), (b 5, .inl (Z 0, 128, .inl (ar 128 (fun _ => 0))))]) rfl dX8_init_84 (fun H locs w => ?_)
        have w := w.as (ws' := mdM Z b (((mX 6).1.1, (mX 6).1.2.1, (mX 6).1.2.2.1, 1), (mX 6).2) (fun _ => 0) (fun _ => 0) 0 0 0 0 0 0 (fun _ => 0) (fun _ => 0)) (mdM_e (by rw [show i = 6 by omega]; exact un_n))
        refine lv_aload_n S.1 S.2.1 dX8_init_85 rfl (lv_at hl 0 rfl) ?_
        refine nv_cVv (rest := []) (ws' := mdM Z b ((((mX 6).1.1, (mX 6).1.2.1, (mX 6).1.2.2.1, 1), (mX 6).2).1, bgM) (fun _ => 0) (fun _ => 0) 0 0 0 0 0 0 (fun _ => 0) (fun _ => 0)) S w hl.1 (c_X8_begins l D Z b (((mX 6).1.1, (mX 6).1.2.1, (mX 6).1.2.2.1, 1), (mX 6).2) (fun _ => 0) (fun _ => 0) 0 0 0 0 0 0 (fun _ => 0) (fun _ => 0) ) [0, 1, 2, 3, 4, 5] rfl rfl rfl rfl gX8_init_X8_begins rfl hdV_X8_begins ⟨Nat.le_of_ble_eq_true rfl, Nat.le_of_ble_eq_true rfl⟩ (q0 := 0) rfl rfl rfl rfl (Nat.le_of_ble_eq_true rfl) ⟨Nat.le_of_ble_eq_true rfl, Nat.le_of_ble_eq_true rfl⟩ dX8_init_86 (fun H locs w => ?_)
        exact nv_kret S w hr hlocks b (by subst hbq; rfl) (Nat.le_of_ble_eq_true rfl) (Nat.le_of_ble_eq_true rfl) dX8_init_89
      · skip
        refine lv_aload_n S.1 S.2.1 dX8_init_56 rfl (lv_at hl 0 rfl) ?_
        refine nv_get S w (C := RX8) (T := TX8) (N := 11) hn_X8_init_8 0 rfl rfl 0 (by decide) (List.mem_of_getElem? (i := 5) rfl) (v := .ref (b 1)) rfl dX8_init_57 ?_
        refine lv_bipush (v := nI 15) S.1 S.2.1 dX8_init_60 (by decide +kernel) ?_
        refine lv_iload_n S.1 S.2.1 dX8_init_62 rfl (lv_at hl 1 rfl) ?_
        refine nv_iadd S dX8_init_63 ?_
        refine lv_iconst (v := nI 4) S.1 S.2.1 dX8_init_64 (ofInt_nI 4) ?_
        refine nv_iast S w (i := (15 + i)) (x := 4) (g := (enc (mX i))) 1 rfl (by omega) (by decide) (ws' := [(b 0, .inr (7, [.ref (b 1), .ref (b 2), .ref (b 3), vI 0, vI 0, .ref (b 4), vI 0, vI 0, .ref (b 5), vI 0, vI 0])), (b 1, .inl (Z 0, 853, .inl (ar 853 (un (enc (mX i)) (15 + i) 4)))), (b 2, .inl (Z 0, 3412, .inl (ar 3412 (fun _ => 0)))), (b 3, .inl (Z 0, 853, .inl (ar 853 (fun _ => 0)))), (b 4, .inl (Z 0, 100, .inl (ar 100 (fun _ => 0)))), (b 5, .inl (Z 0, 128, .inl (ar 128 (fun _ => 0))))]) rfl dX8_init_65 (fun H locs w => ?_)
        have w := w.as (ws' := mdM Z b (((mX i).1.1, un (mX i).1.2.1 i 4, (mX i).1.2.2), (mX i).2) (fun _ => 0) (fun _ => 0) 0 0 0 0 0 0 (fun _ => 0) (fun _ => 0)) (mdM_e (un_r (by omega)))
        refine lv_aload_n S.1 S.2.1 dX8_init_66 rfl (lv_at hl 0 rfl) ?_
        refine lv_iload_n S.1 S.2.1 dX8_init_67 rfl (lv_at hl 1 rfl) ?_
        refine nv_cVv (rest := []) (ws' := mdM Z b (emS (((mX i).1.1, un (mX i).1.2.1 i 4, (mX i).1.2.2), (mX i).2) i 32) (fun _ => 0) (fun _ => 0) 0 0 0 0 0 0 (fun _ => 0) (fun _ => 0)) S w hl.1 (c_X8_empties l D Z b (((mX i).1.1, un (mX i).1.2.1 i 4, (mX i).1.2.2), (mX i).2) (fun _ => 0) (fun _ => 0) 0 0 0 0 0 0 (fun _ => 0) (fun _ => 0) i (by omega)) [0, 1, 2, 3, 4, 5] rfl rfl rfl rfl gX8_init_X8_empties rfl hdV_X8_empties ⟨Nat.le_of_ble_eq_true rfl, Nat.le_of_ble_eq_true rfl⟩ (q0 := 0) rfl rfl rfl rfl (Nat.le_of_ble_eq_true rfl) ⟨Nat.le_of_ble_eq_true rfl, Nat.le_of_ble_eq_true rfl⟩ dX8_init_68 (fun H locs w => ?_)
        have w := w.as (ws' := mdM Z b (mX (i + 1)) (fun _ => 0) (fun _ => 0) 0 0 0 0 0 0 (fun _ => 0) (fun _ => 0)) (by rw [← mX_s])
        refine lv_iinc (v := nI (i + 1)) (lv' := [(1, vI (i + 1)), (0, .ref (b 0))]) S.1 S.2.1 dX8_init_71 hl (k := 1) rfl (nI_incI i 1) (by decide) rfl (fun ls hl => ?_)
        refine lv_goto (tgt := 50) S.1 S.2.1 dX8_init_74 (by decide) ?_
        exact ih b (i + 1) (by omega) hbq (by omega) _ _ _ (lv_sub hl [1, 0] rfl) (w.as rfl)
set_option maxRecDepth 100000 in
set_option maxHeartbeats 4000000 in
theorem c_X8_init (l : Launch) (D : va_G) (Z : Nat → ClassId) (q : Nat) : Ck l yX8_init wsX8_init 2 45 5 5346 D Z [.ref q] ([(q, .inr (7, [.null, .null, .null, vI 0, vI 0, .null, vI 0, vI 0, .null, vI 0, vI 0]))]) (fun (a9 : Nat → Nat) => mdM Z (adK q a9) MX0 (fun _ => 0) (fun _ => 0) 0 0 0 0 0 0 (fun _ => 0) (fun _ => 0)) := by
  refine ne_k (cc := cX8_init) (maxL := 2) (by decide +kernel) rfl (Nat.le_of_ble_eq_true rfl) rfl (fun p e s m args below meth c A ls (S : CallFix p m c cX8_init 2 s args wsX8_init RX8) hr hlocks hname hao hl w => ?_)
  have hl : lv_has ls 2 [(0, .ref q)] := hl
  refine lv_aload_n S.1 S.2.1 dX8_init_0 rfl (lv_at hl 0 rfl) ?_
  refine nv_obj S hl.1 (List.mem_of_getElem? (i := 1) rfl) (List.mem_of_getElem? (i := 2) rfl) (List.mem_of_getElem? (i := 3) rfl) dX8_init_1 (Nat.le_of_ble_eq_true rfl) (Nat.le_of_ble_eq_true rfl) ?_
  refine lv_aload_n S.1 S.2.1 dX8_init_4 rfl (lv_at hl 0 rfl) ?_
  refine lv_sipush (v := nI 853) S.1 S.2.1 dX8_init_5 (by decide +kernel) ?_
  refine nv_newi S w (n := 853) (List.mem_of_getElem? (i := 4) rfl) (by decide) (Nat.le_of_ble_eq_true rfl) (Nat.le_of_ble_eq_true rfl) dX8_init_8 (fun q1 H w => ?_)
  refine nv_putR S w hname (C := RX8) (T := TX8) (N := 11) hn_X8_init_8 tyX8_ok nmX8 0 rfl rfl 0 (by decide) (List.mem_of_getElem? (i := 5) rfl) rfl rfl rfl rfl (Nat.le_of_ble_eq_true rfl) (ws' := [(q, .inr (7, [.ref q1, .null, .null, vI 0, vI 0, .null, vI 0, vI 0, .null, vI 0, vI 0]))] ++ [(q1, .inl (Z 0, 853, .inl (ar 853 (fun _ => 0))))]) rfl dX8_init_10 (fun H locs w => ?_)
  refine lv_aload_n S.1 S.2.1 dX8_init_13 rfl (lv_at hl 0 rfl) ?_
  refine lv_sipush (v := nI 3412) S.1 S.2.1 dX8_init_14 (by decide +kernel) ?_
  refine nv_newi S w (n := 3412) (List.mem_of_getElem? (i := 4) rfl) (by decide) (Nat.le_of_ble_eq_true rfl) (Nat.le_of_ble_eq_true rfl) dX8_init_17 (fun q2 H w => ?_)
  refine nv_putR S w hname (C := RX8) (T := TX8) (N := 11) hn_X8_init_8 tyX8_ok nmX8 0 rfl rfl 1 (by decide) (List.mem_of_getElem? (i := 6) rfl) rfl rfl rfl rfl (Nat.le_of_ble_eq_true rfl) (ws' := [(q, .inr (7, [.ref q1, .ref q2, .null, vI 0, vI 0, .null, vI 0, vI 0, .null, vI 0, vI 0]))] ++ [(q1, .inl (Z 0, 853, .inl (ar 853 (fun _ => 0))))] ++ [(q2, .inl (Z 0, 3412, .inl (ar 3412 (fun _ => 0))))]) rfl dX8_init_19 (fun H locs w => ?_)
  refine lv_aload_n S.1 S.2.1 dX8_init_22 rfl (lv_at hl 0 rfl) ?_
  refine lv_sipush (v := nI 853) S.1 S.2.1 dX8_init_23 (by decide +kernel) ?_
  refine nv_newi S w (n := 853) (List.mem_of_getElem? (i := 4) rfl) (by decide) (Nat.le_of_ble_eq_true rfl) (Nat.le_of_ble_eq_true rfl) dX8_init_26 (fun q3 H w => ?_)
  refine nv_putR S w hname (C := RX8) (T := TX8) (N := 11) hn_X8_init_8 tyX8_ok nmX8 0 rfl rfl 2 (by decide) (List.mem_of_getElem? (i := 7) rfl) rfl rfl rfl rfl (Nat.le_of_ble_eq_true rfl) (ws' := [(q, .inr (7, [.ref q1, .ref q2, .ref q3, vI 0, vI 0, .null, vI 0, vI 0, .null, vI 0, vI 0]))] ++ [(q1, .inl (Z 0, 853, .inl (ar 853 (fun _ => 0))))] ++ [(q2, .inl (Z 0, 3412, .inl (ar 3412 (fun _ => 0))))] ++ [(q3, .inl (Z 0, 853, .inl (ar 853 (fun _ => 0))))]) rfl dX8_init_28 (fun H locs w => ?_)
  refine lv_aload_n S.1 S.2.1 dX8_init_31 rfl (lv_at hl 0 rfl) ?_
  refine lv_bipush (v := nI 100) S.1 S.2.1 dX8_init_32 (by decide +kernel) ?_
  refine nv_newi S w (n := 100) (List.mem_of_getElem? (i := 4) rfl) (by decide) (Nat.le_of_ble_eq_true rfl) (Nat.le_of_ble_eq_true rfl) dX8_init_34 (fun q4 H w => ?_)
  refine nv_putR S w hname (C := RX8) (T := TX8) (N := 11) hn_X8_init_8 tyX8_ok nmX8 0 rfl rfl 5 (by decide) (List.mem_of_getElem? (i := 8) rfl) rfl rfl rfl rfl (Nat.le_of_ble_eq_true rfl) (ws' := [(q, .inr (7, [.ref q1, .ref q2, .ref q3, vI 0, vI 0, .ref q4, vI 0, vI 0, .null, vI 0, vI 0]))] ++ [(q1, .inl (Z 0, 853, .inl (ar 853 (fun _ => 0))))] ++ [(q2, .inl (Z 0, 3412, .inl (ar 3412 (fun _ => 0))))] ++ [(q3, .inl (Z 0, 853, .inl (ar 853 (fun _ => 0))))] ++ [(q4, .inl (Z 0, 100, .inl (ar 100 (fun _ => 0))))]) rfl dX8_init_36 (fun H locs w => ?_)
  refine lv_aload_n S.1 S.2.1 dX8_init_39 rfl (lv_at hl 0 rfl) ?_
  refine lv_sipush (v := nI 128) S.1 S.2.1 dX8_init_40 (by decide +kernel) ?_
  refine nv_newi S w (n := 128) (List.mem_of_getElem? (i := 4) rfl) (by decide) (Nat.le_of_ble_eq_true rfl) (Nat.le_of_ble_eq_true rfl) dX8_init_43 (fun q5 H w => ?_)
  refine nv_putR S w hname (C := RX8) (T := TX8) (N := 11) hn_X8_init_8 tyX8_ok nmX8 0 rfl rfl 8 (by decide) (List.mem_of_getElem? (i := 9) rfl) rfl rfl rfl rfl (Nat.le_of_ble_eq_true rfl) (ws' := [(q, .inr (7, [.ref q1, .ref q2, .ref q3, vI 0, vI 0, .ref q4, vI 0, vI 0, .ref q5, vI 0, vI 0]))] ++ [(q1, .inl (Z 0, 853, .inl (ar 853 (fun _ => 0))))] ++ [(q2, .inl (Z 0, 3412, .inl (ar 3412 (fun _ => 0))))] ++ [(q3, .inl (Z 0, 853, .inl (ar 853 (fun _ => 0))))] ++ [(q4, .inl (Z 0, 100, .inl (ar 100 (fun _ => 0))))] ++ [(q5, .inl (Z 0, 128, .inl (ar 128 (fun _ => 0))))]) rfl dX8_init_45 (fun H locs w => ?_)
  refine lv_iconst (v := nI 0) S.1 S.2.1 dX8_init_48 (ofInt_nI 0) ?_
  refine lv_istore_n (lv' := [(1, vI 0), (0, .ref q)]) S.1 S.2.1 dX8_init_49 rfl hl (by decide) rfl (fun ls hl => ?_)
  exact k_X8_init l D Z q S hr hlocks hname hao _ (bK q q1 q2 q3 q4 q5) 0 (by omega) rfl (Nat.lt_succ_self _) _ _ _ (lv_sub hl [1, 0] rfl) (w.as (mdM_e (b := bK q q1 q2 q3 q4 q5) mX_0))
