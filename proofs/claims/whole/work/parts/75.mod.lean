theorem un_same {f : Nat → Nat} {k : Nat} : un f k (f k) = f := by
  funext j
  unfold un
  split
  · rename_i e; rw [e]
  · rfl
theorem un_un {f : Nat → Nat} {k x y : Nat} : un (un f k x) k y = un f k y := by
  funext j
  unfold un
  split <;> rfl
theorem un_swap {f : Nat → Nat} {k i x y : Nat} (h : k ≠ i) : un (un f k x) i y = un (un f i y) k x := by
  funext j
  unfold un
  by_cases h1 : j = i
  · rw [if_pos h1, if_neg (by omega), if_pos h1]
  · rw [if_neg h1]
    by_cases h2 : j = k
    · rw [if_pos h2, if_pos h2]
    · rw [if_neg h2, if_neg h2, if_neg h1]
theorem e1_z {V : Nat → Nat} {i x : Nat} (h : i ≠ 4) : un (un V i x) 4 (V 4 - 0) = un V i x := by
  rw [Nat.sub_zero, un_swap h, un_same]
theorem ent_ord {E : Nat → Nat} {k a x y : Nat} : un (un (un E 4 a) (5 + 2 * k) x) (6 + 2 * k) y = un (un (un E (5 + 2 * k) x) (6 + 2 * k) y) 4 a := by
  rw [un_swap (f := E) (show 4 ≠ 5 + 2 * k by omega), un_swap (show 4 ≠ 6 + 2 * k by omega)]

theorem hn_X8_calls_8 : ∀ w ∈ wsX80, w ∈ wsX8_calls := by decide +kernel
set_option maxRecDepth 100000 in
set_option maxHeartbeats 4000000 in
theorem c_X8_calls (l : Launch) (D : va_G) (Z : Nat → ClassId) (b : Nat → Nat) (X : ST) (sv sd : Nat → Nat) (sm th tl pl ro nu : Nat) (t r : Nat → Nat) (i : Nat) (hi : i + 3 < 853) (h1 : enc X (i + 2) < 2 ^ 31) (h2 : enc X (i + 3) < 2 ^ 31) : Ci l yX8_calls wsX8_calls 0 0 D Z [.ref (b 0), vI i] (mdM Z b X sv sd sm th tl pl ro nu t r) (nI (bP (enc X (i + 2) = 5 ∧ enc X (i + 3) < 6))) (mdM Z b X sv sd sm th tl pl ro nu t r) := by
  refine ne_i (cc := cX8_calls) (maxL := 2) (by decide +kernel) rfl (Nat.le_of_ble_eq_true rfl) (fun p e s m args below meth c A ls (S : CallFix p m c cX8_calls 2 s args wsX8_calls RX8) hr hlocks hl w => ?_)
  have hl : lv_has ls 2 [(0, .ref (b 0)), (1, vI i)] := hl
  refine lv_aload_n S.1 S.2.1 dX8_calls_0 rfl (lv_at hl 0 rfl) ?_
  refine nv_get S w (C := RX8) (T := TX8) (N := 11) hn_X8_calls_8 0 rfl rfl 0 (by decide) (List.mem_of_getElem? (i := 1) rfl) (v := .ref (b 1)) rfl dX8_calls_1 ?_
  refine lv_iload_n S.1 S.2.1 dX8_calls_4 rfl (lv_at hl 1 rfl) ?_
  refine lv_iconst (v := nI 2) S.1 S.2.1 dX8_calls_5 (ofInt_nI 2) ?_
  refine nv_iadd S dX8_calls_6 ?_
  refine nv_iald S w (i := (i + 2)) (g := (enc X)) 1 rfl (by omega) (by decide) dX8_calls_7 ?_
  refine lv_iconst (v := nI 5) S.1 S.2.1 dX8_calls_8 (ofInt_nI 5) ?_
  refine nv_icmp_ne S (by omega) (by omega) (tgt := 29) dX8_calls_9 (by decide) (fun h_1 => ?_) (fun h_1 => ?_)
  · skip
    refine lv_iconst (v := nI 0) S.1 S.2.1 dX8_calls_29 (ofInt_nI 0) ?_
    exact nv_iret S w hr hlocks (nI_bool (by decide)) (by rw [bP_f (by omega)]) rfl dX8_calls_30
  · skip
    refine lv_aload_n S.1 S.2.1 dX8_calls_12 rfl (lv_at hl 0 rfl) ?_
    refine nv_get S w (C := RX8) (T := TX8) (N := 11) hn_X8_calls_8 0 rfl rfl 0 (by decide) (List.mem_of_getElem? (i := 1) rfl) (v := .ref (b 1)) rfl dX8_calls_13 ?_
    refine lv_iload_n S.1 S.2.1 dX8_calls_16 rfl (lv_at hl 1 rfl) ?_
    refine lv_iconst (v := nI 3) S.1 S.2.1 dX8_calls_17 (ofInt_nI 3) ?_
    refine nv_iadd S dX8_calls_18 ?_
    refine nv_iald S w (i := (i + 3)) (g := (enc X)) 1 rfl (by omega) (by decide) dX8_calls_19 ?_
    refine lv_bipush (v := nI 6) S.1 S.2.1 dX8_calls_20 (by decide +kernel) ?_
    refine nv_icmp_ge S (by omega) (by omega) (tgt := 29) dX8_calls_22 (by decide) (fun h_2 => ?_) (fun h_2 => ?_)
    · skip
      refine lv_iconst (v := nI 0) S.1 S.2.1 dX8_calls_29 (ofInt_nI 0) ?_
      exact nv_iret S w hr hlocks (nI_bool (by decide)) (by rw [bP_f (by omega)]) rfl dX8_calls_30
    · skip
      refine lv_iconst (v := nI 1) S.1 S.2.1 dX8_calls_25 (ofInt_nI 1) ?_
      refine lv_goto (tgt := 30) S.1 S.2.1 dX8_calls_26 (by decide) ?_
      exact nv_iret S w hr hlocks (nI_bool (by decide)) (by rw [bP_t (by omega)]) rfl dX8_calls_30

theorem hdV_X8_calls : yX8_calls.cls = RX8 ∧ yX8_calls.cls ≠ "java/lang/invoke/MethodHandle" ∧ yX8_calls.cls ≠ "java/lang/invoke/VarHandle" ∧ (parseMethodDescriptor yX8_calls.desc).map (fun d => d.parameters.length) = some 1 := by decide +kernel
theorem hn_X8_endsRow_8 : ∀ w ∈ wsX80, w ∈ wsX8_endsRow := by decide +kernel
set_option maxRecDepth 100000 in
set_option maxHeartbeats 4000000 in
theorem k_X8_endsRow_70 (l : Launch) (D : va_G) (Z : Nat → ClassId) (b : Nat → Nat) (X : ST) (sv sd : Nat → Nat) (sm th tl pl ro nu : Nat) (t r : Nat → Nat) (d : Nat) (hd : d < 4) (hv : VB (X.2.2 d)) (hf : FR (X.2.2 d)) (hs : SB X.1) {p : Program} {e : Env} {s : State} {m : MethodId} {args : Array Value} {below : List Frame} {meth : Method} {c : Code} {A : Nat → Prop} (S : CallFix p m c cX8_endsRow 3 s args wsX8_endsRow RX8) (hr : meth.sig.returnType = none) (hlocks : meth.locks = false)   : ∀ (H : Heap) (locs : List Loc) (ls : Array Slot) (hl : lv_has ls 3 [(0, .ref (b 0)), (1, vI d)]) (w : Wd D Z A s (mdM Z b (vX X d (end1V X.1.2.1 (X.2.2 d))) sv sd sm th tl pl ro nu t r) H locs), W p l e (rmO 3 64) s m args below meth c H locs 0 0 (Qv below D Z A args s (mdM Z b (vX X d (endV X.1.2.1 (X.2.2 d))) sv sd sm th tl pl ro nu t r)) (F0 m 70 ls []) := by
  intro H locs ls hl w
  have h2 := hv
  unfold VB at h2
  have hE := VB_end1V (rw' := X.1.2.1) hv hf.top
  have hE4 := hE.f3
  refine lv_aload_n S.1 S.2.1 dX8_endsRow_70 rfl (lv_at hl 0 rfl) ?_
  refine lv_iload_n S.1 S.2.1 dX8_endsRow_71 rfl (lv_at hl 1 rfl) ?_
  refine lv_bipush (v := nI 12) S.1 S.2.1 dX8_endsRow_72 (by decide +kernel) ?_
  refine nv_pSi (rest := [.ref (b 0)]) S w hl.1 (c_X8_at l D Z d 12 ) gX8_endsRow_X8_at rfl hdS_X8_at ⟨Nat.le_of_ble_eq_true rfl, Nat.le_of_ble_eq_true rfl⟩ rfl rfl (Nat.le_of_ble_eq_true rfl) ⟨Nat.zero_le _, Nat.zero_le _⟩ dX8_endsRow_74 (fun H locs w => ?_)
  refine nv_rVi (rest := []) S w hl.1 (c_X8_calls l D Z b (vX X d (end1V X.1.2.1 (X.2.2 d))) sv sd sm th tl pl ro nu t r (21 + 16 * d + 12) (by omega) (by rw [show 21 + 16 * d + 12 + 2 = 21 + 16 * d + 14 by omega, enc_v hd (by decide), vX_v, end1V_fr _ _ (by omega) _ (by decide)]; omega) (by rw [show 21 + 16 * d + 12 + 3 = 21 + 16 * d + 15 by omega, enc_v hd (by decide), vX_v, end1V_fr _ _ (by omega) _ (by decide)]; omega)) [0, 1, 2, 3, 4, 5] rfl rfl gX8_endsRow_X8_calls rfl hdV_X8_calls ⟨Nat.le_of_ble_eq_true rfl, Nat.le_of_ble_eq_true rfl⟩ (q0 := 0) rfl rfl rfl rfl (Nat.le_of_ble_eq_true rfl) ⟨Nat.zero_le _, Nat.zero_le _⟩ dX8_endsRow_77 (fun H locs w => ?_)
  refine W.eq (g2 := F0 m 80 ls [vI (bP (X.2.2 d 14 = 5 ∧ X.2.2 d 15 < 6))]) (by rw [show 21 + 16 * d + 12 + 2 = 21 + 16 * d + 14 by omega, show 21 + 16 * d + 12 + 3 = 21 + 16 * d + 15 by omega, enc_v hd (by decide), enc_v hd (by decide), vX_v, end1V_fr _ _ (by omega) _ (by decide), end1V_fr _ _ (by omega) _ (by decide)]) ?_
  refine nv_if_eqB S (tgt := 137) dX8_endsRow_80 (by decide) (fun h_1 => ?_) (fun h_1 => ?_)
  · skip
    exact nv_vret S w hr hlocks (by unfold endV; rw [if_neg h_1]) dX8_endsRow_137
  · skip
    refine lv_aload_n S.1 S.2.1 dX8_endsRow_83 rfl (lv_at hl 0 rfl) ?_
    refine lv_iload_n S.1 S.2.1 dX8_endsRow_84 rfl (lv_at hl 1 rfl) ?_
    refine lv_iconst (v := nI 4) S.1 S.2.1 dX8_endsRow_85 (ofInt_nI 4) ?_
    refine nv_rVi (rest := []) S w hl.1 (c_X8_of l D Z b (vX X d (end1V X.1.2.1 (X.2.2 d))) sv sd sm th tl pl ro nu t r d 4 (by omega) (by omega)) [0, 1, 2, 3, 4, 5] rfl rfl gX8_endsRow_X8_of rfl hdV_X8_of ⟨Nat.le_of_ble_eq_true rfl, Nat.le_of_ble_eq_true rfl⟩ (q0 := 0) rfl rfl rfl rfl (Nat.le_of_ble_eq_true rfl) ⟨Nat.zero_le _, Nat.zero_le _⟩ dX8_endsRow_86 (fun H locs w => ?_)
    refine W.eq (g2 := F0 m 89 ls [vI ((end1V X.1.2.1 (X.2.2 d)) 4)]) (by rw [vX_v]) ?_
    refine lv_iconst (v := nI 3) S.1 S.2.1 dX8_endsRow_89 (ofInt_nI 3) ?_
    refine nv_icmp_ge S (by omega) (by omega) (tgt := 137) dX8_endsRow_90 (by decide) (fun h_2 => ?_) (fun h_2 => ?_)
    · skip
      exact nv_vret S w hr hlocks (by unfold endV; rw [if_pos (by omega)]; unfold entV; rw [if_neg (by omega)]) dX8_endsRow_137
    · skip
      refine lv_aload_n S.1 S.2.1 dX8_endsRow_93 rfl (lv_at hl 0 rfl) ?_
      refine nv_get S w (C := RX8) (T := TX8) (N := 11) hn_X8_endsRow_8 0 rfl rfl 0 (by decide) (List.mem_of_getElem? (i := 1) rfl) (v := .ref (b 1)) rfl dX8_endsRow_94 ?_
      refine lv_iload_n S.1 S.2.1 dX8_endsRow_97 rfl (lv_at hl 1 rfl) ?_
      refine lv_iconst (v := nI 4) S.1 S.2.1 dX8_endsRow_98 (ofInt_nI 4) ?_
      refine nv_pSi (rest := [.ref (b 1)]) S w hl.1 (c_X8_at l D Z d 4 ) gX8_endsRow_X8_at rfl hdS_X8_at ⟨Nat.le_of_ble_eq_true rfl, Nat.le_of_ble_eq_true rfl⟩ rfl rfl (Nat.le_of_ble_eq_true rfl) ⟨Nat.zero_le _, Nat.zero_le _⟩ dX8_endsRow_99 (fun H locs w => ?_)
      refine lv_dup2_11 S.1 S.2.1 dX8_endsRow_102 rfl rfl ?_
      refine nv_iald S w (i := (21 + 16 * d + 4)) (g := (enc (vX X d (end1V X.1.2.1 (X.2.2 d))))) 1 rfl (by omega) (by decide) dX8_endsRow_103 ?_
      refine W.eq (g2 := F0 m 104 ls [vI ((end1V X.1.2.1 (X.2.2 d)) 4), vI (21 + 16 * d + 4), .ref (b 1)]) (by rw [enc_v hd (by decide), vX_v]) ?_
      refine lv_iconst (v := nI 1) S.1 S.2.1 dX8_endsRow_104 (ofInt_nI 1) ?_
      refine nv_iadd S dX8_endsRow_105 ?_
      refine nv_iast S w (i := (21 + 16 * d + 4)) (x := (((end1V X.1.2.1 (X.2.2 d)) 4) + 1)) (g := (enc (vX X d (end1V X.1.2.1 (X.2.2 d))))) 1 rfl (by omega) (by decide) (ws' := [(b 0, .inr (7, [.ref (b 1), .ref (b 2), .ref (b 3), vI sm, vI th, .ref (b 4), vI tl, vI pl, .ref (b 5), vI ro, vI nu])), (b 1, .inl (Z 0, 853, .inl (ar 853 (un (enc (vX X d (end1V X.1.2.1 (X.2.2 d)))) (21 + 16 * d + 4) (((end1V X.1.2.1 (X.2.2 d)) 4) + 1))))), (b 2, .inl (Z 0, 3412, .inl (ar 3412 sv))), (b 3, .inl (Z 0, 853, .inl (ar 853 sd))), (b 4, .inl (Z 0, 100, .inl (ar 100 t))), (b 5, .inl (Z 0, 128, .inl (ar 128 r)))]) rfl dX8_endsRow_106 (fun H locs w => ?_)
      have w := w.as (ws' := mdM Z b (vX X d (un (end1V X.1.2.1 (X.2.2 d)) 4 ((end1V X.1.2.1 (X.2.2 d)) 4 + 1))) sv sd sm th tl pl ro nu t r) (mdM_e (by rw [un_v hd (by decide), vX_vX, vX_v]))
      refine lv_aload_n S.1 S.2.1 dX8_endsRow_107 rfl (lv_at hl 0 rfl) ?_
      refine nv_get S w (C := RX8) (T := TX8) (N := 11) hn_X8_endsRow_8 0 rfl rfl 0 (by decide) (List.mem_of_getElem? (i := 1) rfl) (v := .ref (b 1)) rfl dX8_endsRow_108 ?_
      refine lv_aload_n S.1 S.2.1 dX8_endsRow_111 rfl (lv_at hl 0 rfl) ?_
      refine lv_iload_n S.1 S.2.1 dX8_endsRow_112 rfl (lv_at hl 1 rfl) ?_
      refine nv_rVi (rest := [.ref (b 1)]) S w hl.1 (c_X8_latest l D Z b (vX X d (un (end1V X.1.2.1 (X.2.2 d)) 4 ((end1V X.1.2.1 (X.2.2 d)) 4 + 1))) sv sd sm th tl pl ro nu t r d (by omega) (by rw [vX_v, un_eq]; omega)) [0, 1, 2, 3, 4, 5] rfl rfl gX8_endsRow_X8_latest rfl hdV_X8_latest ⟨Nat.le_of_ble_eq_true rfl, Nat.le_of_ble_eq_true rfl⟩ (q0 := 0) rfl rfl rfl rfl (Nat.le_of_ble_eq_true rfl) ⟨Nat.zero_le _, Nat.zero_le _⟩ dX8_endsRow_113 (fun H locs w => ?_)
      refine W.eq (g2 := F0 m 116 ls [vI (21 + 16 * d + (5 + 2 * (end1V X.1.2.1 (X.2.2 d)) 4)), .ref (b 1)]) (by rw [vX_v, un_eq, Nat.add_sub_cancel]) ?_
      refine lv_aload_n S.1 S.2.1 dX8_endsRow_116 rfl (lv_at hl 0 rfl) ?_
      refine lv_iload_n S.1 S.2.1 dX8_endsRow_117 rfl (lv_at hl 1 rfl) ?_
      refine lv_bipush (v := nI 15) S.1 S.2.1 dX8_endsRow_118 (by decide +kernel) ?_
      refine nv_rVi (rest := [vI (21 + 16 * d + (5 + 2 * (end1V X.1.2.1 (X.2.2 d)) 4)), .ref (b 1)]) S w hl.1 (c_X8_of l D Z b (vX X d (un (end1V X.1.2.1 (X.2.2 d)) 4 ((end1V X.1.2.1 (X.2.2 d)) 4 + 1))) sv sd sm th tl pl ro nu t r d 15 (by omega) (by omega)) [0, 1, 2, 3, 4, 5] rfl rfl gX8_endsRow_X8_of rfl hdV_X8_of ⟨Nat.le_of_ble_eq_true rfl, Nat.le_of_ble_eq_true rfl⟩ (q0 := 0) rfl rfl rfl rfl (Nat.le_of_ble_eq_true rfl) ⟨Nat.zero_le _, Nat.zero_le _⟩ dX8_endsRow_120 (fun H locs w => ?_)
      refine W.eq (g2 := F0 m 123 ls [vI (X.2.2 d 15), vI (21 + 16 * d + (5 + 2 * (end1V X.1.2.1 (X.2.2 d)) 4)), .ref (b 1)]) (by rw [vX_v, un_ne (by decide), end1V_fr _ _ (by omega) _ (by decide)]) ?_
      refine nv_iast S w (i := (21 + 16 * d + (5 + 2 * (end1V X.1.2.1 (X.2.2 d)) 4))) (x := (X.2.2 d 15)) (g := (enc (vX X d (un (end1V X.1.2.1 (X.2.2 d)) 4 ((end1V X.1.2.1 (X.2.2 d)) 4 + 1))))) 1 rfl (by omega) (by decide) (ws' := [(b 0, .inr (7, [.ref (b 1), .ref (b 2), .ref (b 3), vI sm, vI th, .ref (b 4), vI tl, vI pl, .ref (b 5), vI ro, vI nu])), (b 1, .inl (Z 0, 853, .inl (ar 853 (un (enc (vX X d (un (end1V X.1.2.1 (X.2.2 d)) 4 ((end1V X.1.2.1 (X.2.2 d)) 4 + 1)))) (21 + 16 * d + (5 + 2 * (end1V X.1.2.1 (X.2.2 d)) 4)) (X.2.2 d 15))))), (b 2, .inl (Z 0, 3412, .inl (ar 3412 sv))), (b 3, .inl (Z 0, 853, .inl (ar 853 sd))), (b 4, .inl (Z 0, 100, .inl (ar 100 t))), (b 5, .inl (Z 0, 128, .inl (ar 128 r)))]) rfl dX8_endsRow_123 (fun H locs w => ?_)
      have w := w.as (ws' := mdM Z b (vX X d (un (un (end1V X.1.2.1 (X.2.2 d)) 4 ((end1V X.1.2.1 (X.2.2 d)) 4 + 1)) (5 + 2 * (end1V X.1.2.1 (X.2.2 d)) 4) (X.2.2 d 15))) sv sd sm th tl pl ro nu t r) (mdM_e (by rw [un_v hd (by omega), vX_vX, vX_v]))
      refine lv_aload_n S.1 S.2.1 dX8_endsRow_124 rfl (lv_at hl 0 rfl) ?_
      refine nv_get S w (C := RX8) (T := TX8) (N := 11) hn_X8_endsRow_8 0 rfl rfl 0 (by decide) (List.mem_of_getElem? (i := 1) rfl) (v := .ref (b 1)) rfl dX8_endsRow_125 ?_
      refine lv_aload_n S.1 S.2.1 dX8_endsRow_128 rfl (lv_at hl 0 rfl) ?_
      refine lv_iload_n S.1 S.2.1 dX8_endsRow_129 rfl (lv_at hl 1 rfl) ?_
      refine nv_rVi (rest := [.ref (b 1)]) S w hl.1 (c_X8_latest l D Z b (vX X d (un (un (end1V X.1.2.1 (X.2.2 d)) 4 ((end1V X.1.2.1 (X.2.2 d)) 4 + 1)) (5 + 2 * (end1V X.1.2.1 (X.2.2 d)) 4) (X.2.2 d 15))) sv sd sm th tl pl ro nu t r d (by omega) (by rw [vX_v, un_ne (by omega), un_eq]; omega)) [0, 1, 2, 3, 4, 5] rfl rfl gX8_endsRow_X8_latest rfl hdV_X8_latest ⟨Nat.le_of_ble_eq_true rfl, Nat.le_of_ble_eq_true rfl⟩ (q0 := 0) rfl rfl rfl rfl (Nat.le_of_ble_eq_true rfl) ⟨Nat.zero_le _, Nat.zero_le _⟩ dX8_endsRow_130 (fun H locs w => ?_)
      refine W.eq (g2 := F0 m 133 ls [vI (21 + 16 * d + (5 + 2 * (end1V X.1.2.1 (X.2.2 d)) 4)), .ref (b 1)]) (by rw [vX_v, un_ne (show 4 ≠ 5 + 2 * (end1V X.1.2.1 (X.2.2 d)) 4 by omega), un_eq, Nat.add_sub_cancel]) ?_
      refine lv_iconst (v := nI 1) S.1 S.2.1 dX8_endsRow_133 (ofInt_nI 1) ?_
      refine nv_iadd S dX8_endsRow_134 ?_
      refine lv_iconst (v := nI 0) S.1 S.2.1 dX8_endsRow_135 (ofInt_nI 0) ?_
      refine nv_iast S w (i := ((21 + 16 * d + (5 + 2 * (end1V X.1.2.1 (X.2.2 d)) 4)) + 1)) (x := 0) (g := (enc (vX X d (un (un (end1V X.1.2.1 (X.2.2 d)) 4 ((end1V X.1.2.1 (X.2.2 d)) 4 + 1)) (5 + 2 * (end1V X.1.2.1 (X.2.2 d)) 4) (X.2.2 d 15))))) 1 rfl (by omega) (by decide) (ws' := [(b 0, .inr (7, [.ref (b 1), .ref (b 2), .ref (b 3), vI sm, vI th, .ref (b 4), vI tl, vI pl, .ref (b 5), vI ro, vI nu])), (b 1, .inl (Z 0, 853, .inl (ar 853 (un (enc (vX X d (un (un (end1V X.1.2.1 (X.2.2 d)) 4 ((end1V X.1.2.1 (X.2.2 d)) 4 + 1)) (5 + 2 * (end1V X.1.2.1 (X.2.2 d)) 4) (X.2.2 d 15)))) ((21 + 16 * d + (5 + 2 * (end1V X.1.2.1 (X.2.2 d)) 4)) + 1) 0)))), (b 2, .inl (Z 0, 3412, .inl (ar 3412 sv))), (b 3, .inl (Z 0, 853, .inl (ar 853 sd))), (b 4, .inl (Z 0, 100, .inl (ar 100 t))), (b 5, .inl (Z 0, 128, .inl (ar 128 r)))]) rfl dX8_endsRow_136 (fun H locs w => ?_)
      have w := w.as (ws' := mdM Z b (vX X d (un (un (un (end1V X.1.2.1 (X.2.2 d)) 4 ((end1V X.1.2.1 (X.2.2 d)) 4 + 1)) (5 + 2 * (end1V X.1.2.1 (X.2.2 d)) 4) (X.2.2 d 15)) (6 + 2 * (end1V X.1.2.1 (X.2.2 d)) 4) 0)) sv sd sm th tl pl ro nu t r) (mdM_e (by rw [show 21 + 16 * d + (5 + 2 * (end1V X.1.2.1 (X.2.2 d)) 4) + 1 = 21 + 16 * d + (6 + 2 * (end1V X.1.2.1 (X.2.2 d)) 4) by omega, un_v hd (by omega), vX_vX, vX_v]))
      exact nv_vret S w hr hlocks (by unfold endV; rw [if_pos (by omega)]; unfold entV; rw [if_pos (by omega), ent_ord]) dX8_endsRow_137
set_option maxRecDepth 100000 in
set_option maxHeartbeats 4000000 in
theorem c_X8_endsRow (l : Launch) (D : va_G) (Z : Nat → ClassId) (b : Nat → Nat) (X : ST) (sv sd : Nat → Nat) (sm th tl pl ro nu : Nat) (t r : Nat → Nat) (d : Nat) (hd : d < 4) (hv : VB (X.2.2 d)) (hf : FR (X.2.2 d)) (hs : SB X.1) : Cv l yX8_endsRow wsX8_endsRow 3 64 D Z [.ref (b 0), vI d] (mdM Z b X sv sd sm th tl pl ro nu t r)  (mdM Z b (vX X d (endV X.1.2.1 (X.2.2 d))) sv sd sm th tl pl ro nu t r) := by
  refine ne_v (cc := cX8_endsRow) (maxL := 3) (by decide +kernel) rfl (Nat.le_of_ble_eq_true rfl) (fun p e s m args below meth c A ls (S : CallFix p m c cX8_endsRow 3 s args wsX8_endsRow RX8) hr hlocks hl w => ?_)
  have h2 := hv
  unfold VB at h2
  have hE := VB_end1V (rw' := X.1.2.1) hv hf.top
  have hE4 := hE.f3
  have hl : lv_has ls 3 [(0, .ref (b 0)), (1, vI d)] := hl
  refine lv_aload_n S.1 S.2.1 dX8_endsRow_0 rfl (lv_at hl 0 rfl) ?_
  refine lv_iload_n S.1 S.2.1 dX8_endsRow_1 rfl (lv_at hl 1 rfl) ?_
  refine lv_iconst (v := nI 4) S.1 S.2.1 dX8_endsRow_2 (ofInt_nI 4) ?_
  refine nv_rVi (rest := []) S w hl.1 (c_X8_of l D Z b X sv sd sm th tl pl ro nu t r d 4 (by omega) (by omega)) [0, 1, 2, 3, 4, 5] rfl rfl gX8_endsRow_X8_of rfl hdV_X8_of ⟨Nat.le_of_ble_eq_true rfl, Nat.le_of_ble_eq_true rfl⟩ (q0 := 0) rfl rfl rfl rfl (Nat.le_of_ble_eq_true rfl) ⟨Nat.zero_le _, Nat.zero_le _⟩ dX8_endsRow_3 (fun H locs w => ?_)
  refine nv_if_le S (by omega) (tgt := 70) dX8_endsRow_6 (by decide) (fun h_3 => ?_) (fun h_3 => ?_)
  · skip
    exact k_X8_endsRow_70 l D Z b X sv sd sm th tl pl ro nu t r d hd hv hf hs S hr hlocks   _ _ _ (lv_sub hl [0, 1] rfl) (w.as (by rw [show (end1V X.1.2.1 (X.2.2 d)) = X.2.2 d from by unfold end1V; rw [if_pos (by omega)], vX_self]))
  · skip
    have hfp := VB_fp hv (by omega)
    have htp := hf.top (by omega)
    have hrw := hs.2.1 _ (show X.2.2 d (5 + 2 * (X.2.2 d 4 - 1)) < 6 by omega)
    refine lv_aload_n S.1 S.2.1 dX8_endsRow_9 rfl (lv_at hl 0 rfl) ?_
    refine lv_iload_n S.1 S.2.1 dX8_endsRow_10 rfl (lv_at hl 1 rfl) ?_
    refine nv_rVi (rest := []) S w hl.1 (c_X8_latest l D Z b X sv sd sm th tl pl ro nu t r d (by omega) (by omega)) [0, 1, 2, 3, 4, 5] rfl rfl gX8_endsRow_X8_latest rfl hdV_X8_latest ⟨Nat.le_of_ble_eq_true rfl, Nat.le_of_ble_eq_true rfl⟩ (q0 := 0) rfl rfl rfl rfl (Nat.le_of_ble_eq_true rfl) ⟨Nat.zero_le _, Nat.zero_le _⟩ dX8_endsRow_11 (fun H locs w => ?_)
    refine lv_istore_n (lv' := [(2, vI (21 + 16 * d + (5 + 2 * (X.2.2 d 4 - 1)))), (0, .ref (b 0)), (1, vI d)]) S.1 S.2.1 dX8_endsRow_14 rfl hl (by decide) rfl (fun ls hl => ?_)
    refine lv_aload_n S.1 S.2.1 dX8_endsRow_15 rfl (lv_at hl 1 rfl) ?_
    refine nv_get S w (C := RX8) (T := TX8) (N := 11) hn_X8_endsRow_8 0 rfl rfl 0 (by decide) (List.mem_of_getElem? (i := 1) rfl) (v := .ref (b 1)) rfl dX8_endsRow_16 ?_
    refine lv_iload_n S.1 S.2.1 dX8_endsRow_19 rfl (lv_at hl 0 rfl) ?_
    refine lv_iconst (v := nI 1) S.1 S.2.1 dX8_endsRow_20 (ofInt_nI 1) ?_
    refine nv_iadd S dX8_endsRow_21 ?_
    refine lv_dup2_11 S.1 S.2.1 dX8_endsRow_22 rfl rfl ?_
    refine nv_iald S w (i := ((21 + 16 * d + (5 + 2 * (X.2.2 d 4 - 1))) + 1)) (g := (enc X)) 1 rfl (by omega) (by decide) dX8_endsRow_23 ?_
    refine W.eq (g2 := F0 m 24 ls [vI (X.2.2 d (6 + 2 * (X.2.2 d 4 - 1))), vI ((21 + 16 * d + (5 + 2 * (X.2.2 d 4 - 1))) + 1), .ref (b 1)]) (by rw [show 21 + 16 * d + (5 + 2 * (X.2.2 d 4 - 1)) + 1 = 21 + 16 * d + (6 + 2 * (X.2.2 d 4 - 1)) by omega, enc_v hd (by omega)]) ?_
    refine lv_iconst (v := nI 1) S.1 S.2.1 dX8_endsRow_24 (ofInt_nI 1) ?_
    refine nv_iadd S dX8_endsRow_25 ?_
    refine nv_iast S w (i := ((21 + 16 * d + (5 + 2 * (X.2.2 d 4 - 1))) + 1)) (x := ((X.2.2 d (6 + 2 * (X.2.2 d 4 - 1))) + 1)) (g := (enc X)) 1 rfl (by omega) (by decide) (ws' := [(b 0, .inr (7, [.ref (b 1), .ref (b 2), .ref (b 3), vI sm, vI th, .ref (b 4), vI tl, vI pl, .ref (b 5), vI ro, vI nu])), (b 1, .inl (Z 0, 853, .inl (ar 853 (un (enc X) ((21 + 16 * d + (5 + 2 * (X.2.2 d 4 - 1))) + 1) ((X.2.2 d (6 + 2 * (X.2.2 d 4 - 1))) + 1))))), (b 2, .inl (Z 0, 3412, .inl (ar 3412 sv))), (b 3, .inl (Z 0, 853, .inl (ar 853 sd))), (b 4, .inl (Z 0, 100, .inl (ar 100 t))), (b 5, .inl (Z 0, 128, .inl (ar 128 r)))]) rfl dX8_endsRow_26 (fun H locs w => ?_)
    have w := w.as (ws' := mdM Z b (vX X d (un (X.2.2 d) (6 + 2 * (X.2.2 d 4 - 1)) (X.2.2 d (6 + 2 * (X.2.2 d 4 - 1)) + 1))) sv sd sm th tl pl ro nu t r) (mdM_e (by rw [show 21 + 16 * d + (5 + 2 * (X.2.2 d 4 - 1)) + 1 = 21 + 16 * d + (6 + 2 * (X.2.2 d 4 - 1)) by omega, un_v hd (by omega)]))
    refine lv_aload_n S.1 S.2.1 dX8_endsRow_27 rfl (lv_at hl 1 rfl) ?_
    refine nv_get S w (C := RX8) (T := TX8) (N := 11) hn_X8_endsRow_8 0 rfl rfl 0 (by decide) (List.mem_of_getElem? (i := 1) rfl) (v := .ref (b 1)) rfl dX8_endsRow_28 ?_
    refine lv_iload_n S.1 S.2.1 dX8_endsRow_31 rfl (lv_at hl 2 rfl) ?_
    refine lv_iconst (v := nI 4) S.1 S.2.1 dX8_endsRow_32 (ofInt_nI 4) ?_
    refine nv_pSi (rest := [.ref (b 1)]) S w hl.1 (c_X8_at l D Z d 4 ) gX8_endsRow_X8_at rfl hdS_X8_at ⟨Nat.le_of_ble_eq_true rfl, Nat.le_of_ble_eq_true rfl⟩ rfl rfl (Nat.le_of_ble_eq_true rfl) ⟨Nat.zero_le _, Nat.zero_le _⟩ dX8_endsRow_33 (fun H locs w => ?_)
    refine lv_dup2_11 S.1 S.2.1 dX8_endsRow_36 rfl rfl ?_
    refine nv_iald S w (i := (21 + 16 * d + 4)) (g := (enc (vX X d (un (X.2.2 d) (6 + 2 * (X.2.2 d 4 - 1)) (X.2.2 d (6 + 2 * (X.2.2 d 4 - 1)) + 1))))) 1 rfl (by omega) (by decide) dX8_endsRow_37 ?_
    refine W.eq (g2 := F0 m 38 ls [vI (X.2.2 d 4), vI (21 + 16 * d + 4), .ref (b 1)]) (by rw [enc_v hd (by decide), vX_v, un_ne (by omega)]) ?_
    refine lv_aload_n S.1 S.2.1 dX8_endsRow_38 rfl (lv_at hl 1 rfl) ?_
    refine nv_get S w (C := RX8) (T := TX8) (N := 11) hn_X8_endsRow_8 0 rfl rfl 0 (by decide) (List.mem_of_getElem? (i := 1) rfl) (v := .ref (b 1)) rfl dX8_endsRow_39 ?_
    refine lv_iload_n S.1 S.2.1 dX8_endsRow_42 rfl (lv_at hl 0 rfl) ?_
    refine lv_iconst (v := nI 1) S.1 S.2.1 dX8_endsRow_43 (ofInt_nI 1) ?_
    refine nv_iadd S dX8_endsRow_44 ?_
    refine nv_iald S w (i := ((21 + 16 * d + (5 + 2 * (X.2.2 d 4 - 1))) + 1)) (g := (enc (vX X d (un (X.2.2 d) (6 + 2 * (X.2.2 d 4 - 1)) (X.2.2 d (6 + 2 * (X.2.2 d 4 - 1)) + 1))))) 1 rfl (by omega) (by decide) dX8_endsRow_45 ?_
    refine W.eq (g2 := F0 m 46 ls [vI (X.2.2 d (6 + 2 * (X.2.2 d 4 - 1)) + 1), vI (X.2.2 d 4), vI (21 + 16 * d + 4), .ref (b 1)]) (by rw [show 21 + 16 * d + (5 + 2 * (X.2.2 d 4 - 1)) + 1 = 21 + 16 * d + (6 + 2 * (X.2.2 d 4 - 1)) by omega, enc_v hd (by omega), vX_v, un_eq]) ?_
    refine lv_aload_n S.1 S.2.1 dX8_endsRow_46 rfl (lv_at hl 1 rfl) ?_
    refine nv_get S w (C := RX8) (T := TX8) (N := 11) hn_X8_endsRow_8 0 rfl rfl 0 (by decide) (List.mem_of_getElem? (i := 1) rfl) (v := .ref (b 1)) rfl dX8_endsRow_47 ?_
    refine lv_bipush (v := nI 15) S.1 S.2.1 dX8_endsRow_50 (by decide +kernel) ?_
    refine lv_aload_n S.1 S.2.1 dX8_endsRow_52 rfl (lv_at hl 1 rfl) ?_
    refine nv_get S w (C := RX8) (T := TX8) (N := 11) hn_X8_endsRow_8 0 rfl rfl 0 (by decide) (List.mem_of_getElem? (i := 1) rfl) (v := .ref (b 1)) rfl dX8_endsRow_53 ?_
    refine lv_iload_n S.1 S.2.1 dX8_endsRow_56 rfl (lv_at hl 0 rfl) ?_
    refine nv_iald S w (i := (21 + 16 * d + (5 + 2 * (X.2.2 d 4 - 1)))) (g := (enc (vX X d (un (X.2.2 d) (6 + 2 * (X.2.2 d 4 - 1)) (X.2.2 d (6 + 2 * (X.2.2 d 4 - 1)) + 1))))) 1 rfl (by omega) (by decide) dX8_endsRow_57 ?_
    refine W.eq (g2 := F0 m 58 ls [vI (X.2.2 d (5 + 2 * (X.2.2 d 4 - 1))), vI 15, .ref (b 1), vI (X.2.2 d (6 + 2 * (X.2.2 d 4 - 1)) + 1), vI (X.2.2 d 4), vI (21 + 16 * d + 4), .ref (b 1)]) (by rw [enc_v hd (by omega), vX_v, un_ne (by omega)]) ?_
    refine nv_iadd S dX8_endsRow_58 ?_
    refine nv_iald S w (i := (15 + (X.2.2 d (5 + 2 * (X.2.2 d 4 - 1))))) (g := (enc (vX X d (un (X.2.2 d) (6 + 2 * (X.2.2 d 4 - 1)) (X.2.2 d (6 + 2 * (X.2.2 d 4 - 1)) + 1))))) 1 rfl (by omega) (by decide) dX8_endsRow_59 ?_
    refine W.eq (g2 := F0 m 60 ls [vI (X.1.2.1 (X.2.2 d (5 + 2 * (X.2.2 d 4 - 1)))), vI (X.2.2 d (6 + 2 * (X.2.2 d 4 - 1)) + 1), vI (X.2.2 d 4), vI (21 + 16 * d + 4), .ref (b 1)]) (by rw [enc_r (by omega)]; rfl) ?_
    refine nv_icmp_lt S (by omega) (by omega) (tgt := 67) dX8_endsRow_60 (by decide) (fun h_4 => ?_) (fun h_4 => ?_)
    · skip
      refine lv_iconst (v := nI 0) S.1 S.2.1 dX8_endsRow_67 (ofInt_nI 0) ?_
      refine nv_isub S (by omega) dX8_endsRow_68 ?_
      refine nv_iast S w (i := (21 + 16 * d + 4)) (x := ((X.2.2 d 4) - 0)) (g := (enc (vX X d (un (X.2.2 d) (6 + 2 * (X.2.2 d 4 - 1)) (X.2.2 d (6 + 2 * (X.2.2 d 4 - 1)) + 1))))) 1 rfl (by omega) (by decide) (ws' := [(b 0, .inr (7, [.ref (b 1), .ref (b 2), .ref (b 3), vI sm, vI th, .ref (b 4), vI tl, vI pl, .ref (b 5), vI ro, vI nu])), (b 1, .inl (Z 0, 853, .inl (ar 853 (un (enc (vX X d (un (X.2.2 d) (6 + 2 * (X.2.2 d 4 - 1)) (X.2.2 d (6 + 2 * (X.2.2 d 4 - 1)) + 1)))) (21 + 16 * d + 4) ((X.2.2 d 4) - 0))))), (b 2, .inl (Z 0, 3412, .inl (ar 3412 sv))), (b 3, .inl (Z 0, 853, .inl (ar 853 sd))), (b 4, .inl (Z 0, 100, .inl (ar 100 t))), (b 5, .inl (Z 0, 128, .inl (ar 128 r)))]) rfl dX8_endsRow_69 (fun H locs w => ?_)
      exact k_X8_endsRow_70 l D Z b X sv sd sm th tl pl ro nu t r d hd hv hf hs S hr hlocks   _ _ _ (lv_sub hl [1, 2] rfl) (w.as (mdM_e (by rw [un_v hd (by decide), vX_vX, vX_v, show (end1V X.1.2.1 (X.2.2 d)) = un (X.2.2 d) (6 + 2 * (X.2.2 d 4 - 1)) (X.2.2 d (6 + 2 * (X.2.2 d 4 - 1)) + 1) from by unfold end1V; rw [if_neg (by omega), if_neg (by omega)], e1_z (by omega)])))
    · skip
      refine lv_iconst (v := nI 1) S.1 S.2.1 dX8_endsRow_63 (ofInt_nI 1) ?_
      refine lv_goto (tgt := 68) S.1 S.2.1 dX8_endsRow_64 (by decide) ?_
      refine nv_isub S (by omega) dX8_endsRow_68 ?_
      refine nv_iast S w (i := (21 + 16 * d + 4)) (x := ((X.2.2 d 4) - 1)) (g := (enc (vX X d (un (X.2.2 d) (6 + 2 * (X.2.2 d 4 - 1)) (X.2.2 d (6 + 2 * (X.2.2 d 4 - 1)) + 1))))) 1 rfl (by omega) (by decide) (ws' := [(b 0, .inr (7, [.ref (b 1), .ref (b 2), .ref (b 3), vI sm, vI th, .ref (b 4), vI tl, vI pl, .ref (b 5), vI ro, vI nu])), (b 1, .inl (Z 0, 853, .inl (ar 853 (un (enc (vX X d (un (X.2.2 d) (6 + 2 * (X.2.2 d 4 - 1)) (X.2.2 d (6 + 2 * (X.2.2 d 4 - 1)) + 1)))) (21 + 16 * d + 4) ((X.2.2 d 4) - 1))))), (b 2, .inl (Z 0, 3412, .inl (ar 3412 sv))), (b 3, .inl (Z 0, 853, .inl (ar 853 sd))), (b 4, .inl (Z 0, 100, .inl (ar 100 t))), (b 5, .inl (Z 0, 128, .inl (ar 128 r)))]) rfl dX8_endsRow_69 (fun H locs w => ?_)
      exact k_X8_endsRow_70 l D Z b X sv sd sm th tl pl ro nu t r d hd hv hf hs S hr hlocks   _ _ _ (lv_sub hl [1, 2] rfl) (w.as (mdM_e (by rw [un_v hd (by decide), vX_vX, vX_v, show (end1V X.1.2.1 (X.2.2 d)) = un (un (X.2.2 d) (6 + 2 * (X.2.2 d 4 - 1)) (X.2.2 d (6 + 2 * (X.2.2 d 4 - 1)) + 1)) 4 (X.2.2 d 4 - 1) from by unfold end1V; rw [if_neg (by omega), if_pos (by omega)]])))
