theorem hn_X8_begin_8 : ∀ w ∈ wsX80, w ∈ wsX8_begin := by decide +kernel
set_option maxRecDepth 100000 in
set_option maxHeartbeats 4000000 in
theorem c_X8_begin (l : Launch) (D : va_G) (Z : Nat → ClassId) (b : Nat → Nat) (X : ST) (sv sd : Nat → Nat) (sm th tl pl ro nu : Nat) (t r : Nat → Nat) (d : Nat) (hd : d < 4) (hv : VB (X.2.2 d)) : Cv l yX8_begin wsX8_begin 2 43 D Z [.ref (b 0), vI d] (mdM Z b X sv sd sm th tl pl ro nu t r)  (mdM Z b (vX X d (begV (X.2.2 d))) sv sd sm th tl pl ro nu t r) := by
  refine ne_v (cc := cX8_begin) (maxL := 3) (by decide +kernel) rfl (Nat.le_of_ble_eq_true rfl) (fun p e s m args below meth c A ls (S : CallFix p m c cX8_begin 3 s args wsX8_begin RX8) hr hlocks hl w => ?_)
  have h2 := hv
  unfold VB at h2
  have hl : lv_has ls 3 [(0, .ref (b 0)), (1, vI d)] := hl
  refine lv_aload_n S.1 S.2.1 dX8_begin_0 rfl (lv_at hl 0 rfl) ?_
  refine lv_iload_n S.1 S.2.1 dX8_begin_1 rfl (lv_at hl 1 rfl) ?_
  refine lv_bipush (v := nI 12) S.1 S.2.1 dX8_begin_2 (by decide +kernel) ?_
  refine nv_rVi (rest := []) S w hl.1 (c_X8_of l D Z b X sv sd sm th tl pl ro nu t r d 12 (by omega) (by omega)) [0, 1, 2, 3, 4, 5] rfl rfl gX8_begin_X8_of rfl hdV_X8_of ⟨Nat.le_of_ble_eq_true rfl, Nat.le_of_ble_eq_true rfl⟩ (q0 := 0) rfl rfl rfl rfl (Nat.le_of_ble_eq_true rfl) ⟨Nat.zero_le _, Nat.zero_le _⟩ dX8_begin_4 (fun H locs w => ?_)
  refine lv_istore_n (lv' := [(2, vI (X.2.2 d 12)), (0, .ref (b 0)), (1, vI d)]) S.1 S.2.1 dX8_begin_7 rfl hl (by decide) rfl (fun ls hl => ?_)
  refine lv_iload_n S.1 S.2.1 dX8_begin_8 rfl (lv_at hl 0 rfl) ?_
  refine lv_i2l (v := (nI (X.2.2 d 12)).toInt64) S.1 S.2.1 dX8_begin_9 rfl ?_
  refine lv_lconst (v := 1) S.1 S.2.1 dX8_begin_10 rfl ?_
  refine lv_ldc2 (v := 60) S.1 S.2.1 S.2.2.2.1 (S.2.2.2.2 _ (by decide +kernel)) dX8_begin_11 ?_
  refine nv_pSi (rest := []) S w hl.1 (c_X8_inN l D Z (X.2.2 d 12) 1 60 (by omega) (by omega) (by omega)) gX8_begin_X8_in rfl hdS_X8_in ⟨Nat.le_of_ble_eq_true rfl, Nat.le_of_ble_eq_true rfl⟩ rfl rfl (Nat.le_of_ble_eq_true rfl) ⟨Nat.zero_le _, Nat.zero_le _⟩ dX8_begin_14 (fun H locs w => ?_)
  refine nv_if_eqB S (tgt := 51) dX8_begin_17 (by decide) (fun h_1 => ?_) (fun h_1 => ?_)
  · skip
    refine lv_iload_n S.1 S.2.1 dX8_begin_51 rfl (lv_at hl 0 rfl) ?_
    refine lv_bipush (v := nI 61) S.1 S.2.1 dX8_begin_52 (by decide +kernel) ?_
    refine nv_icmp_ne S (by omega) (by omega) (tgt := 68) dX8_begin_54 (by decide) (fun h_2 => ?_) (fun h_2 => ?_)
    · skip
      exact nv_vret S w hr hlocks (by unfold begV; rw [if_neg (by omega), if_neg (by omega), vX_self]) dX8_begin_68
    · skip
      refine lv_aload_n S.1 S.2.1 dX8_begin_57 rfl (lv_at hl 1 rfl) ?_
      refine nv_get S w (C := RX8) (T := TX8) (N := 11) hn_X8_begin_8 0 rfl rfl 0 (by decide) (List.mem_of_getElem? (i := 2) rfl) (v := .ref (b 1)) rfl dX8_begin_58 ?_
      refine lv_iload_n S.1 S.2.1 dX8_begin_61 rfl (lv_at hl 2 rfl) ?_
      refine lv_iconst (v := nI 1) S.1 S.2.1 dX8_begin_62 (ofInt_nI 1) ?_
      refine nv_pSi (rest := [.ref (b 1)]) S w hl.1 (c_X8_at l D Z d 1 ) gX8_begin_X8_at rfl hdS_X8_at ⟨Nat.le_of_ble_eq_true rfl, Nat.le_of_ble_eq_true rfl⟩ rfl rfl (Nat.le_of_ble_eq_true rfl) ⟨Nat.zero_le _, Nat.zero_le _⟩ dX8_begin_63 (fun H locs w => ?_)
      refine lv_iconst (v := nI 0) S.1 S.2.1 dX8_begin_66 (ofInt_nI 0) ?_
      refine nv_iast S w (i := (21 + 16 * d + 1)) (x := 0) (g := (enc X)) 1 rfl (by omega) (by decide) (ws' := [(b 0, .inr (7, [.ref (b 1), .ref (b 2), .ref (b 3), vI sm, vI th, .ref (b 4), vI tl, vI pl, .ref (b 5), vI ro, vI nu])), (b 1, .inl (Z 0, 853, .inl (ar 853 (un (enc X) (21 + 16 * d + 1) 0)))), (b 2, .inl (Z 0, 3412, .inl (ar 3412 sv))), (b 3, .inl (Z 0, 853, .inl (ar 853 sd))), (b 4, .inl (Z 0, 100, .inl (ar 100 t))), (b 5, .inl (Z 0, 128, .inl (ar 128 r)))]) rfl dX8_begin_67 (fun H locs w => ?_)
      have w := w.as (ws' := mdM Z b (vX X d (un (X.2.2 d) 1 0)) sv sd sm th tl pl ro nu t r) (mdM_e (un_v hd (by decide)))
      exact nv_vret S w hr hlocks (by unfold begV; rw [if_pos (by omega)]) dX8_begin_68
  · skip
    refine lv_aload_n S.1 S.2.1 dX8_begin_20 rfl (lv_at hl 1 rfl) ?_
    refine nv_get S w (C := RX8) (T := TX8) (N := 11) hn_X8_begin_8 0 rfl rfl 0 (by decide) (List.mem_of_getElem? (i := 2) rfl) (v := .ref (b 1)) rfl dX8_begin_21 ?_
    refine lv_iload_n S.1 S.2.1 dX8_begin_24 rfl (lv_at hl 2 rfl) ?_
    refine lv_iconst (v := nI 0) S.1 S.2.1 dX8_begin_25 (ofInt_nI 0) ?_
    refine nv_pSi (rest := [.ref (b 1)]) S w hl.1 (c_X8_at l D Z d 0 ) gX8_begin_X8_at rfl hdS_X8_at ⟨Nat.le_of_ble_eq_true rfl, Nat.le_of_ble_eq_true rfl⟩ rfl rfl (Nat.le_of_ble_eq_true rfl) ⟨Nat.zero_le _, Nat.zero_le _⟩ dX8_begin_26 (fun H locs w => ?_)
    refine lv_bipush (v := nI 16) S.1 S.2.1 dX8_begin_29 (by decide +kernel) ?_
    refine lv_iload_n S.1 S.2.1 dX8_begin_31 rfl (lv_at hl 0 rfl) ?_
    refine nv_imul S dX8_begin_32 ?_
    refine nv_iast S w (i := (21 + 16 * d + 0)) (x := (16 * (X.2.2 d 12))) (g := (enc X)) 1 rfl (by omega) (by decide) (ws' := [(b 0, .inr (7, [.ref (b 1), .ref (b 2), .ref (b 3), vI sm, vI th, .ref (b 4), vI tl, vI pl, .ref (b 5), vI ro, vI nu])), (b 1, .inl (Z 0, 853, .inl (ar 853 (un (enc X) (21 + 16 * d + 0) (16 * (X.2.2 d 12)))))), (b 2, .inl (Z 0, 3412, .inl (ar 3412 sv))), (b 3, .inl (Z 0, 853, .inl (ar 853 sd))), (b 4, .inl (Z 0, 100, .inl (ar 100 t))), (b 5, .inl (Z 0, 128, .inl (ar 128 r)))]) rfl dX8_begin_33 (fun H locs w => ?_)
    have w := w.as (ws' := mdM Z b (vX X d (un (X.2.2 d) 0 (16 * X.2.2 d 12))) sv sd sm th tl pl ro nu t r) (mdM_e (un_v hd (by decide)))
    refine lv_aload_n S.1 S.2.1 dX8_begin_34 rfl (lv_at hl 1 rfl) ?_
    refine nv_get S w (C := RX8) (T := TX8) (N := 11) hn_X8_begin_8 0 rfl rfl 0 (by decide) (List.mem_of_getElem? (i := 2) rfl) (v := .ref (b 1)) rfl dX8_begin_35 ?_
    refine lv_iload_n S.1 S.2.1 dX8_begin_38 rfl (lv_at hl 2 rfl) ?_
    refine lv_iconst (v := nI 1) S.1 S.2.1 dX8_begin_39 (ofInt_nI 1) ?_
    refine nv_pSi (rest := [.ref (b 1)]) S w hl.1 (c_X8_at l D Z d 1 ) gX8_begin_X8_at rfl hdS_X8_at ⟨Nat.le_of_ble_eq_true rfl, Nat.le_of_ble_eq_true rfl⟩ rfl rfl (Nat.le_of_ble_eq_true rfl) ⟨Nat.zero_le _, Nat.zero_le _⟩ dX8_begin_40 (fun H locs w => ?_)
    refine lv_aload_n S.1 S.2.1 dX8_begin_43 rfl (lv_at hl 1 rfl) ?_
    refine lv_iload_n S.1 S.2.1 dX8_begin_44 rfl (lv_at hl 2 rfl) ?_
    refine lv_bipush (v := nI 13) S.1 S.2.1 dX8_begin_45 (by decide +kernel) ?_
    refine nv_rVi (rest := [vI (21 + 16 * d + 1), .ref (b 1)]) S w hl.1 (c_X8_of l D Z b (vX X d (un (X.2.2 d) 0 (16 * X.2.2 d 12))) sv sd sm th tl pl ro nu t r d 13 (by omega) (by omega)) [0, 1, 2, 3, 4, 5] rfl rfl gX8_begin_X8_of rfl hdV_X8_of ⟨Nat.le_of_ble_eq_true rfl, Nat.le_of_ble_eq_true rfl⟩ (q0 := 0) rfl rfl rfl rfl (Nat.le_of_ble_eq_true rfl) ⟨Nat.zero_le _, Nat.zero_le _⟩ dX8_begin_47 (fun H locs w => ?_)
    refine W.eq (g2 := F0 m 50 ls [vI (X.2.2 d 13), vI (21 + 16 * d + 1), .ref (b 1)]) (by rw [vX_v, un_ne (by decide)]) ?_
    refine nv_iast S w (i := (21 + 16 * d + 1)) (x := (X.2.2 d 13)) (g := (enc (vX X d (un (X.2.2 d) 0 (16 * X.2.2 d 12))))) 1 rfl (by omega) (by decide) (ws' := [(b 0, .inr (7, [.ref (b 1), .ref (b 2), .ref (b 3), vI sm, vI th, .ref (b 4), vI tl, vI pl, .ref (b 5), vI ro, vI nu])), (b 1, .inl (Z 0, 853, .inl (ar 853 (un (enc (vX X d (un (X.2.2 d) 0 (16 * X.2.2 d 12)))) (21 + 16 * d + 1) (X.2.2 d 13))))), (b 2, .inl (Z 0, 3412, .inl (ar 3412 sv))), (b 3, .inl (Z 0, 853, .inl (ar 853 sd))), (b 4, .inl (Z 0, 100, .inl (ar 100 t))), (b 5, .inl (Z 0, 128, .inl (ar 128 r)))]) rfl dX8_begin_50 (fun H locs w => ?_)
    have w := w.as (ws' := mdM Z b (vX X d (un (un (X.2.2 d) 0 (16 * X.2.2 d 12)) 1 (X.2.2 d 13))) sv sd sm th tl pl ro nu t r) (mdM_e (by rw [un_v hd (by decide), vX_vX, vX_v]))
    refine lv_iload_n S.1 S.2.1 dX8_begin_51 rfl (lv_at hl 0 rfl) ?_
    refine lv_bipush (v := nI 61) S.1 S.2.1 dX8_begin_52 (by decide +kernel) ?_
    refine nv_icmp_ne S (by omega) (by omega) (tgt := 68) dX8_begin_54 (by decide) (fun h_3 => ?_) (fun h_3 => ?_)
    · skip
      exact nv_vret S w hr hlocks (by unfold begV; rw [if_neg (by omega), if_pos (by omega)]) dX8_begin_68
    · skip
      exfalso; omega

def cpR (V r : Nat → Nat) (i : Nat) : Nat → Nat := fun k => if 12 ≤ k ∧ k < 12 + i then r (k - 12) else V k
theorem cpR_0 {V r : Nat → Nat} : cpR V r 0 = V := by
  funext k
  unfold cpR
  rw [if_neg (by omega)]
theorem cpR_s {V r : Nat → Nat} {i : Nat} : un (cpR V r i) (12 + i) (r i) = cpR V r (i + 1) := by
  funext k
  unfold un cpR
  by_cases h : k = 12 + i
  · rw [if_pos h, if_pos (by omega), show k - 12 = i by omega]
  · rw [if_neg h]
    by_cases h2 : 12 ≤ k ∧ k < 12 + i
    · rw [if_pos h2, if_pos (by omega)]
    · rw [if_neg h2, if_neg (by omega)]

theorem hdV_X8_begin : yX8_begin.cls = RX8 ∧ yX8_begin.cls ≠ "java/lang/invoke/MethodHandle" ∧ yX8_begin.cls ≠ "java/lang/invoke/VarHandle" ∧ (parseMethodDescriptor yX8_begin.desc).map (fun d => d.parameters.length) = some 1 := by decide +kernel
theorem hn_X8_reads_8 : ∀ w ∈ wsX80, w ∈ wsX8_reads := by decide +kernel
theorem hdV_X8_patternAtPlace : yX8_patternAtPlace.cls = RX8 ∧ yX8_patternAtPlace.cls ≠ "java/lang/invoke/MethodHandle" ∧ yX8_patternAtPlace.cls ≠ "java/lang/invoke/VarHandle" ∧ (parseMethodDescriptor yX8_patternAtPlace.desc).map (fun d => d.parameters.length) = some 0 := by decide +kernel
theorem hdS_X8_cellAt : yX8_cellAt.cls ≠ "java/lang/invoke/MethodHandle" ∧ yX8_cellAt.cls ≠ "java/lang/invoke/VarHandle" ∧ (parseMethodDescriptor yX8_cellAt.desc).map (fun d => d.parameters.length) = some 3 := by decide +kernel
theorem hdV_X8_latest : yX8_latest.cls = RX8 ∧ yX8_latest.cls ≠ "java/lang/invoke/MethodHandle" ∧ yX8_latest.cls ≠ "java/lang/invoke/VarHandle" ∧ (parseMethodDescriptor yX8_latest.desc).map (fun d => d.parameters.length) = some 1 := by decide +kernel
set_option maxRecDepth 100000 in
set_option maxHeartbeats 4000000 in
theorem k_X8_reads (l : Launch) (D : va_G) (Z : Nat → ClassId) (b : Nat → Nat) (X : ST) (sv sd : Nat → Nat) (sm th tl pl ro nu : Nat) (t r : Nat → Nat) (d : Nat) (hd : d < 4) (hs : SB X.1) (hp : PB X.1 X.2) {p : Program} {e : Env} {s : State} {m : MethodId} {args : Array Value} {below : List Frame} {meth : Method} {c : Code} {A : Nat → Prop} (S : CallFix p m c cX8_reads 6 s args wsX8_reads RX8) (hr : meth.sig.returnType = none) (hlocks : meth.locks = false) : ∀ (n9 : Nat), (∀ (i fr : Nat) (hi4 : i ≤ 4) (hf9 : fr < 192) (er : X.1.1 fr = (rdc X.1 X.2.1 (X.2.2 d) d)) (hm : 4 - i < n9), ∀ (H : Heap) (locs : List Loc) (ls : Array Slot) (hl : lv_has ls 6 [(0, .ref (b 0)), (1, vI d), (3, vI (85 + 4 * fr)), (4, vI i)]) (w : Wd D Z A s (mdM Z b (vX X d (cpR (X.2.2 d) (X.1.1 fr) i)) sv sd sm th tl pl ro nu t r) H locs), W p l e (rmO 3 65) s m args below meth c H locs 0 0 (Qv below D Z A args s (mdM Z b (X.1, rdS X.1 d X.2) sv sd sm th tl pl ro nu t r)) (F0 m 66 ls [])) := by
  intro n9
  obtain ⟨hp0, hp1, hp2, hp3, hp4, hvs⟩ := id hp
  have hv := (hvs d hd).1
  have hfr := (hvs d hd).2
  have h2 := hv
  unfold VB at h2
  have hrb := rdc_rb hs (hvs d hd) hp0 hp1 hd
  have hrb2 := hrb
  unfold RB at hrb2
  have hpl := hs.2.2.2.1
  have hord := hs.2.2.2.2 (X.2.1 0) (by omega)
  induction n9 with
  | zero => intro i fr hi4 hf9 er hm; exact absurd hm (Nat.not_lt_zero _)
  | succ n9 ih =>
    skip
    · intro i fr hi4 hf9 er hm H locs ls hl w
      refine lv_iload S.1 S.2.1 dX8_reads_66 (lv_at hl 3 rfl) ?_
      refine lv_iconst (v := nI 4) S.1 S.2.1 dX8_reads_68 (ofInt_nI 4) ?_
      refine nv_icmp_ge S (by omega) (by omega) (tgt := 101) dX8_reads_69 (by decide) (fun h_1 => ?_) (fun h_1 => ?_)
      · skip
        have w := w.as (ws' := mdM Z b (vX X d (setR (X.2.2 d) (rdc X.1 X.2.1 (X.2.2 d) d))) sv sd sm th tl pl ro nu t r) (by rw [show i = 4 by omega, er]; rfl)
        refine lv_aload_n S.1 S.2.1 dX8_reads_101 rfl (lv_at hl 0 rfl) ?_
        refine lv_iload_n S.1 S.2.1 dX8_reads_102 rfl (lv_at hl 1 rfl) ?_
        refine lv_bipush (v := nI 14) S.1 S.2.1 dX8_reads_103 (by decide +kernel) ?_
        refine nv_rVi (rest := []) S w hl.1 (c_X8_of l D Z b (vX X d (setR (X.2.2 d) (rdc X.1 X.2.1 (X.2.2 d) d))) sv sd sm th tl pl ro nu t r d 14 (by omega) (by omega)) [0, 1, 2, 3, 4, 5] rfl rfl gX8_reads_X8_of rfl hdV_X8_of ⟨Nat.le_of_ble_eq_true rfl, Nat.le_of_ble_eq_true rfl⟩ (q0 := 0) rfl rfl rfl rfl (Nat.le_of_ble_eq_true rfl) ⟨Nat.zero_le _, Nat.zero_le _⟩ dX8_reads_105 (fun H locs w => ?_)
        refine W.eq (g2 := F0 m 108 ls [vI ((rdc X.1 X.2.1 (X.2.2 d) d) 2)]) (by rw [vX_v]; rfl) ?_
        refine lv_istore (lv' := [(4, vI ((rdc X.1 X.2.1 (X.2.2 d) d) 2)), (0, .ref (b 0)), (1, vI d), (3, vI (85 + 4 * fr))]) S.1 S.2.1 dX8_reads_108 hl (by decide) rfl (fun ls hl => ?_)
        refine lv_aload_n S.1 S.2.1 dX8_reads_110 rfl (lv_at hl 1 rfl) ?_
        refine lv_iload_n S.1 S.2.1 dX8_reads_111 rfl (lv_at hl 2 rfl) ?_
        refine lv_bipush (v := nI 15) S.1 S.2.1 dX8_reads_112 (by decide +kernel) ?_
        refine nv_rVi (rest := []) S w hl.1 (c_X8_of l D Z b (vX X d (setR (X.2.2 d) (rdc X.1 X.2.1 (X.2.2 d) d))) sv sd sm th tl pl ro nu t r d 15 (by omega) (by omega)) [0, 1, 2, 3, 4, 5] rfl rfl gX8_reads_X8_of rfl hdV_X8_of ⟨Nat.le_of_ble_eq_true rfl, Nat.le_of_ble_eq_true rfl⟩ (q0 := 0) rfl rfl rfl rfl (Nat.le_of_ble_eq_true rfl) ⟨Nat.zero_le _, Nat.zero_le _⟩ dX8_reads_114 (fun H locs w => ?_)
        refine W.eq (g2 := F0 m 117 ls [vI ((rdc X.1 X.2.1 (X.2.2 d) d) 3)]) (by rw [vX_v]; rfl) ?_
        refine lv_istore (lv' := [(5, vI ((rdc X.1 X.2.1 (X.2.2 d) d) 3)), (4, vI ((rdc X.1 X.2.1 (X.2.2 d) d) 2)), (0, .ref (b 0)), (1, vI d), (3, vI (85 + 4 * fr))]) S.1 S.2.1 dX8_reads_117 hl (by decide) rfl (fun ls hl => ?_)
        refine lv_iload S.1 S.2.1 dX8_reads_119 (lv_at hl 1 rfl) ?_
        refine lv_bipush (v := nI 7) S.1 S.2.1 dX8_reads_121 (by decide +kernel) ?_
        refine nv_icmp_ne S (by omega) (by omega) (tgt := 147) dX8_reads_123 (by decide) (fun h_2 => ?_) (fun h_2 => ?_)
        · skip
          refine lv_iload S.1 S.2.1 dX8_reads_147 (lv_at hl 1 rfl) ?_
          refine lv_bipush (v := nI 6) S.1 S.2.1 dX8_reads_149 (by decide +kernel) ?_
          refine nv_icmp_ne S (by omega) (by omega) (tgt := 159) dX8_reads_151 (by decide) (fun h_3 => ?_) (fun h_3 => ?_)
          · skip
            refine lv_aload_n S.1 S.2.1 dX8_reads_159 rfl (lv_at hl 2 rfl) ?_
            refine lv_iload_n S.1 S.2.1 dX8_reads_160 rfl (lv_at hl 3 rfl) ?_
            refine nv_cVv (rest := []) (ws' := mdM Z b (vX (vX X d (setR (X.2.2 d) (rdc X.1 X.2.1 (X.2.2 d) d))) d (begV ((vX X d (setR (X.2.2 d) (rdc X.1 X.2.1 (X.2.2 d) d))).2.2 d))) sv sd sm th tl pl ro nu t r) S w hl.1 (c_X8_begin l D Z b (vX X d (setR (X.2.2 d) (rdc X.1 X.2.1 (X.2.2 d) d))) sv sd sm th tl pl ro nu t r d (by omega) (by show VB ((vX X d _).2.2 d); rw [vX_v]; exact VB_setR hv hrb)) [0, 1, 2, 3, 4, 5] rfl rfl rfl rfl gX8_reads_X8_begin rfl hdV_X8_begin ⟨Nat.le_of_ble_eq_true rfl, Nat.le_of_ble_eq_true rfl⟩ (q0 := 0) rfl rfl rfl rfl (Nat.le_of_ble_eq_true rfl) ⟨Nat.zero_le _, Nat.zero_le _⟩ dX8_reads_161 (fun H locs w => ?_)
            exact nv_vret S w hr hlocks (by unfold rdS brV; rw [if_neg (by omega), if_neg (by omega)]; simp only [vX, gX, uv_uv, uv_eq]) dX8_reads_164
          · skip
            refine lv_iload S.1 S.2.1 dX8_reads_154 (lv_at hl 0 rfl) ?_
            refine nv_if_ne S (by omega) (tgt := 164) dX8_reads_156 (by decide) (fun h_4 => ?_) (fun h_4 => ?_)
            · skip
              exact nv_vret S w hr hlocks (by unfold rdS brV; rw [if_neg (by omega), if_pos (by omega)]; simp only [vX, gX, uv_uv, uv_eq]) dX8_reads_164
            · skip
              refine lv_aload_n S.1 S.2.1 dX8_reads_159 rfl (lv_at hl 2 rfl) ?_
              refine lv_iload_n S.1 S.2.1 dX8_reads_160 rfl (lv_at hl 3 rfl) ?_
              refine nv_cVv (rest := []) (ws' := mdM Z b (vX (vX X d (setR (X.2.2 d) (rdc X.1 X.2.1 (X.2.2 d) d))) d (begV ((vX X d (setR (X.2.2 d) (rdc X.1 X.2.1 (X.2.2 d) d))).2.2 d))) sv sd sm th tl pl ro nu t r) S w hl.1 (c_X8_begin l D Z b (vX X d (setR (X.2.2 d) (rdc X.1 X.2.1 (X.2.2 d) d))) sv sd sm th tl pl ro nu t r d (by omega) (by show VB ((vX X d _).2.2 d); rw [vX_v]; exact VB_setR hv hrb)) [0, 1, 2, 3, 4, 5] rfl rfl rfl rfl gX8_reads_X8_begin rfl hdV_X8_begin ⟨Nat.le_of_ble_eq_true rfl, Nat.le_of_ble_eq_true rfl⟩ (q0 := 0) rfl rfl rfl rfl (Nat.le_of_ble_eq_true rfl) ⟨Nat.zero_le _, Nat.zero_le _⟩ dX8_reads_161 (fun H locs w => ?_)
              exact nv_vret S w hr hlocks (by unfold rdS brV; rw [if_neg (by omega), if_neg (by omega)]; simp only [vX, gX, uv_uv, uv_eq]) dX8_reads_164
        · skip
          refine lv_iload S.1 S.2.1 dX8_reads_126 (lv_at hl 0 rfl) ?_
          refine lv_i2l (v := (nI ((rdc X.1 X.2.1 (X.2.2 d) d) 3)).toInt64) S.1 S.2.1 dX8_reads_128 rfl ?_
          refine lv_lconst (v := 1) S.1 S.2.1 dX8_reads_129 rfl ?_
          refine lv_ldc2 (v := 8) S.1 S.2.1 S.2.2.2.1 (S.2.2.2.2 _ (by decide +kernel)) dX8_reads_130 ?_
          refine nv_pSi (rest := []) S w hl.1 (c_X8_inN l D Z ((rdc X.1 X.2.1 (X.2.2 d) d) 3) 1 8 (by omega) (by omega) (by omega)) gX8_reads_X8_in rfl hdS_X8_in ⟨Nat.le_of_ble_eq_true rfl, Nat.le_of_ble_eq_true rfl⟩ rfl rfl (Nat.le_of_ble_eq_true rfl) ⟨Nat.zero_le _, Nat.zero_le _⟩ dX8_reads_133 (fun H locs w => ?_)
          refine nv_if_eqB S (tgt := 147) dX8_reads_136 (by decide) (fun h_5 => ?_) (fun h_5 => ?_)
          · skip
            refine lv_iload S.1 S.2.1 dX8_reads_147 (lv_at hl 1 rfl) ?_
            refine lv_bipush (v := nI 6) S.1 S.2.1 dX8_reads_149 (by decide +kernel) ?_
            refine nv_icmp_ne S (by omega) (by omega) (tgt := 159) dX8_reads_151 (by decide) (fun h_6 => ?_) (fun h_6 => ?_)
            · skip
              refine lv_aload_n S.1 S.2.1 dX8_reads_159 rfl (lv_at hl 2 rfl) ?_
              refine lv_iload_n S.1 S.2.1 dX8_reads_160 rfl (lv_at hl 3 rfl) ?_
              refine nv_cVv (rest := []) (ws' := mdM Z b (vX (vX X d (setR (X.2.2 d) (rdc X.1 X.2.1 (X.2.2 d) d))) d (begV ((vX X d (setR (X.2.2 d) (rdc X.1 X.2.1 (X.2.2 d) d))).2.2 d))) sv sd sm th tl pl ro nu t r) S w hl.1 (c_X8_begin l D Z b (vX X d (setR (X.2.2 d) (rdc X.1 X.2.1 (X.2.2 d) d))) sv sd sm th tl pl ro nu t r d (by omega) (by show VB ((vX X d _).2.2 d); rw [vX_v]; exact VB_setR hv hrb)) [0, 1, 2, 3, 4, 5] rfl rfl rfl rfl gX8_reads_X8_begin rfl hdV_X8_begin ⟨Nat.le_of_ble_eq_true rfl, Nat.le_of_ble_eq_true rfl⟩ (q0 := 0) rfl rfl rfl rfl (Nat.le_of_ble_eq_true rfl) ⟨Nat.zero_le _, Nat.zero_le _⟩ dX8_reads_161 (fun H locs w => ?_)
              exact nv_vret S w hr hlocks (by unfold rdS brV; rw [if_neg (by omega), if_neg (by omega)]; simp only [vX, gX, uv_uv, uv_eq]) dX8_reads_164
            · skip
              refine lv_iload S.1 S.2.1 dX8_reads_154 (lv_at hl 0 rfl) ?_
              refine nv_if_ne S (by omega) (tgt := 164) dX8_reads_156 (by decide) (fun h_7 => ?_) (fun h_7 => ?_)
              · skip
                exact nv_vret S w hr hlocks (by unfold rdS brV; rw [if_neg (by omega), if_pos (by omega)]; simp only [vX, gX, uv_uv, uv_eq]) dX8_reads_164
              · skip
                refine lv_aload_n S.1 S.2.1 dX8_reads_159 rfl (lv_at hl 2 rfl) ?_
                refine lv_iload_n S.1 S.2.1 dX8_reads_160 rfl (lv_at hl 3 rfl) ?_
                refine nv_cVv (rest := []) (ws' := mdM Z b (vX (vX X d (setR (X.2.2 d) (rdc X.1 X.2.1 (X.2.2 d) d))) d (begV ((vX X d (setR (X.2.2 d) (rdc X.1 X.2.1 (X.2.2 d) d))).2.2 d))) sv sd sm th tl pl ro nu t r) S w hl.1 (c_X8_begin l D Z b (vX X d (setR (X.2.2 d) (rdc X.1 X.2.1 (X.2.2 d) d))) sv sd sm th tl pl ro nu t r d (by omega) (by show VB ((vX X d _).2.2 d); rw [vX_v]; exact VB_setR hv hrb)) [0, 1, 2, 3, 4, 5] rfl rfl rfl rfl gX8_reads_X8_begin rfl hdV_X8_begin ⟨Nat.le_of_ble_eq_true rfl, Nat.le_of_ble_eq_true rfl⟩ (q0 := 0) rfl rfl rfl rfl (Nat.le_of_ble_eq_true rfl) ⟨Nat.zero_le _, Nat.zero_le _⟩ dX8_reads_161 (fun H locs w => ?_)
                exact nv_vret S w hr hlocks (by unfold rdS brV; rw [if_neg (by omega), if_neg (by omega)]; simp only [vX, gX, uv_uv, uv_eq]) dX8_reads_164
          · skip
            refine lv_aload_n S.1 S.2.1 dX8_reads_139 rfl (lv_at hl 2 rfl) ?_
            refine nv_get S w (C := RX8) (T := TX8) (N := 11) hn_X8_reads_8 0 rfl rfl 0 (by decide) (List.mem_of_getElem? (i := 1) rfl) (v := .ref (b 1)) rfl dX8_reads_140 ?_
            refine lv_iconst (v := nI 3) S.1 S.2.1 dX8_reads_143 (ofInt_nI 3) ?_
            refine lv_iload S.1 S.2.1 dX8_reads_144 (lv_at hl 0 rfl) ?_
            refine nv_iast S w (i := 3) (x := ((rdc X.1 X.2.1 (X.2.2 d) d) 3)) (g := (enc (vX X d (setR (X.2.2 d) (rdc X.1 X.2.1 (X.2.2 d) d))))) 1 rfl (by omega) (by decide) (ws' := [(b 0, .inr (7, [.ref (b 1), .ref (b 2), .ref (b 3), vI sm, vI th, .ref (b 4), vI tl, vI pl, .ref (b 5), vI ro, vI nu])), (b 1, .inl (Z 0, 853, .inl (ar 853 (un (enc (vX X d (setR (X.2.2 d) (rdc X.1 X.2.1 (X.2.2 d) d)))) 3 ((rdc X.1 X.2.1 (X.2.2 d) d) 3))))), (b 2, .inl (Z 0, 3412, .inl (ar 3412 sv))), (b 3, .inl (Z 0, 853, .inl (ar 853 sd))), (b 4, .inl (Z 0, 100, .inl (ar 100 t))), (b 5, .inl (Z 0, 128, .inl (ar 128 r)))]) rfl dX8_reads_146 (fun H locs w => ?_)
            have w := w.as (ws' := mdM Z b (gX (vX X d (setR (X.2.2 d) (rdc X.1 X.2.1 (X.2.2 d) d))) (un X.2.1 3 ((rdc X.1 X.2.1 (X.2.2 d) d) 3))) sv sd sm th tl pl ro nu t r) (mdM_e (un_g (X := (vX X d (setR (X.2.2 d) (rdc X.1 X.2.1 (X.2.2 d) d)))) (by decide)))
            refine lv_iload S.1 S.2.1 dX8_reads_147 (lv_at hl 1 rfl) ?_
            refine lv_bipush (v := nI 6) S.1 S.2.1 dX8_reads_149 (by decide +kernel) ?_
            refine nv_icmp_ne S (by omega) (by omega) (tgt := 159) dX8_reads_151 (by decide) (fun h_8 => ?_) (fun h_8 => ?_)
            · skip
              refine lv_aload_n S.1 S.2.1 dX8_reads_159 rfl (lv_at hl 2 rfl) ?_
              refine lv_iload_n S.1 S.2.1 dX8_reads_160 rfl (lv_at hl 3 rfl) ?_
              refine nv_cVv (rest := []) (ws' := mdM Z b (vX (gX (vX X d (setR (X.2.2 d) (rdc X.1 X.2.1 (X.2.2 d) d))) (un X.2.1 3 ((rdc X.1 X.2.1 (X.2.2 d) d) 3))) d (begV ((gX (vX X d (setR (X.2.2 d) (rdc X.1 X.2.1 (X.2.2 d) d))) (un X.2.1 3 ((rdc X.1 X.2.1 (X.2.2 d) d) 3))).2.2 d))) sv sd sm th tl pl ro nu t r) S w hl.1 (c_X8_begin l D Z b (gX (vX X d (setR (X.2.2 d) (rdc X.1 X.2.1 (X.2.2 d) d))) (un X.2.1 3 ((rdc X.1 X.2.1 (X.2.2 d) d) 3))) sv sd sm th tl pl ro nu t r d (by omega) (by show VB ((vX X d _).2.2 d); rw [vX_v]; exact VB_setR hv hrb)) [0, 1, 2, 3, 4, 5] rfl rfl rfl rfl gX8_reads_X8_begin rfl hdV_X8_begin ⟨Nat.le_of_ble_eq_true rfl, Nat.le_of_ble_eq_true rfl⟩ (q0 := 0) rfl rfl rfl rfl (Nat.le_of_ble_eq_true rfl) ⟨Nat.zero_le _, Nat.zero_le _⟩ dX8_reads_161 (fun H locs w => ?_)
              exact nv_vret S w hr hlocks (by unfold rdS brV; rw [if_pos (by omega), if_neg (by omega)]; simp only [vX, gX, uv_uv, uv_eq]) dX8_reads_164
            · skip
              refine lv_iload S.1 S.2.1 dX8_reads_154 (lv_at hl 0 rfl) ?_
              refine nv_if_ne S (by omega) (tgt := 164) dX8_reads_156 (by decide) (fun h_9 => ?_) (fun h_9 => ?_)
              · skip
                exact nv_vret S w hr hlocks (by unfold rdS brV; rw [if_pos (by omega), if_pos (by omega)]; simp only [vX, gX, uv_uv, uv_eq]) dX8_reads_164
              · skip
                refine lv_aload_n S.1 S.2.1 dX8_reads_159 rfl (lv_at hl 2 rfl) ?_
                refine lv_iload_n S.1 S.2.1 dX8_reads_160 rfl (lv_at hl 3 rfl) ?_
                refine nv_cVv (rest := []) (ws' := mdM Z b (vX (gX (vX X d (setR (X.2.2 d) (rdc X.1 X.2.1 (X.2.2 d) d))) (un X.2.1 3 ((rdc X.1 X.2.1 (X.2.2 d) d) 3))) d (begV ((gX (vX X d (setR (X.2.2 d) (rdc X.1 X.2.1 (X.2.2 d) d))) (un X.2.1 3 ((rdc X.1 X.2.1 (X.2.2 d) d) 3))).2.2 d))) sv sd sm th tl pl ro nu t r) S w hl.1 (c_X8_begin l D Z b (gX (vX X d (setR (X.2.2 d) (rdc X.1 X.2.1 (X.2.2 d) d))) (un X.2.1 3 ((rdc X.1 X.2.1 (X.2.2 d) d) 3))) sv sd sm th tl pl ro nu t r d (by omega) (by show VB ((vX X d _).2.2 d); rw [vX_v]; exact VB_setR hv hrb)) [0, 1, 2, 3, 4, 5] rfl rfl rfl rfl gX8_reads_X8_begin rfl hdV_X8_begin ⟨Nat.le_of_ble_eq_true rfl, Nat.le_of_ble_eq_true rfl⟩ (q0 := 0) rfl rfl rfl rfl (Nat.le_of_ble_eq_true rfl) ⟨Nat.zero_le _, Nat.zero_le _⟩ dX8_reads_161 (fun H locs w => ?_)
                exact nv_vret S w hr hlocks (by unfold rdS brV; rw [if_pos (by omega), if_neg (by omega)]; simp only [vX, gX, uv_uv, uv_eq]) dX8_reads_164
      · skip
        refine lv_aload_n S.1 S.2.1 dX8_reads_72 rfl (lv_at hl 0 rfl) ?_
        refine nv_get S w (C := RX8) (T := TX8) (N := 11) hn_X8_reads_8 0 rfl rfl 0 (by decide) (List.mem_of_getElem? (i := 1) rfl) (v := .ref (b 1)) rfl dX8_reads_73 ?_
        refine lv_iload_n S.1 S.2.1 dX8_reads_76 rfl (lv_at hl 1 rfl) ?_
        refine lv_bipush (v := nI 12) S.1 S.2.1 dX8_reads_77 (by decide +kernel) ?_
        refine lv_iload S.1 S.2.1 dX8_reads_79 (lv_at hl 3 rfl) ?_
        refine nv_iadd S dX8_reads_81 ?_
        refine nv_pSi (rest := [.ref (b 1)]) S w hl.1 (c_X8_at l D Z d (12 + i) ) gX8_reads_X8_at rfl hdS_X8_at ⟨Nat.le_of_ble_eq_true rfl, Nat.le_of_ble_eq_true rfl⟩ rfl rfl (Nat.le_of_ble_eq_true rfl) ⟨Nat.zero_le _, Nat.zero_le _⟩ dX8_reads_82 (fun H locs w => ?_)
        refine lv_aload_n S.1 S.2.1 dX8_reads_85 rfl (lv_at hl 0 rfl) ?_
        refine nv_get S w (C := RX8) (T := TX8) (N := 11) hn_X8_reads_8 0 rfl rfl 0 (by decide) (List.mem_of_getElem? (i := 1) rfl) (v := .ref (b 1)) rfl dX8_reads_86 ?_
        refine lv_iload_n S.1 S.2.1 dX8_reads_89 rfl (lv_at hl 2 rfl) ?_
        refine lv_iload S.1 S.2.1 dX8_reads_90 (lv_at hl 3 rfl) ?_
        refine nv_iadd S dX8_reads_92 ?_
        refine nv_iald S w (i := ((85 + 4 * fr) + i)) (g := (enc (vX X d (cpR (X.2.2 d) (X.1.1 fr) i)))) 1 rfl (by omega) (by decide) dX8_reads_93 ?_
        refine W.eq (g2 := F0 m 94 ls [vI (X.1.1 fr i), vI (21 + 16 * d + (12 + i)), .ref (b 1)]) (by rw [enc_c (by omega)]; rfl) ?_
        refine nv_iast S w (i := (21 + 16 * d + (12 + i))) (x := (X.1.1 fr i)) (g := (enc (vX X d (cpR (X.2.2 d) (X.1.1 fr) i)))) 1 rfl (by omega) (by decide) (ws' := [(b 0, .inr (7, [.ref (b 1), .ref (b 2), .ref (b 3), vI sm, vI th, .ref (b 4), vI tl, vI pl, .ref (b 5), vI ro, vI nu])), (b 1, .inl (Z 0, 853, .inl (ar 853 (un (enc (vX X d (cpR (X.2.2 d) (X.1.1 fr) i))) (21 + 16 * d + (12 + i)) (X.1.1 fr i))))), (b 2, .inl (Z 0, 3412, .inl (ar 3412 sv))), (b 3, .inl (Z 0, 853, .inl (ar 853 sd))), (b 4, .inl (Z 0, 100, .inl (ar 100 t))), (b 5, .inl (Z 0, 128, .inl (ar 128 r)))]) rfl dX8_reads_94 (fun H locs w => ?_)
        have w := w.as (ws' := mdM Z b (vX X d (cpR (X.2.2 d) (X.1.1 fr) (i + 1))) sv sd sm th tl pl ro nu t r) (mdM_e (by rw [un_v hd (by omega), vX_vX, vX_v, ← cpR_s]))
        refine lv_iinc (v := nI (i + 1)) (lv' := [(4, vI (i + 1)), (0, .ref (b 0)), (1, vI d), (3, vI (85 + 4 * fr))]) S.1 S.2.1 dX8_reads_95 hl (k := 3) rfl (nI_incI i 1) (by decide) rfl (fun ls hl => ?_)
        refine lv_goto (tgt := 66) S.1 S.2.1 dX8_reads_98 (by decide) ?_
        exact ih (i + 1) fr (by omega) hf9 er (by omega) _ _ _ (lv_sub hl [1, 2, 3, 0] rfl) (w.as rfl)
set_option maxRecDepth 100000 in
set_option maxHeartbeats 4000000 in
theorem c_X8_reads (l : Launch) (D : va_G) (Z : Nat → ClassId) (b : Nat → Nat) (X : ST) (sv sd : Nat → Nat) (sm th tl pl ro nu : Nat) (t r : Nat → Nat) (d : Nat) (hd : d < 4) (hs : SB X.1) (hp : PB X.1 X.2) : Cv l yX8_reads wsX8_reads 3 65 D Z [.ref (b 0), vI d] (mdM Z b X sv sd sm th tl pl ro nu t r)  (mdM Z b (X.1, rdS X.1 d X.2) sv sd sm th tl pl ro nu t r) := by
  refine ne_v (cc := cX8_reads) (maxL := 6) (by decide +kernel) rfl (Nat.le_of_ble_eq_true rfl) (fun p e s m args below meth c A ls (S : CallFix p m c cX8_reads 6 s args wsX8_reads RX8) hr hlocks hl w => ?_)
  obtain ⟨hp0, hp1, hp2, hp3, hp4, hvs⟩ := id hp
  have hv := (hvs d hd).1
  have hfr := (hvs d hd).2
  have h2 := hv
  unfold VB at h2
  have hrb := rdc_rb hs (hvs d hd) hp0 hp1 hd
  have hrb2 := hrb
  unfold RB at hrb2
  have hpl := hs.2.2.2.1
  have hord := hs.2.2.2.2 (X.2.1 0) (by omega)
  have hl : lv_has ls 6 [(0, .ref (b 0)), (1, vI d)] := hl
  refine lv_aload_n S.1 S.2.1 dX8_reads_0 rfl (lv_at hl 0 rfl) ?_
  refine lv_iload_n S.1 S.2.1 dX8_reads_1 rfl (lv_at hl 1 rfl) ?_
  refine lv_iconst (v := nI 4) S.1 S.2.1 dX8_reads_2 (ofInt_nI 4) ?_
  refine nv_rVi (rest := []) S w hl.1 (c_X8_of l D Z b X sv sd sm th tl pl ro nu t r d 4 (by omega) (by omega)) [0, 1, 2, 3, 4, 5] rfl rfl gX8_reads_X8_of rfl hdV_X8_of ⟨Nat.le_of_ble_eq_true rfl, Nat.le_of_ble_eq_true rfl⟩ (q0 := 0) rfl rfl rfl rfl (Nat.le_of_ble_eq_true rfl) ⟨Nat.zero_le _, Nat.zero_le _⟩ dX8_reads_3 (fun H locs w => ?_)
  refine nv_if_le S (by omega) (tgt := 13) dX8_reads_6 (by decide) (fun h_10 => ?_) (fun h_10 => ?_)
  · skip
    refine lv_iconst (v := nI 0) S.1 S.2.1 dX8_reads_13 (ofInt_nI 0) ?_
    refine lv_istore_n (lv' := [(2, vI 0), (0, .ref (b 0)), (1, vI d)]) S.1 S.2.1 dX8_reads_14 rfl hl (by decide) rfl (fun ls hl => ?_)
    refine lv_iload_n S.1 S.2.1 dX8_reads_15 rfl (lv_at hl 0 rfl) ?_
    refine lv_if_eq (tgt := 48) S.1 S.2.1 dX8_reads_16 (by decide) (fun _ => ?_) (fun h9 => absurd (by decide) h9)
    refine lv_aload_n S.1 S.2.1 dX8_reads_48 rfl (lv_at hl 1 rfl) ?_
    refine nv_rVi (rest := []) S w hl.1 (c_X8_patternAtPlace l D Z b X sv sd sm th tl pl ro nu t r (by omega)) [0, 1, 2, 3, 4, 5] rfl rfl gX8_reads_X8_patternAtPlace rfl hdV_X8_patternAtPlace ⟨Nat.le_of_ble_eq_true rfl, Nat.le_of_ble_eq_true rfl⟩ (q0 := 0) rfl rfl rfl rfl (Nat.le_of_ble_eq_true rfl) ⟨Nat.zero_le _, Nat.zero_le _⟩ dX8_reads_49 (fun H locs w => ?_)
    refine lv_aload_n S.1 S.2.1 dX8_reads_52 rfl (lv_at hl 1 rfl) ?_
    refine nv_get S w (C := RX8) (T := TX8) (N := 11) hn_X8_reads_8 0 rfl rfl 0 (by decide) (List.mem_of_getElem? (i := 1) rfl) (v := .ref (b 1)) rfl dX8_reads_53 ?_
    refine lv_iconst (v := nI 1) S.1 S.2.1 dX8_reads_56 (ofInt_nI 1) ?_
    refine nv_iald S w (i := 1) (g := (enc X)) 1 rfl (by omega) (by decide) dX8_reads_57 ?_
    refine W.eq (g2 := F0 m 58 ls [vI (X.2.1 1), vI (X.1.2.2.1 (X.2.1 0))]) (by rw [enc_g (by decide)]) ?_
    refine lv_iload_n S.1 S.2.1 dX8_reads_58 rfl (lv_at hl 2 rfl) ?_
    refine nv_pSi (rest := []) S w hl.1 (c_X8_cellAt l D Z (X.1.2.2.1 (X.2.1 0)) (X.2.1 1) d ) gX8_reads_X8_cellAt rfl hdS_X8_cellAt ⟨Nat.le_of_ble_eq_true rfl, Nat.le_of_ble_eq_true rfl⟩ rfl rfl (Nat.le_of_ble_eq_true rfl) ⟨Nat.zero_le _, Nat.zero_le _⟩ dX8_reads_59 (fun H locs w => ?_)
    refine lv_istore_n (lv' := [(3, vI (85 + 4 * cix (X.1.2.2.1 (X.2.1 0)) (X.2.1 1) d)), (2, vI 0), (0, .ref (b 0)), (1, vI d)]) S.1 S.2.1 dX8_reads_62 rfl hl (by decide) rfl (fun ls hl => ?_)
    refine lv_iconst (v := nI 0) S.1 S.2.1 dX8_reads_63 (ofInt_nI 0) ?_
    refine lv_istore (lv' := [(4, vI 0), (3, vI (85 + 4 * cix (X.1.2.2.1 (X.2.1 0)) (X.2.1 1) d)), (2, vI 0), (0, .ref (b 0)), (1, vI d)]) S.1 S.2.1 dX8_reads_64 hl (by decide) rfl (fun ls hl => ?_)
    exact k_X8_reads l D Z b X sv sd sm th tl pl ro nu t r d hd hs hp S hr hlocks _ 0 (cix (X.1.2.2.1 (X.2.1 0)) (X.2.1 1) d) (by omega) (cix_lt (by omega) (by omega) hd) (by unfold rdc; rw [if_pos (by omega)]) (Nat.lt_succ_self _) _ _ _ (lv_sub hl [3, 4, 1, 0] rfl) (w.as (by rw [cpR_0, vX_self]))
  · skip
    refine lv_iconst (v := nI 1) S.1 S.2.1 dX8_reads_9 (ofInt_nI 1) ?_
    refine lv_goto (tgt := 14) S.1 S.2.1 dX8_reads_10 (by decide) ?_
    refine lv_istore_n (lv' := [(2, vI 1), (0, .ref (b 0)), (1, vI d)]) S.1 S.2.1 dX8_reads_14 rfl hl (by decide) rfl (fun ls hl => ?_)
    refine lv_iload_n S.1 S.2.1 dX8_reads_15 rfl (lv_at hl 0 rfl) ?_
    refine lv_if_eq (tgt := 48) S.1 S.2.1 dX8_reads_16 (by decide) (fun h9 => absurd h9 (by decide)) (fun _ => ?_)
    have hfp := VB_fp hv (by omega)
    have htp := hfr.top (by omega)
    refine lv_aload_n S.1 S.2.1 dX8_reads_19 rfl (lv_at hl 1 rfl) ?_
    refine nv_get S w (C := RX8) (T := TX8) (N := 11) hn_X8_reads_8 0 rfl rfl 0 (by decide) (List.mem_of_getElem? (i := 1) rfl) (v := .ref (b 1)) rfl dX8_reads_20 ?_
    refine lv_aload_n S.1 S.2.1 dX8_reads_23 rfl (lv_at hl 1 rfl) ?_
    refine lv_iload_n S.1 S.2.1 dX8_reads_24 rfl (lv_at hl 2 rfl) ?_
    refine nv_rVi (rest := [.ref (b 1)]) S w hl.1 (c_X8_latest l D Z b X sv sd sm th tl pl ro nu t r d (by omega) (by omega)) [0, 1, 2, 3, 4, 5] rfl rfl gX8_reads_X8_latest rfl hdV_X8_latest ⟨Nat.le_of_ble_eq_true rfl, Nat.le_of_ble_eq_true rfl⟩ (q0 := 0) rfl rfl rfl rfl (Nat.le_of_ble_eq_true rfl) ⟨Nat.zero_le _, Nat.zero_le _⟩ dX8_reads_25 (fun H locs w => ?_)
    refine nv_iald S w (i := (21 + 16 * d + (5 + 2 * (X.2.2 d 4 - 1)))) (g := (enc X)) 1 rfl (by omega) (by decide) dX8_reads_28 ?_
    refine W.eq (g2 := F0 m 29 ls [vI (X.2.2 d (5 + 2 * (X.2.2 d 4 - 1)))]) (by rw [enc_v hd (by omega)]) ?_
    refine lv_aload_n S.1 S.2.1 dX8_reads_29 rfl (lv_at hl 1 rfl) ?_
    refine nv_get S w (C := RX8) (T := TX8) (N := 11) hn_X8_reads_8 0 rfl rfl 0 (by decide) (List.mem_of_getElem? (i := 1) rfl) (v := .ref (b 1)) rfl dX8_reads_30 ?_
    refine lv_aload_n S.1 S.2.1 dX8_reads_33 rfl (lv_at hl 1 rfl) ?_
    refine lv_iload_n S.1 S.2.1 dX8_reads_34 rfl (lv_at hl 2 rfl) ?_
    refine nv_rVi (rest := [.ref (b 1), vI (X.2.2 d (5 + 2 * (X.2.2 d 4 - 1)))]) S w hl.1 (c_X8_latest l D Z b X sv sd sm th tl pl ro nu t r d (by omega) (by omega)) [0, 1, 2, 3, 4, 5] rfl rfl gX8_reads_X8_latest rfl hdV_X8_latest ⟨Nat.le_of_ble_eq_true rfl, Nat.le_of_ble_eq_true rfl⟩ (q0 := 0) rfl rfl rfl rfl (Nat.le_of_ble_eq_true rfl) ⟨Nat.zero_le _, Nat.zero_le _⟩ dX8_reads_35 (fun H locs w => ?_)
    refine lv_iconst (v := nI 1) S.1 S.2.1 dX8_reads_38 (ofInt_nI 1) ?_
    refine nv_iadd S dX8_reads_39 ?_
    refine nv_iald S w (i := ((21 + 16 * d + (5 + 2 * (X.2.2 d 4 - 1))) + 1)) (g := (enc X)) 1 rfl (by omega) (by decide) dX8_reads_40 ?_
    refine W.eq (g2 := F0 m 41 ls [vI (X.2.2 d (6 + 2 * (X.2.2 d 4 - 1))), vI (X.2.2 d (5 + 2 * (X.2.2 d 4 - 1)))]) (by rw [show 21 + 16 * d + (5 + 2 * (X.2.2 d 4 - 1)) + 1 = 21 + 16 * d + (6 + 2 * (X.2.2 d 4 - 1)) by omega, enc_v hd (by omega)]) ?_
    refine lv_iload_n S.1 S.2.1 dX8_reads_41 rfl (lv_at hl 2 rfl) ?_
    refine nv_pSi (rest := []) S w hl.1 (c_X8_cellAt l D Z (X.2.2 d (5 + 2 * (X.2.2 d 4 - 1))) (X.2.2 d (6 + 2 * (X.2.2 d 4 - 1))) d ) gX8_reads_X8_cellAt rfl hdS_X8_cellAt ⟨Nat.le_of_ble_eq_true rfl, Nat.le_of_ble_eq_true rfl⟩ rfl rfl (Nat.le_of_ble_eq_true rfl) ⟨Nat.zero_le _, Nat.zero_le _⟩ dX8_reads_42 (fun H locs w => ?_)
    refine lv_goto (tgt := 62) S.1 S.2.1 dX8_reads_45 (by decide) ?_
    refine lv_istore_n (lv' := [(3, vI (85 + 4 * cix (X.2.2 d (5 + 2 * (X.2.2 d 4 - 1))) (X.2.2 d (6 + 2 * (X.2.2 d 4 - 1))) d)), (2, vI 1), (0, .ref (b 0)), (1, vI d)]) S.1 S.2.1 dX8_reads_62 rfl hl (by decide) rfl (fun ls hl => ?_)
    refine lv_iconst (v := nI 0) S.1 S.2.1 dX8_reads_63 (ofInt_nI 0) ?_
    refine lv_istore (lv' := [(4, vI 0), (3, vI (85 + 4 * cix (X.2.2 d (5 + 2 * (X.2.2 d 4 - 1))) (X.2.2 d (6 + 2 * (X.2.2 d 4 - 1))) d)), (2, vI 1), (0, .ref (b 0)), (1, vI d)]) S.1 S.2.1 dX8_reads_64 hl (by decide) rfl (fun ls hl => ?_)
    exact k_X8_reads l D Z b X sv sd sm th tl pl ro nu t r d hd hs hp S hr hlocks _ 0 (cix (X.2.2 d (5 + 2 * (X.2.2 d 4 - 1))) (X.2.2 d (6 + 2 * (X.2.2 d 4 - 1))) d) (by omega) (cix_lt (by omega) (by omega) hd) (by unfold rdc; rw [if_neg (by omega)]) (Nat.lt_succ_self _) _ _ _ (lv_sub hl [3, 4, 1, 0] rfl) (w.as (by rw [cpR_0, vX_self]))
