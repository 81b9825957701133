def kC (P Q : Prop) [Decidable P] [Decidable Q] : Nat := if P then (if Q then 0 else 2) else 1
theorem kC_1 {P Q : Prop} [Decidable P] [Decidable Q] (h : ¬ P) : kC P Q = 1 := if_neg h
theorem kC_2 {P Q : Prop} [Decidable P] [Decidable Q] (h : P) (h2 : ¬ Q) : kC P Q = 2 := by unfold kC; rw [if_pos h, if_neg h2]
theorem kC_0 {P Q : Prop} [Decidable P] [Decidable Q] (h : P) (h2 : Q) : kC P Q = 0 := by unfold kC; rw [if_pos h, if_pos h2]

theorem uc_uc {C : Nat → Nat → Nat} {i : Nat} {r q : Nat → Nat} : uc (uc C i r) i q = uc C i q := by
  funext k
  unfold uc
  split <;> rfl
theorem uc_at {C : Nat → Nat → Nat} {i : Nat} {r : Nat → Nat} : uc C i r i = r := if_pos rfl
def mNote (X : ST) (i n v : Nat) : ST := ((uc X.1.1 i (un (un (X.1.1 i) 0 n) 1 v), X.1.2), X.2)
def mEff (X : ST) (i f x : Nat) : ST := ((uc X.1.1 i (un (un (X.1.1 i) 2 f) 3 x), X.1.2), X.2)
def mOrd (X : ST) (i p : Nat) : ST := ((X.1.1, X.1.2.1, un X.1.2.2.1 i p, X.1.2.2.2 + bP (i = X.1.2.2.2)), X.2)
def mSho (X : ST) : ST := ((X.1.1, X.1.2.1, un X.1.2.2.1 (X.1.2.2.2 - 1) 0, X.1.2.2.2 - 1), X.2)

theorem hdS_X8_isCell : yX8_isCell.cls ≠ "java/lang/invoke/MethodHandle" ∧ yX8_isCell.cls ≠ "java/lang/invoke/VarHandle" ∧ (parseMethodDescriptor yX8_isCell.desc).map (fun d => d.parameters.length) = some 3 := by decide +kernel
theorem hdV_X8_throwing : yX8_throwing.cls = RX8 ∧ yX8_throwing.cls ≠ "java/lang/invoke/MethodHandle" ∧ yX8_throwing.cls ≠ "java/lang/invoke/VarHandle" ∧ (parseMethodDescriptor yX8_throwing.desc).map (fun d => d.parameters.length) = some 1 := by decide +kernel
theorem hdV_X8_save : yX8_save.cls = RX8 ∧ yX8_save.cls ≠ "java/lang/invoke/MethodHandle" ∧ yX8_save.cls ≠ "java/lang/invoke/VarHandle" ∧ (parseMethodDescriptor yX8_save.desc).map (fun d => d.parameters.length) = some 0 := by decide +kernel
theorem hn_X8_setNote_8 : ∀ w ∈ wsX80, w ∈ wsX8_setNote := by decide +kernel
theorem hdV_X8_fine : yX8_fine.cls = RX8 ∧ yX8_fine.cls ≠ "java/lang/invoke/MethodHandle" ∧ yX8_fine.cls ≠ "java/lang/invoke/VarHandle" ∧ (parseMethodDescriptor yX8_fine.desc).map (fun d => d.parameters.length) = some 1 := by decide +kernel
set_option maxRecDepth 100000 in
set_option maxHeartbeats 4000000 in
theorem c_X8_setNote (l : Launch) (D : va_G) (Z : Nat → ClassId) (b : Nat → Nat) (X : ST) (sv sd : Nat → Nat) (sm th tl pl ro nu : Nat) (t r : Nat → Nat) (xa xb xd xn xv : Int32) (hsm : sm ≤ 4) : Ci l yX8_setNote wsX8_setNote 3 67 D Z [.ref (b 0), .int xa, .int xb, .int xd, .int xn, .int xv] (mdM Z b X sv sd sm th tl pl ro nu t r) (ifz (kC (rgI 0 5 xa ∧ rgI 0 7 xb ∧ rgI 0 3 xd) (rgI 0 61 xn ∧ rgI 0 15 xv)) (nI (X.1.1 (cix (toN xa) (toN xb) (toN xd)) 0)) (nI 0)) (mdM Z b (ifz (kC (rgI 0 5 xa ∧ rgI 0 7 xb ∧ rgI 0 3 xd) (rgI 0 61 xn ∧ rgI 0 15 xv)) (mNote X (cix (toN xa) (toN xb) (toN xd)) (toN xn) (toN xv)) X) (ifz (kC (rgI 0 5 xa ∧ rgI 0 7 xb ∧ rgI 0 3 xd) (rgI 0 61 xn ∧ rgI 0 15 xv)) (svS sv sm X) sv) sd (ifz (kC (rgI 0 5 xa ∧ rgI 0 7 xb ∧ rgI 0 3 xd) (rgI 0 61 xn ∧ rgI 0 15 xv)) (svN sm + 1) sm) (kC (rgI 0 5 xa ∧ rgI 0 7 xb ∧ rgI 0 3 xd) (rgI 0 61 xn ∧ rgI 0 15 xv)) tl pl ro nu t r) := by
  refine ne_i (cc := cX8_setNote) (maxL := 8) (by decide +kernel) rfl (Nat.le_of_ble_eq_true rfl) (fun p e s m args below meth c A ls (S : CallFix p m c cX8_setNote 8 s args wsX8_setNote RX8) hr hlocks hl w => ?_)
  have hl : lv_has ls 8 [(0, .ref (b 0)), (1, .int xa), (2, .int xb), (3, .int xd), (4, .int xn), (5, .int xv)] := hl
  refine lv_iload_n S.1 S.2.1 dX8_setNote_0 rfl (lv_at hl 1 rfl) ?_
  refine lv_iload_n S.1 S.2.1 dX8_setNote_1 rfl (lv_at hl 2 rfl) ?_
  refine lv_iload_n S.1 S.2.1 dX8_setNote_2 rfl (lv_at hl 3 rfl) ?_
  refine nv_pSi (rest := []) S w hl.1 (c_X8_isCell l D Z xa xb xd ) gX8_setNote_X8_isCell rfl hdS_X8_isCell ⟨Nat.le_of_ble_eq_true rfl, Nat.le_of_ble_eq_true rfl⟩ rfl rfl (Nat.le_of_ble_eq_true rfl) ⟨Nat.zero_le _, Nat.zero_le _⟩ dX8_setNote_3 (fun H locs w => ?_)
  refine nv_if_neB S (tgt := 15) dX8_setNote_6 (by decide) (fun h_1 => ?_) (fun h_1 => ?_)
  · skip
    refine lv_iload S.1 S.2.1 dX8_setNote_15 (lv_at hl 4 rfl) ?_
    refine lv_i2l (v := xn.toInt64) S.1 S.2.1 dX8_setNote_17 rfl ?_
    refine lv_lconst (v := 0) S.1 S.2.1 dX8_setNote_18 rfl ?_
    refine lv_ldc2 (v := 61) S.1 S.2.1 S.2.2.2.1 (S.2.2.2.2 _ (by decide +kernel)) dX8_setNote_19 ?_
    refine nv_pSi (rest := []) S w hl.1 (c_X8_inI l D Z xn 0 61 (by omega) (by omega)) gX8_setNote_X8_in rfl hdS_X8_in ⟨Nat.le_of_ble_eq_true rfl, Nat.le_of_ble_eq_true rfl⟩ rfl rfl (Nat.le_of_ble_eq_true rfl) ⟨Nat.zero_le _, Nat.zero_le _⟩ dX8_setNote_22 (fun H locs w => ?_)
    refine nv_if_eqB S (tgt := 41) dX8_setNote_25 (by decide) (fun h_2 => ?_) (fun h_2 => ?_)
    · skip
      refine lv_aload_n S.1 S.2.1 dX8_setNote_41 rfl (lv_at hl 0 rfl) ?_
      refine lv_iconst (v := nI 2) S.1 S.2.1 dX8_setNote_42 (ofInt_nI 2) ?_
      refine nv_cVi (rest := []) (ws' := mdM Z b X sv sd sm 2 tl pl ro nu t r) S w hl.1 (c_X8_throwing l D Z b X sv sd sm th tl pl ro nu t r 2 ) [0, 1, 2, 3, 4, 5] rfl rfl rfl rfl gX8_setNote_X8_throwing rfl hdV_X8_throwing ⟨Nat.le_of_ble_eq_true rfl, Nat.le_of_ble_eq_true rfl⟩ (q0 := 0) rfl rfl rfl rfl (Nat.le_of_ble_eq_true rfl) ⟨Nat.zero_le _, Nat.zero_le _⟩ dX8_setNote_43 (fun H locs w => ?_)
      exact nv_iret S w hr hlocks rfl (by rw [kC_2 h_1 (fun z9 => h_2 z9.1)]; try rfl) (by rw [kC_2 h_1 (fun z9 => h_2 z9.1)]; try rfl) dX8_setNote_46
    · skip
      refine lv_iload S.1 S.2.1 dX8_setNote_28 (lv_at hl 5 rfl) ?_
      refine lv_i2l (v := xv.toInt64) S.1 S.2.1 dX8_setNote_30 rfl ?_
      refine lv_lconst (v := 0) S.1 S.2.1 dX8_setNote_31 rfl ?_
      refine lv_ldc2 (v := 15) S.1 S.2.1 S.2.2.2.1 (S.2.2.2.2 _ (by decide +kernel)) dX8_setNote_32 ?_
      refine nv_pSi (rest := []) S w hl.1 (c_X8_inI l D Z xv 0 15 (by omega) (by omega)) gX8_setNote_X8_in rfl hdS_X8_in ⟨Nat.le_of_ble_eq_true rfl, Nat.le_of_ble_eq_true rfl⟩ rfl rfl (Nat.le_of_ble_eq_true rfl) ⟨Nat.zero_le _, Nat.zero_le _⟩ dX8_setNote_35 (fun H locs w => ?_)
      refine nv_if_neB S (tgt := 47) dX8_setNote_38 (by decide) (fun h_3 => ?_) (fun h_3 => ?_)
      · skip
        obtain ⟨na, rfl, hna⟩ := rg_nat (by decide) (by decide) h_1.1
        have eqna : toN (nI na) = na := toN_nI (by omega)
        obtain ⟨nb, rfl, hnb⟩ := rg_nat (by decide) (by decide) h_1.2.1
        have eqnb : toN (nI nb) = nb := toN_nI (by omega)
        obtain ⟨nd, rfl, hnd⟩ := rg_nat (by decide) (by decide) h_1.2.2
        have eqnd : toN (nI nd) = nd := toN_nI (by omega)
        obtain ⟨nn, rfl, hnn⟩ := rg_nat (by decide) (by decide) h_2
        have eqnn : toN (nI nn) = nn := toN_nI (by omega)
        obtain ⟨nv, rfl, hnv⟩ := rg_nat (by decide) (by decide) h_3
        have eqnv : toN (nI nv) = nv := toN_nI (by omega)
        refine lv_aload_n S.1 S.2.1 dX8_setNote_47 rfl (lv_at hl 0 rfl) ?_
        refine nv_cVv (rest := []) (ws' := mdM Z b X (svS sv sm X) sd (svN sm + 1) th tl pl ro nu t r) S w hl.1 (c_X8_save l D Z b X sv sd sm th tl pl ro nu t r (by omega)) [0, 1, 2, 3, 4, 5] rfl rfl rfl rfl gX8_setNote_X8_save rfl hdV_X8_save ⟨Nat.le_of_ble_eq_true rfl, Nat.le_of_ble_eq_true rfl⟩ (q0 := 0) rfl rfl rfl rfl (Nat.le_of_ble_eq_true rfl) ⟨Nat.zero_le _, Nat.zero_le _⟩ dX8_setNote_48 (fun H locs w => ?_)
        refine lv_iload_n S.1 S.2.1 dX8_setNote_51 rfl (lv_at hl 1 rfl) ?_
        refine lv_iload_n S.1 S.2.1 dX8_setNote_52 rfl (lv_at hl 2 rfl) ?_
        refine lv_iload_n S.1 S.2.1 dX8_setNote_53 rfl (lv_at hl 3 rfl) ?_
        refine nv_pSi (rest := []) S w hl.1 (c_X8_cellAt l D Z na nb nd ) gX8_setNote_X8_cellAt rfl hdS_X8_cellAt ⟨Nat.le_of_ble_eq_true rfl, Nat.le_of_ble_eq_true rfl⟩ rfl rfl (Nat.le_of_ble_eq_true rfl) ⟨Nat.zero_le _, Nat.zero_le _⟩ dX8_setNote_54 (fun H locs w => ?_)
        refine lv_istore (lv' := [(6, vI (85 + 4 * cix na nb nd)), (0, .ref (b 0)), (1, vI na), (2, vI nb), (3, vI nd), (4, vI nn), (5, vI nv)]) S.1 S.2.1 dX8_setNote_57 hl (by decide) rfl (fun ls hl => ?_)
        have hcx : cix na nb nd < 192 := cix_lt (by omega) (by omega) (by omega)
        refine lv_aload_n S.1 S.2.1 dX8_setNote_59 rfl (lv_at hl 1 rfl) ?_
        refine nv_get S w (C := RX8) (T := TX8) (N := 11) hn_X8_setNote_8 0 rfl rfl 0 (by decide) (List.mem_of_getElem? (i := 3) rfl) (v := .ref (b 1)) rfl dX8_setNote_60 ?_
        refine lv_iload S.1 S.2.1 dX8_setNote_63 (lv_at hl 0 rfl) ?_
        refine lv_iconst (v := nI 0) S.1 S.2.1 dX8_setNote_65 (ofInt_nI 0) ?_
        refine nv_iadd S dX8_setNote_66 ?_
        refine nv_iald S w (i := ((85 + 4 * cix na nb nd) + 0)) (g := (enc X)) 1 rfl (by omega) (by decide) dX8_setNote_67 ?_
        refine W.eq (g2 := F0 m 68 ls [vI (X.1.1 (cix na nb nd) 0)]) (by rw [enc_c (by decide)]) ?_
        refine lv_istore (lv' := [(7, vI (X.1.1 (cix na nb nd) 0)), (6, vI (85 + 4 * cix na nb nd)), (0, .ref (b 0)), (1, vI na), (2, vI nb), (3, vI nd), (4, vI nn), (5, vI nv)]) S.1 S.2.1 dX8_setNote_68 hl (by decide) rfl (fun ls hl => ?_)
        refine lv_aload_n S.1 S.2.1 dX8_setNote_70 rfl (lv_at hl 2 rfl) ?_
        refine nv_get S w (C := RX8) (T := TX8) (N := 11) hn_X8_setNote_8 0 rfl rfl 0 (by decide) (List.mem_of_getElem? (i := 3) rfl) (v := .ref (b 1)) rfl dX8_setNote_71 ?_
        refine lv_iload S.1 S.2.1 dX8_setNote_74 (lv_at hl 1 rfl) ?_
        refine lv_iconst (v := nI 0) S.1 S.2.1 dX8_setNote_76 (ofInt_nI 0) ?_
        refine nv_iadd S dX8_setNote_77 ?_
        refine lv_iload S.1 S.2.1 dX8_setNote_78 (lv_at hl 6 rfl) ?_
        refine nv_iast S w (i := ((85 + 4 * cix na nb nd) + 0)) (x := nn) (g := (enc X)) 1 rfl (by omega) (by decide) (ws' := [(b 0, .inr (7, [.ref (b 1), .ref (b 2), .ref (b 3), vI (svN sm + 1), vI th, .ref (b 4), vI tl, vI pl, .ref (b 5), vI ro, vI nu])), (b 1, .inl (Z 0, 853, .inl (ar 853 (un (enc X) ((85 + 4 * cix na nb nd) + 0) nn)))), (b 2, .inl (Z 0, 3412, .inl (ar 3412 (svS sv sm X)))), (b 3, .inl (Z 0, 853, .inl (ar 853 sd))), (b 4, .inl (Z 0, 100, .inl (ar 100 t))), (b 5, .inl (Z 0, 128, .inl (ar 128 r)))]) rfl dX8_setNote_80 (fun H locs w => ?_)
        have w := w.as (ws' := mdM Z b ((uc X.1.1 (cix na nb nd) (un (X.1.1 (cix na nb nd)) 0 nn), X.1.2), X.2) (svS sv sm X) sd (svN sm + 1) th tl pl ro nu t r) (mdM_e (un_c (by decide)))
        refine lv_aload_n S.1 S.2.1 dX8_setNote_81 rfl (lv_at hl 2 rfl) ?_
        refine nv_get S w (C := RX8) (T := TX8) (N := 11) hn_X8_setNote_8 0 rfl rfl 0 (by decide) (List.mem_of_getElem? (i := 3) rfl) (v := .ref (b 1)) rfl dX8_setNote_82 ?_
        refine lv_iload S.1 S.2.1 dX8_setNote_85 (lv_at hl 1 rfl) ?_
        refine lv_iconst (v := nI 1) S.1 S.2.1 dX8_setNote_87 (ofInt_nI 1) ?_
        refine nv_iadd S dX8_setNote_88 ?_
        refine lv_iload S.1 S.2.1 dX8_setNote_89 (lv_at hl 7 rfl) ?_
        refine nv_iast S w (i := ((85 + 4 * cix na nb nd) + 1)) (x := nv) (g := (enc ((uc X.1.1 (cix na nb nd) (un (X.1.1 (cix na nb nd)) 0 nn), X.1.2), X.2))) 1 rfl (by omega) (by decide) (ws' := [(b 0, .inr (7, [.ref (b 1), .ref (b 2), .ref (b 3), vI (svN sm + 1), vI th, .ref (b 4), vI tl, vI pl, .ref (b 5), vI ro, vI nu])), (b 1, .inl (Z 0, 853, .inl (ar 853 (un (enc ((uc X.1.1 (cix na nb nd) (un (X.1.1 (cix na nb nd)) 0 nn), X.1.2), X.2)) ((85 + 4 * cix na nb nd) + 1) nv)))), (b 2, .inl (Z 0, 3412, .inl (ar 3412 (svS sv sm X)))), (b 3, .inl (Z 0, 853, .inl (ar 853 sd))), (b 4, .inl (Z 0, 100, .inl (ar 100 t))), (b 5, .inl (Z 0, 128, .inl (ar 128 r)))]) rfl dX8_setNote_91 (fun H locs w => ?_)
        have w := w.as (ws' := mdM Z b (mNote X (cix na nb nd) nn nv) (svS sv sm X) sd (svN sm + 1) th tl pl ro nu t r) (mdM_e (by rw [un_c (by decide)]; unfold mNote; dsimp only; rw [uc_at, uc_uc]))
        refine lv_aload_n S.1 S.2.1 dX8_setNote_92 rfl (lv_at hl 2 rfl) ?_
        refine lv_iload S.1 S.2.1 dX8_setNote_93 (lv_at hl 0 rfl) ?_
        refine nv_cVi (rest := []) (ws' := mdM Z b (mNote X (cix na nb nd) nn nv) (svS sv sm X) sd (svN sm + 1) 0 tl pl ro nu t r) S w hl.1 (c_X8_fine l D Z b (mNote X (cix na nb nd) nn nv) (svS sv sm X) sd (svN sm + 1) th tl pl ro nu t r (nI (X.1.1 (cix na nb nd) 0)) ) [0, 1, 2, 3, 4, 5] rfl rfl rfl rfl gX8_setNote_X8_fine rfl hdV_X8_fine ⟨Nat.le_of_ble_eq_true rfl, Nat.le_of_ble_eq_true rfl⟩ (q0 := 0) rfl rfl rfl rfl (Nat.le_of_ble_eq_true rfl) ⟨Nat.zero_le _, Nat.zero_le _⟩ dX8_setNote_95 (fun H locs w => ?_)
        exact nv_iret S w hr hlocks rfl (by rw [kC_0 h_1 ⟨h_2, h_3⟩]; (try simp only [eqna, eqnb, eqnd, eqnn, eqnv]); first | done | rfl | (unfold ifz; rw [if_pos rfl])) (by rw [kC_0 h_1 ⟨h_2, h_3⟩]; (try simp only [eqna, eqnb, eqnd, eqnn, eqnv]); first | done | rfl | (simp only [ifz, eq_self_iff_true, if_true])) dX8_setNote_98
      · skip
        refine lv_aload_n S.1 S.2.1 dX8_setNote_41 rfl (lv_at hl 0 rfl) ?_
        refine lv_iconst (v := nI 2) S.1 S.2.1 dX8_setNote_42 (ofInt_nI 2) ?_
        refine nv_cVi (rest := []) (ws' := mdM Z b X sv sd sm 2 tl pl ro nu t r) S w hl.1 (c_X8_throwing l D Z b X sv sd sm th tl pl ro nu t r 2 ) [0, 1, 2, 3, 4, 5] rfl rfl rfl rfl gX8_setNote_X8_throwing rfl hdV_X8_throwing ⟨Nat.le_of_ble_eq_true rfl, Nat.le_of_ble_eq_true rfl⟩ (q0 := 0) rfl rfl rfl rfl (Nat.le_of_ble_eq_true rfl) ⟨Nat.zero_le _, Nat.zero_le _⟩ dX8_setNote_43 (fun H locs w => ?_)
        exact nv_iret S w hr hlocks rfl (by rw [kC_2 h_1 (fun z9 => h_3 z9.2)]; try rfl) (by rw [kC_2 h_1 (fun z9 => h_3 z9.2)]; try rfl) dX8_setNote_46
  · skip
    refine lv_aload_n S.1 S.2.1 dX8_setNote_9 rfl (lv_at hl 0 rfl) ?_
    refine lv_iconst (v := nI 1) S.1 S.2.1 dX8_setNote_10 (ofInt_nI 1) ?_
    refine nv_cVi (rest := []) (ws' := mdM Z b X sv sd sm 1 tl pl ro nu t r) S w hl.1 (c_X8_throwing l D Z b X sv sd sm th tl pl ro nu t r 1 ) [0, 1, 2, 3, 4, 5] rfl rfl rfl rfl gX8_setNote_X8_throwing rfl hdV_X8_throwing ⟨Nat.le_of_ble_eq_true rfl, Nat.le_of_ble_eq_true rfl⟩ (q0 := 0) rfl rfl rfl rfl (Nat.le_of_ble_eq_true rfl) ⟨Nat.zero_le _, Nat.zero_le _⟩ dX8_setNote_11 (fun H locs w => ?_)
    exact nv_iret S w hr hlocks rfl (by rw [kC_1 h_1]; try rfl) (by rw [kC_1 h_1]; try rfl) dX8_setNote_14

theorem hn_X8_setEffect_8 : ∀ w ∈ wsX80, w ∈ wsX8_setEffect := by decide +kernel
set_option maxRecDepth 100000 in
set_option maxHeartbeats 4000000 in
theorem c_X8_setEffect (l : Launch) (D : va_G) (Z : Nat → ClassId) (b : Nat → Nat) (X : ST) (sv sd : Nat → Nat) (sm th tl pl ro nu : Nat) (t r : Nat → Nat) (xa xb xd xn xv : Int32) (hsm : sm ≤ 4) : Ci l yX8_setEffect wsX8_setEffect 3 67 D Z [.ref (b 0), .int xa, .int xb, .int xd, .int xn, .int xv] (mdM Z b X sv sd sm th tl pl ro nu t r) (ifz (kC (rgI 0 5 xa ∧ rgI 0 7 xb ∧ rgI 0 3 xd) (rgI 0 7 xn ∧ rgI 0 9 xv)) (nI (X.1.1 (cix (toN xa) (toN xb) (toN xd)) 2)) (nI 0)) (mdM Z b (ifz (kC (rgI 0 5 xa ∧ rgI 0 7 xb ∧ rgI 0 3 xd) (rgI 0 7 xn ∧ rgI 0 9 xv)) (mEff X (cix (toN xa) (toN xb) (toN xd)) (toN xn) (toN xv)) X) (ifz (kC (rgI 0 5 xa ∧ rgI 0 7 xb ∧ rgI 0 3 xd) (rgI 0 7 xn ∧ rgI 0 9 xv)) (svS sv sm X) sv) sd (ifz (kC (rgI 0 5 xa ∧ rgI 0 7 xb ∧ rgI 0 3 xd) (rgI 0 7 xn ∧ rgI 0 9 xv)) (svN sm + 1) sm) (kC (rgI 0 5 xa ∧ rgI 0 7 xb ∧ rgI 0 3 xd) (rgI 0 7 xn ∧ rgI 0 9 xv)) tl pl ro nu t r) := by
  refine ne_i (cc := cX8_setEffect) (maxL := 8) (by decide +kernel) rfl (Nat.le_of_ble_eq_true rfl) (fun p e s m args below meth c A ls (S : CallFix p m c cX8_setEffect 8 s args wsX8_setEffect RX8) hr hlocks hl w => ?_)
  have hl : lv_has ls 8 [(0, .ref (b 0)), (1, .int xa), (2, .int xb), (3, .int xd), (4, .int xn), (5, .int xv)] := hl
  refine lv_iload_n S.1 S.2.1 dX8_setEffect_0 rfl (lv_at hl 1 rfl) ?_
  refine lv_iload_n S.1 S.2.1 dX8_setEffect_1 rfl (lv_at hl 2 rfl) ?_
  refine lv_iload_n S.1 S.2.1 dX8_setEffect_2 rfl (lv_at hl 3 rfl) ?_
  refine nv_pSi (rest := []) S w hl.1 (c_X8_isCell l D Z xa xb xd ) gX8_setEffect_X8_isCell rfl hdS_X8_isCell ⟨Nat.le_of_ble_eq_true rfl, Nat.le_of_ble_eq_true rfl⟩ rfl rfl (Nat.le_of_ble_eq_true rfl) ⟨Nat.zero_le _, Nat.zero_le _⟩ dX8_setEffect_3 (fun H locs w => ?_)
  refine nv_if_neB S (tgt := 15) dX8_setEffect_6 (by decide) (fun h_1 => ?_) (fun h_1 => ?_)
  · skip
    refine lv_iload S.1 S.2.1 dX8_setEffect_15 (lv_at hl 4 rfl) ?_
    refine lv_i2l (v := xn.toInt64) S.1 S.2.1 dX8_setEffect_17 rfl ?_
    refine lv_lconst (v := 0) S.1 S.2.1 dX8_setEffect_18 rfl ?_
    refine lv_ldc2 (v := 7) S.1 S.2.1 S.2.2.2.1 (S.2.2.2.2 _ (by decide +kernel)) dX8_setEffect_19 ?_
    refine nv_pSi (rest := []) S w hl.1 (c_X8_inI l D Z xn 0 7 (by omega) (by omega)) gX8_setEffect_X8_in rfl hdS_X8_in ⟨Nat.le_of_ble_eq_true rfl, Nat.le_of_ble_eq_true rfl⟩ rfl rfl (Nat.le_of_ble_eq_true rfl) ⟨Nat.zero_le _, Nat.zero_le _⟩ dX8_setEffect_22 (fun H locs w => ?_)
    refine nv_if_eqB S (tgt := 41) dX8_setEffect_25 (by decide) (fun h_2 => ?_) (fun h_2 => ?_)
    · skip
      refine lv_aload_n S.1 S.2.1 dX8_setEffect_41 rfl (lv_at hl 0 rfl) ?_
      refine lv_iconst (v := nI 2) S.1 S.2.1 dX8_setEffect_42 (ofInt_nI 2) ?_
      refine nv_cVi (rest := []) (ws' := mdM Z b X sv sd sm 2 tl pl ro nu t r) S w hl.1 (c_X8_throwing l D Z b X sv sd sm th tl pl ro nu t r 2 ) [0, 1, 2, 3, 4, 5] rfl rfl rfl rfl gX8_setEffect_X8_throwing rfl hdV_X8_throwing ⟨Nat.le_of_ble_eq_true rfl, Nat.le_of_ble_eq_true rfl⟩ (q0 := 0) rfl rfl rfl rfl (Nat.le_of_ble_eq_true rfl) ⟨Nat.zero_le _, Nat.zero_le _⟩ dX8_setEffect_43 (fun H locs w => ?_)
      exact nv_iret S w hr hlocks rfl (by rw [kC_2 h_1 (fun z9 => h_2 z9.1)]; try rfl) (by rw [kC_2 h_1 (fun z9 => h_2 z9.1)]; try rfl) dX8_setEffect_46
    · skip
      refine lv_iload S.1 S.2.1 dX8_setEffect_28 (lv_at hl 5 rfl) ?_
      refine lv_i2l (v := xv.toInt64) S.1 S.2.1 dX8_setEffect_30 rfl ?_
      refine lv_lconst (v := 0) S.1 S.2.1 dX8_setEffect_31 rfl ?_
      refine lv_ldc2 (v := 9) S.1 S.2.1 S.2.2.2.1 (S.2.2.2.2 _ (by decide +kernel)) dX8_setEffect_32 ?_
      refine nv_pSi (rest := []) S w hl.1 (c_X8_inI l D Z xv 0 9 (by omega) (by omega)) gX8_setEffect_X8_in rfl hdS_X8_in ⟨Nat.le_of_ble_eq_true rfl, Nat.le_of_ble_eq_true rfl⟩ rfl rfl (Nat.le_of_ble_eq_true rfl) ⟨Nat.zero_le _, Nat.zero_le _⟩ dX8_setEffect_35 (fun H locs w => ?_)
      refine nv_if_neB S (tgt := 47) dX8_setEffect_38 (by decide) (fun h_3 => ?_) (fun h_3 => ?_)
      · skip
        obtain ⟨na, rfl, hna⟩ := rg_nat (by decide) (by decide) h_1.1
        have eqna : toN (nI na) = na := toN_nI (by omega)
        obtain ⟨nb, rfl, hnb⟩ := rg_nat (by decide) (by decide) h_1.2.1
        have eqnb : toN (nI nb) = nb := toN_nI (by omega)
        obtain ⟨nd, rfl, hnd⟩ := rg_nat (by decide) (by decide) h_1.2.2
        have eqnd : toN (nI nd) = nd := toN_nI (by omega)
        obtain ⟨nn, rfl, hnn⟩ := rg_nat (by decide) (by decide) h_2
        have eqnn : toN (nI nn) = nn := toN_nI (by omega)
        obtain ⟨nv, rfl, hnv⟩ := rg_nat (by decide) (by decide) h_3
        have eqnv : toN (nI nv) = nv := toN_nI (by omega)
        refine lv_aload_n S.1 S.2.1 dX8_setEffect_47 rfl (lv_at hl 0 rfl) ?_
        refine nv_cVv (rest := []) (ws' := mdM Z b X (svS sv sm X) sd (svN sm + 1) th tl pl ro nu t r) S w hl.1 (c_X8_save l D Z b X sv sd sm th tl pl ro nu t r (by omega)) [0, 1, 2, 3, 4, 5] rfl rfl rfl rfl gX8_setEffect_X8_save rfl hdV_X8_save ⟨Nat.le_of_ble_eq_true rfl, Nat.le_of_ble_eq_true rfl⟩ (q0 := 0) rfl rfl rfl rfl (Nat.le_of_ble_eq_true rfl) ⟨Nat.zero_le _, Nat.zero_le _⟩ dX8_setEffect_48 (fun H locs w => ?_)
        refine lv_iload_n S.1 S.2.1 dX8_setEffect_51 rfl (lv_at hl 1 rfl) ?_
        refine lv_iload_n S.1 S.2.1 dX8_setEffect_52 rfl (lv_at hl 2 rfl) ?_
        refine lv_iload_n S.1 S.2.1 dX8_setEffect_53 rfl (lv_at hl 3 rfl) ?_
        refine nv_pSi (rest := []) S w hl.1 (c_X8_cellAt l D Z na nb nd ) gX8_setEffect_X8_cellAt rfl hdS_X8_cellAt ⟨Nat.le_of_ble_eq_true rfl, Nat.le_of_ble_eq_true rfl⟩ rfl rfl (Nat.le_of_ble_eq_true rfl) ⟨Nat.zero_le _, Nat.zero_le _⟩ dX8_setEffect_54 (fun H locs w => ?_)
        refine lv_istore (lv' := [(6, vI (85 + 4 * cix na nb nd)), (0, .ref (b 0)), (1, vI na), (2, vI nb), (3, vI nd), (4, vI nn), (5, vI nv)]) S.1 S.2.1 dX8_setEffect_57 hl (by decide) rfl (fun ls hl => ?_)
        have hcx : cix na nb nd < 192 := cix_lt (by omega) (by omega) (by omega)
        refine lv_aload_n S.1 S.2.1 dX8_setEffect_59 rfl (lv_at hl 1 rfl) ?_
        refine nv_get S w (C := RX8) (T := TX8) (N := 11) hn_X8_setEffect_8 0 rfl rfl 0 (by decide) (List.mem_of_getElem? (i := 3) rfl) (v := .ref (b 1)) rfl dX8_setEffect_60 ?_
        refine lv_iload S.1 S.2.1 dX8_setEffect_63 (lv_at hl 0 rfl) ?_
        refine lv_iconst (v := nI 2) S.1 S.2.1 dX8_setEffect_65 (ofInt_nI 2) ?_
        refine nv_iadd S dX8_setEffect_66 ?_
        refine nv_iald S w (i := ((85 + 4 * cix na nb nd) + 2)) (g := (enc X)) 1 rfl (by omega) (by decide) dX8_setEffect_67 ?_
        refine W.eq (g2 := F0 m 68 ls [vI (X.1.1 (cix na nb nd) 2)]) (by rw [enc_c (by decide)]) ?_
        refine lv_istore (lv' := [(7, vI (X.1.1 (cix na nb nd) 2)), (6, vI (85 + 4 * cix na nb nd)), (0, .ref (b 0)), (1, vI na), (2, vI nb), (3, vI nd), (4, vI nn), (5, vI nv)]) S.1 S.2.1 dX8_setEffect_68 hl (by decide) rfl (fun ls hl => ?_)
        refine lv_aload_n S.1 S.2.1 dX8_setEffect_70 rfl (lv_at hl 2 rfl) ?_
        refine nv_get S w (C := RX8) (T := TX8) (N := 11) hn_X8_setEffect_8 0 rfl rfl 0 (by decide) (List.mem_of_getElem? (i := 3) rfl) (v := .ref (b 1)) rfl dX8_setEffect_71 ?_
        refine lv_iload S.1 S.2.1 dX8_setEffect_74 (lv_at hl 1 rfl) ?_
        refine lv_iconst (v := nI 2) S.1 S.2.1 dX8_setEffect_76 (ofInt_nI 2) ?_
        refine nv_iadd S dX8_setEffect_77 ?_
        refine lv_iload S.1 S.2.1 dX8_setEffect_78 (lv_at hl 6 rfl) ?_
        refine nv_iast S w (i := ((85 + 4 * cix na nb nd) + 2)) (x := nn) (g := (enc X)) 1 rfl (by omega) (by decide) (ws' := [(b 0, .inr (7, [.ref (b 1), .ref (b 2), .ref (b 3), vI (svN sm + 1), vI th, .ref (b 4), vI tl, vI pl, .ref (b 5), vI ro, vI nu])), (b 1, .inl (Z 0, 853, .inl (ar 853 (un (enc X) ((85 + 4 * cix na nb nd) + 2) nn)))), (b 2, .inl (Z 0, 3412, .inl (ar 3412 (svS sv sm X)))), (b 3, .inl (Z 0, 853, .inl (ar 853 sd))), (b 4, .inl (Z 0, 100, .inl (ar 100 t))), (b 5, .inl (Z 0, 128, .inl (ar 128 r)))]) rfl dX8_setEffect_80 (fun H locs w => ?_)
        have w := w.as (ws' := mdM Z b ((uc X.1.1 (cix na nb nd) (un (X.1.1 (cix na nb nd)) 2 nn), X.1.2), X.2) (svS sv sm X) sd (svN sm + 1) th tl pl ro nu t r) (mdM_e (un_c (by decide)))
        refine lv_aload_n S.1 S.2.1 dX8_setEffect_81 rfl (lv_at hl 2 rfl) ?_
        refine nv_get S w (C := RX8) (T := TX8) (N := 11) hn_X8_setEffect_8 0 rfl rfl 0 (by decide) (List.mem_of_getElem? (i := 3) rfl) (v := .ref (b 1)) rfl dX8_setEffect_82 ?_
        refine lv_iload S.1 S.2.1 dX8_setEffect_85 (lv_at hl 1 rfl) ?_
        refine lv_iconst (v := nI 3) S.1 S.2.1 dX8_setEffect_87 (ofInt_nI 3) ?_
        refine nv_iadd S dX8_setEffect_88 ?_
        refine lv_iload S.1 S.2.1 dX8_setEffect_89 (lv_at hl 7 rfl) ?_
        refine nv_iast S w (i := ((85 + 4 * cix na nb nd) + 3)) (x := nv) (g := (enc ((uc X.1.1 (cix na nb nd) (un (X.1.1 (cix na nb nd)) 2 nn), X.1.2), X.2))) 1 rfl (by omega) (by decide) (ws' := [(b 0, .inr (7, [.ref (b 1), .ref (b 2), .ref (b 3), vI (svN sm + 1), vI th, .ref (b 4), vI tl, vI pl, .ref (b 5), vI ro, vI nu])), (b 1, .inl (Z 0, 853, .inl (ar 853 (un (enc ((uc X.1.1 (cix na nb nd) (un (X.1.1 (cix na nb nd)) 2 nn), X.1.2), X.2)) ((85 + 4 * cix na nb nd) + 3) nv)))), (b 2, .inl (Z 0, 3412, .inl (ar 3412 (svS sv sm X)))), (b 3, .inl (Z 0, 853, .inl (ar 853 sd))), (b 4, .inl (Z 0, 100, .inl (ar 100 t))), (b 5, .inl (Z 0, 128, .inl (ar 128 r)))]) rfl dX8_setEffect_91 (fun H locs w => ?_)
        have w := w.as (ws' := mdM Z b (mEff X (cix na nb nd) nn nv) (svS sv sm X) sd (svN sm + 1) th tl pl ro nu t r) (mdM_e (by rw [un_c (by decide)]; unfold mEff; dsimp only; rw [uc_at, uc_uc]))
        refine lv_aload_n S.1 S.2.1 dX8_setEffect_92 rfl (lv_at hl 2 rfl) ?_
        refine lv_iload S.1 S.2.1 dX8_setEffect_93 (lv_at hl 0 rfl) ?_
        refine nv_cVi (rest := []) (ws' := mdM Z b (mEff X (cix na nb nd) nn nv) (svS sv sm X) sd (svN sm + 1) 0 tl pl ro nu t r) S w hl.1 (c_X8_fine l D Z b (mEff X (cix na nb nd) nn nv) (svS sv sm X) sd (svN sm + 1) th tl pl ro nu t r (nI (X.1.1 (cix na nb nd) 2)) ) [0, 1, 2, 3, 4, 5] rfl rfl rfl rfl gX8_setEffect_X8_fine rfl hdV_X8_fine ⟨Nat.le_of_ble_eq_true rfl, Nat.le_of_ble_eq_true rfl⟩ (q0 := 0) rfl rfl rfl rfl (Nat.le_of_ble_eq_true rfl) ⟨Nat.zero_le _, Nat.zero_le _⟩ dX8_setEffect_95 (fun H locs w => ?_)
        exact nv_iret S w hr hlocks rfl (by rw [kC_0 h_1 ⟨h_2, h_3⟩]; (try simp only [eqna, eqnb, eqnd, eqnn, eqnv]); first | done | rfl | (unfold ifz; rw [if_pos rfl])) (by rw [kC_0 h_1 ⟨h_2, h_3⟩]; (try simp only [eqna, eqnb, eqnd, eqnn, eqnv]); first | done | rfl | (simp only [ifz, eq_self_iff_true, if_true])) dX8_setEffect_98
      · skip
        refine lv_aload_n S.1 S.2.1 dX8_setEffect_41 rfl (lv_at hl 0 rfl) ?_
        refine lv_iconst (v := nI 2) S.1 S.2.1 dX8_setEffect_42 (ofInt_nI 2) ?_
        refine nv_cVi (rest := []) (ws' := mdM Z b X sv sd sm 2 tl pl ro nu t r) S w hl.1 (c_X8_throwing l D Z b X sv sd sm th tl pl ro nu t r 2 ) [0, 1, 2, 3, 4, 5] rfl rfl rfl rfl gX8_setEffect_X8_throwing rfl hdV_X8_throwing ⟨Nat.le_of_ble_eq_true rfl, Nat.le_of_ble_eq_true rfl⟩ (q0 := 0) rfl rfl rfl rfl (Nat.le_of_ble_eq_true rfl) ⟨Nat.zero_le _, Nat.zero_le _⟩ dX8_setEffect_43 (fun H locs w => ?_)
        exact nv_iret S w hr hlocks rfl (by rw [kC_2 h_1 (fun z9 => h_3 z9.2)]; try rfl) (by rw [kC_2 h_1 (fun z9 => h_3 z9.2)]; try rfl) dX8_setEffect_46
  · skip
    refine lv_aload_n S.1 S.2.1 dX8_setEffect_9 rfl (lv_at hl 0 rfl) ?_
    refine lv_iconst (v := nI 1) S.1 S.2.1 dX8_setEffect_10 (ofInt_nI 1) ?_
    refine nv_cVi (rest := []) (ws' := mdM Z b X sv sd sm 1 tl pl ro nu t r) S w hl.1 (c_X8_throwing l D Z b X sv sd sm th tl pl ro nu t r 1 ) [0, 1, 2, 3, 4, 5] rfl rfl rfl rfl gX8_setEffect_X8_throwing rfl hdV_X8_throwing ⟨Nat.le_of_ble_eq_true rfl, Nat.le_of_ble_eq_true rfl⟩ (q0 := 0) rfl rfl rfl rfl (Nat.le_of_ble_eq_true rfl) ⟨Nat.zero_le _, Nat.zero_le _⟩ dX8_setEffect_11 (fun H locs w => ?_)
    exact nv_iret S w hr hlocks rfl (by rw [kC_1 h_1]; try rfl) (by rw [kC_1 h_1]; try rfl) dX8_setEffect_14

theorem hn_X8_setRows_8 : ∀ w ∈ wsX80, w ∈ wsX8_setRows := by decide +kernel
set_option maxRecDepth 100000 in
set_option maxHeartbeats 4000000 in
theorem c_X8_setRows (l : Launch) (D : va_G) (Z : Nat → ClassId) (b : Nat → Nat) (X : ST) (sv sd : Nat → Nat) (sm th tl pl ro nu : Nat) (t r : Nat → Nat) (xa xn : Int32) (hsm : sm ≤ 4) : Ci l yX8_setRows wsX8_setRows 2 45 D Z [.ref (b 0), .int xa, .int xn] (mdM Z b X sv sd sm th tl pl ro nu t r) (ifz (kC (rgI 0 5 xa) (rgI 1 8 xn)) (nI (X.1.2.1 (toN xa))) (nI 0)) (mdM Z b (ifz (kC (rgI 0 5 xa) (rgI 1 8 xn)) (stRows X (toN xa) (toN xn)) X) (ifz (kC (rgI 0 5 xa) (rgI 1 8 xn)) (svS sv sm X) sv) sd (ifz (kC (rgI 0 5 xa) (rgI 1 8 xn)) (svN sm + 1) sm) (kC (rgI 0 5 xa) (rgI 1 8 xn)) tl pl ro nu t r) := by
  refine ne_i (cc := cX8_setRows) (maxL := 4) (by decide +kernel) rfl (Nat.le_of_ble_eq_true rfl) (fun p e s m args below meth c A ls (S : CallFix p m c cX8_setRows 4 s args wsX8_setRows RX8) hr hlocks hl w => ?_)
  have hl : lv_has ls 4 [(0, .ref (b 0)), (1, .int xa), (2, .int xn)] := hl
  refine lv_iload_n S.1 S.2.1 dX8_setRows_0 rfl (lv_at hl 1 rfl) ?_
  refine nv_pSi (rest := []) S w hl.1 (c_X8_isPattern l D Z xa ) gX8_setRows_X8_isPattern rfl hdS_X8_isPattern ⟨Nat.le_of_ble_eq_true rfl, Nat.le_of_ble_eq_true rfl⟩ rfl rfl (Nat.le_of_ble_eq_true rfl) ⟨Nat.zero_le _, Nat.zero_le _⟩ dX8_setRows_1 (fun H locs w => ?_)
  refine nv_if_neB S (tgt := 13) dX8_setRows_4 (by decide) (fun h_1 => ?_) (fun h_1 => ?_)
  · skip
    refine lv_iload_n S.1 S.2.1 dX8_setRows_13 rfl (lv_at hl 2 rfl) ?_
    refine lv_i2l (v := xn.toInt64) S.1 S.2.1 dX8_setRows_14 rfl ?_
    refine lv_lconst (v := 1) S.1 S.2.1 dX8_setRows_15 rfl ?_
    refine lv_ldc2 (v := 8) S.1 S.2.1 S.2.2.2.1 (S.2.2.2.2 _ (by decide +kernel)) dX8_setRows_16 ?_
    refine nv_pSi (rest := []) S w hl.1 (c_X8_inI l D Z xn 1 8 (by omega) (by omega)) gX8_setRows_X8_in rfl hdS_X8_in ⟨Nat.le_of_ble_eq_true rfl, Nat.le_of_ble_eq_true rfl⟩ rfl rfl (Nat.le_of_ble_eq_true rfl) ⟨Nat.zero_le _, Nat.zero_le _⟩ dX8_setRows_19 (fun H locs w => ?_)
    refine nv_if_neB S (tgt := 31) dX8_setRows_22 (by decide) (fun h_2 => ?_) (fun h_2 => ?_)
    · skip
      obtain ⟨na, rfl, hna⟩ := rg_nat (by decide) (by decide) h_1
      have eqna : toN (nI na) = na := toN_nI (by omega)
      obtain ⟨nn, rfl, hnn⟩ := rg_nat (by decide) (by decide) h_2
      have eqnn : toN (nI nn) = nn := toN_nI (by omega)
      refine lv_aload_n S.1 S.2.1 dX8_setRows_31 rfl (lv_at hl 0 rfl) ?_
      refine nv_cVv (rest := []) (ws' := mdM Z b X (svS sv sm X) sd (svN sm + 1) th tl pl ro nu t r) S w hl.1 (c_X8_save l D Z b X sv sd sm th tl pl ro nu t r (by omega)) [0, 1, 2, 3, 4, 5] rfl rfl rfl rfl gX8_setRows_X8_save rfl hdV_X8_save ⟨Nat.le_of_ble_eq_true rfl, Nat.le_of_ble_eq_true rfl⟩ (q0 := 0) rfl rfl rfl rfl (Nat.le_of_ble_eq_true rfl) ⟨Nat.zero_le _, Nat.zero_le _⟩ dX8_setRows_32 (fun H locs w => ?_)
      refine lv_aload_n S.1 S.2.1 dX8_setRows_35 rfl (lv_at hl 0 rfl) ?_
      refine nv_get S w (C := RX8) (T := TX8) (N := 11) hn_X8_setRows_8 0 rfl rfl 0 (by decide) (List.mem_of_getElem? (i := 2) rfl) (v := .ref (b 1)) rfl dX8_setRows_36 ?_
      refine lv_bipush (v := nI 15) S.1 S.2.1 dX8_setRows_39 (by decide +kernel) ?_
      refine lv_iload_n S.1 S.2.1 dX8_setRows_41 rfl (lv_at hl 1 rfl) ?_
      refine nv_iadd S dX8_setRows_42 ?_
      refine nv_iald S w (i := (15 + na)) (g := (enc X)) 1 rfl (by omega) (by decide) dX8_setRows_43 ?_
      refine W.eq (g2 := F0 m 44 ls [vI (X.1.2.1 na)]) (by rw [enc_r (by omega)]) ?_
      refine lv_istore_n (lv' := [(3, vI (X.1.2.1 na)), (0, .ref (b 0)), (1, vI na), (2, vI nn)]) S.1 S.2.1 dX8_setRows_44 rfl hl (by decide) rfl (fun ls hl => ?_)
      refine lv_aload_n S.1 S.2.1 dX8_setRows_45 rfl (lv_at hl 1 rfl) ?_
      refine nv_get S w (C := RX8) (T := TX8) (N := 11) hn_X8_setRows_8 0 rfl rfl 0 (by decide) (List.mem_of_getElem? (i := 2) rfl) (v := .ref (b 1)) rfl dX8_setRows_46 ?_
      refine lv_bipush (v := nI 15) S.1 S.2.1 dX8_setRows_49 (by decide +kernel) ?_
      refine lv_iload_n S.1 S.2.1 dX8_setRows_51 rfl (lv_at hl 2 rfl) ?_
      refine nv_iadd S dX8_setRows_52 ?_
      refine lv_iload_n S.1 S.2.1 dX8_setRows_53 rfl (lv_at hl 3 rfl) ?_
      refine nv_iast S w (i := (15 + na)) (x := nn) (g := (enc X)) 1 rfl (by omega) (by decide) (ws' := [(b 0, .inr (7, [.ref (b 1), .ref (b 2), .ref (b 3), vI (svN sm + 1), vI th, .ref (b 4), vI tl, vI pl, .ref (b 5), vI ro, vI nu])), (b 1, .inl (Z 0, 853, .inl (ar 853 (un (enc X) (15 + na) nn)))), (b 2, .inl (Z 0, 3412, .inl (ar 3412 (svS sv sm X)))), (b 3, .inl (Z 0, 853, .inl (ar 853 sd))), (b 4, .inl (Z 0, 100, .inl (ar 100 t))), (b 5, .inl (Z 0, 128, .inl (ar 128 r)))]) rfl dX8_setRows_54 (fun H locs w => ?_)
      have w := w.as (ws' := mdM Z b (stRows X na nn) (svS sv sm X) sd (svN sm + 1) th tl pl ro nu t r) (mdM_e (un_r (by omega)))
      refine lv_aload_n S.1 S.2.1 dX8_setRows_55 rfl (lv_at hl 1 rfl) ?_
      refine lv_iload_n S.1 S.2.1 dX8_setRows_56 rfl (lv_at hl 0 rfl) ?_
      refine nv_cVi (rest := []) (ws' := mdM Z b (stRows X na nn) (svS sv sm X) sd (svN sm + 1) 0 tl pl ro nu t r) S w hl.1 (c_X8_fine l D Z b (stRows X na nn) (svS sv sm X) sd (svN sm + 1) th tl pl ro nu t r (nI (X.1.2.1 na)) ) [0, 1, 2, 3, 4, 5] rfl rfl rfl rfl gX8_setRows_X8_fine rfl hdV_X8_fine ⟨Nat.le_of_ble_eq_true rfl, Nat.le_of_ble_eq_true rfl⟩ (q0 := 0) rfl rfl rfl rfl (Nat.le_of_ble_eq_true rfl) ⟨Nat.zero_le _, Nat.zero_le _⟩ dX8_setRows_57 (fun H locs w => ?_)
      exact nv_iret S w hr hlocks rfl (by rw [kC_0 h_1 h_2]; (try simp only [eqna, eqnn]); first | done | rfl | (unfold ifz; rw [if_pos rfl])) (by rw [kC_0 h_1 h_2]; (try simp only [eqna, eqnn]); first | done | rfl | (simp only [ifz, eq_self_iff_true, if_true])) dX8_setRows_60
    · skip
      refine lv_aload_n S.1 S.2.1 dX8_setRows_25 rfl (lv_at hl 0 rfl) ?_
      refine lv_iconst (v := nI 2) S.1 S.2.1 dX8_setRows_26 (ofInt_nI 2) ?_
      refine nv_cVi (rest := []) (ws' := mdM Z b X sv sd sm 2 tl pl ro nu t r) S w hl.1 (c_X8_throwing l D Z b X sv sd sm th tl pl ro nu t r 2 ) [0, 1, 2, 3, 4, 5] rfl rfl rfl rfl gX8_setRows_X8_throwing rfl hdV_X8_throwing ⟨Nat.le_of_ble_eq_true rfl, Nat.le_of_ble_eq_true rfl⟩ (q0 := 0) rfl rfl rfl rfl (Nat.le_of_ble_eq_true rfl) ⟨Nat.zero_le _, Nat.zero_le _⟩ dX8_setRows_27 (fun H locs w => ?_)
      exact nv_iret S w hr hlocks rfl (by rw [kC_2 h_1 h_2]; try rfl) (by rw [kC_2 h_1 h_2]; try rfl) dX8_setRows_30
  · skip
    refine lv_aload_n S.1 S.2.1 dX8_setRows_7 rfl (lv_at hl 0 rfl) ?_
    refine lv_iconst (v := nI 1) S.1 S.2.1 dX8_setRows_8 (ofInt_nI 1) ?_
    refine nv_cVi (rest := []) (ws' := mdM Z b X sv sd sm 1 tl pl ro nu t r) S w hl.1 (c_X8_throwing l D Z b X sv sd sm th tl pl ro nu t r 1 ) [0, 1, 2, 3, 4, 5] rfl rfl rfl rfl gX8_setRows_X8_throwing rfl hdV_X8_throwing ⟨Nat.le_of_ble_eq_true rfl, Nat.le_of_ble_eq_true rfl⟩ (q0 := 0) rfl rfl rfl rfl (Nat.le_of_ble_eq_true rfl) ⟨Nat.zero_le _, Nat.zero_le _⟩ dX8_setRows_9 (fun H locs w => ?_)
    exact nv_iret S w hr hlocks rfl (by rw [kC_1 h_1]; try rfl) (by rw [kC_1 h_1]; try rfl) dX8_setRows_12
