set_option maxRecDepth 100000 in
set_option maxHeartbeats 4000000 in
theorem k_X8_silent (l : Launch) (D : va_G) (Z : Nat → ClassId) (b : Nat → Nat) (X : ST) (sv sd : Nat → Nat) (sm th tl pl ro nu : Nat) (t r : Nat → Nat) (xa xn : Int32) (hX : XB X) {p : Program} {e : Env} {s : State} {m : MethodId} {args : Array Value} {below : List Frame} {meth : Method} {c : Code} {A : Nat → Prop} (S : CallFix p m c cX8_silent 6 s args wsX8_silent RX8) (hr : meth.sig.returnType = (some .int)) (hlocks : meth.locks = false) : ∀ (n9 : Nat), (∀ (nd nt j cnt : Nat) (hnd : nd < 4) (hnt : nt ≤ 500) (hj : j ≤ nt) (exa : xa = nI nd) (exn : xn = nI nt) (hkc : kC (rgI 0 3 xa) (rgI 1 500 xn) = 0) (ec : cnt = siN X.1 X.2 nd j) (hm : 500 - j < n9), ∀ (H : Heap) (locs : List Loc) (ls : Array Slot) (hl : lv_has ls 6 [(0, .ref (b 0)), (1, vI nd), (2, vI nt), (3, vI cnt), (4, vI j)]) (w : Wd D Z A s (mdM Z b (X.1, tkN X.1 X.2 j) sv (enc X) sm th tl pl ro nu t r) H locs), W p l e (rmO 5 112) s m args below meth c H locs 0 0 (Qi below D Z A args s (ifz (kC (rgI 0 3 xa) (rgI 1 500 xn)) (nI (siN X.1 X.2 (toN xa) (toN xn))) (nI 0)) (mdM Z b X sv (ifz (kC (rgI 0 3 xa) (rgI 1 500 xn)) (enc X) sd) sm (kC (rgI 0 3 xa) (rgI 1 500 xn)) tl pl ro nu t r)) (F0 m 40 ls [])) := by
  intro n9
  induction n9 with
  | zero => intro nd nt j cnt hnd hnt hj exa exn hkc ec hm; exact absurd hm (Nat.not_lt_zero _)
  | succ n9 ih =>
    skip
    · intro nd nt j cnt hnd hnt hj exa exn hkc ec hm H locs ls hl w
      subst exa
      subst exn
      have eqnd : toN (nI nd) = nd := toN_nI (by omega)
      have eqnt : toN (nI nt) = nt := toN_nI (by omega)
      have hcn := siN_le (G := X.1) (P := X.2) (c := nd) j
      refine lv_iload S.1 S.2.1 dX8_silent_40 (lv_at hl 4 rfl) ?_
      refine lv_iload_n S.1 S.2.1 dX8_silent_42 rfl (lv_at hl 2 rfl) ?_
      refine nv_icmp_ge S (by omega) (by omega) (tgt := 76) dX8_silent_43 (by decide) (fun h_1 => ?_) (fun h_1 => ?_)
      · skip
        refine lv_aload_n S.1 S.2.1 dX8_silent_76 rfl (lv_at hl 0 rfl) ?_
        refine nv_cVv (rest := []) (ws' := mdM Z b X sv (enc X) sm th tl pl ro nu t r) S w hl.1 (c_X8_takesBack l D Z b (X.1, tkN X.1 X.2 j) X sv sm th tl pl ro nu t r ) [0, 1, 2, 3, 4, 5] rfl rfl rfl rfl gX8_silent_X8_takesBack rfl hdV_X8_takesBack ⟨Nat.le_of_ble_eq_true rfl, Nat.le_of_ble_eq_true rfl⟩ (q0 := 0) rfl rfl rfl rfl (Nat.le_of_ble_eq_true rfl) ⟨Nat.zero_le _, Nat.zero_le _⟩ dX8_silent_77 (fun H locs w => ?_)
        refine lv_aload_n S.1 S.2.1 dX8_silent_80 rfl (lv_at hl 0 rfl) ?_
        refine lv_iload_n S.1 S.2.1 dX8_silent_81 rfl (lv_at hl 3 rfl) ?_
        refine nv_cVi (rest := []) (ws' := mdM Z b X sv (enc X) sm 0 tl pl ro nu t r) S w hl.1 (c_X8_fine l D Z b X sv (enc X) sm th tl pl ro nu t r (nI cnt) ) [0, 1, 2, 3, 4, 5] rfl rfl rfl rfl gX8_silent_X8_fine rfl hdV_X8_fine ⟨Nat.le_of_ble_eq_true rfl, Nat.le_of_ble_eq_true rfl⟩ (q0 := 0) rfl rfl rfl rfl (Nat.le_of_ble_eq_true rfl) ⟨Nat.zero_le _, Nat.zero_le _⟩ dX8_silent_82 (fun H locs w => ?_)
        exact nv_iret S w hr hlocks rfl (by rw [hkc, eqnd, eqnt, ec, show j = nt by omega]; rfl) (by rw [hkc]; first | done | rfl | (simp only [ifz, eq_self_iff_true, if_true])) dX8_silent_85
      · skip
        refine lv_aload_n S.1 S.2.1 dX8_silent_46 rfl (lv_at hl 0 rfl) ?_
        refine nv_cVi (rest := []) (ws' := mdM Z b ((X.1, tkN X.1 X.2 j).1, tkP (X.1, tkN X.1 X.2 j).1 (X.1, tkN X.1 X.2 j).2) sv (enc X) sm th tl pl ro nu t r) S w hl.1 (c_X8_tick l D Z b (X.1, tkN X.1 X.2 j) sv (enc X) sm th tl pl ro nu t r hX.1 (tkN_PB hX.1 hX.2.1 j)) [0, 1, 2, 3, 4, 5] rfl rfl rfl rfl gX8_silent_X8_tick rfl hdV_X8_tick ⟨Nat.le_of_ble_eq_true rfl, Nat.le_of_ble_eq_true rfl⟩ (q0 := 0) rfl rfl rfl rfl (Nat.le_of_ble_eq_true rfl) ⟨Nat.zero_le _, Nat.zero_le _⟩ dX8_silent_47 (fun H locs w => ?_)
        have w := w.as (ws' := mdM Z b (X.1, tkN X.1 X.2 (j + 1)) sv (enc X) sm th tl pl ro nu t r) rfl
        refine lv_istore (lv' := [(5, vI (bP ((tkP (X.1, tkN X.1 X.2 j).1 (X.1, tkN X.1 X.2 j).2).1 5 = (X.1, tkN X.1 X.2 j).2.1 5 + 1))), (0, .ref (b 0)), (1, vI nd), (2, vI nt), (3, vI cnt), (4, vI j)]) S.1 S.2.1 dX8_silent_50 hl (by decide) rfl (fun ls hl => ?_)
        refine lv_iload_n S.1 S.2.1 dX8_silent_52 rfl (lv_at hl 4 rfl) ?_
        refine lv_aload_n S.1 S.2.1 dX8_silent_53 rfl (lv_at hl 1 rfl) ?_
        refine lv_iload_n S.1 S.2.1 dX8_silent_54 rfl (lv_at hl 2 rfl) ?_
        refine lv_bipush (v := nI 11) S.1 S.2.1 dX8_silent_55 (by decide +kernel) ?_
        refine nv_rVi (rest := [vI cnt]) S w hl.1 (c_X8_of l D Z b (X.1, tkN X.1 X.2 (j + 1)) sv (enc X) sm th tl pl ro nu t r nd 11 (by omega) (by omega)) [0, 1, 2, 3, 4, 5] rfl rfl gX8_silent_X8_of rfl hdV_X8_of ⟨Nat.le_of_ble_eq_true rfl, Nat.le_of_ble_eq_true rfl⟩ (q0 := 0) rfl rfl rfl rfl (Nat.le_of_ble_eq_true rfl) ⟨Nat.zero_le _, Nat.zero_le _⟩ dX8_silent_57 (fun H locs w => ?_)
        refine W.eq (g2 := F0 m 60 ls [vI ((tkN X.1 X.2 (j + 1)).2 nd 11), vI cnt]) rfl ?_
        have hvb := ((tkN_PB hX.1 hX.2.1 (j + 1)).2.2.2.2.2 nd hnd).1
        unfold VB at hvb
        refine nv_if_ne S (by omega) (tgt := 67) dX8_silent_60 (by decide) (fun h_2 => ?_) (fun h_2 => ?_)
        · skip
          refine lv_iconst (v := nI 0) S.1 S.2.1 dX8_silent_67 (ofInt_nI 0) ?_
          refine nv_iadd S dX8_silent_68 ?_
          refine lv_istore_n (lv' := [(3, vI (cnt + 0)), (5, vI (bP ((tkP (X.1, tkN X.1 X.2 j).1 (X.1, tkN X.1 X.2 j).2).1 5 = (X.1, tkN X.1 X.2 j).2.1 5 + 1))), (0, .ref (b 0)), (1, vI nd), (2, vI nt), (4, vI j)]) S.1 S.2.1 dX8_silent_69 rfl hl (by decide) rfl (fun ls hl => ?_)
          refine lv_iinc (v := nI (j + 1)) (lv' := [(4, vI (j + 1)), (3, vI (cnt + 0)), (5, vI (bP ((tkP (X.1, tkN X.1 X.2 j).1 (X.1, tkN X.1 X.2 j).2).1 5 = (X.1, tkN X.1 X.2 j).2.1 5 + 1))), (0, .ref (b 0)), (1, vI nd), (2, vI nt)]) S.1 S.2.1 dX8_silent_70 hl (k := 5) rfl (nI_incI j 1) (by decide) rfl (fun ls hl => ?_)
          refine lv_goto (tgt := 40) S.1 S.2.1 dX8_silent_73 (by decide) ?_
          exact ih nd nt (j + 1) (cnt + 0) (by omega) (by omega) (by omega) rfl rfl hkc (by have hq : siN X.1 X.2 nd (j + 1) = siN X.1 X.2 nd j + bP ((tkN X.1 X.2 (j + 1)).2 nd 11 = 0) := rfl; rw [bP_f h_2] at hq; omega) (by omega) _ _ _ (lv_sub hl [3, 4, 5, 1, 0] rfl) w
        · skip
          refine lv_iconst (v := nI 1) S.1 S.2.1 dX8_silent_63 (ofInt_nI 1) ?_
          refine lv_goto (tgt := 68) S.1 S.2.1 dX8_silent_64 (by decide) ?_
          refine nv_iadd S dX8_silent_68 ?_
          refine lv_istore_n (lv' := [(3, vI (cnt + 1)), (5, vI (bP ((tkP (X.1, tkN X.1 X.2 j).1 (X.1, tkN X.1 X.2 j).2).1 5 = (X.1, tkN X.1 X.2 j).2.1 5 + 1))), (0, .ref (b 0)), (1, vI nd), (2, vI nt), (4, vI j)]) S.1 S.2.1 dX8_silent_69 rfl hl (by decide) rfl (fun ls hl => ?_)
          refine lv_iinc (v := nI (j + 1)) (lv' := [(4, vI (j + 1)), (3, vI (cnt + 1)), (5, vI (bP ((tkP (X.1, tkN X.1 X.2 j).1 (X.1, tkN X.1 X.2 j).2).1 5 = (X.1, tkN X.1 X.2 j).2.1 5 + 1))), (0, .ref (b 0)), (1, vI nd), (2, vI nt)]) S.1 S.2.1 dX8_silent_70 hl (k := 5) rfl (nI_incI j 1) (by decide) rfl (fun ls hl => ?_)
          refine lv_goto (tgt := 40) S.1 S.2.1 dX8_silent_73 (by decide) ?_
          exact ih nd nt (j + 1) (cnt + 1) (by omega) (by omega) (by omega) rfl rfl hkc (by have hq : siN X.1 X.2 nd (j + 1) = siN X.1 X.2 nd j + bP ((tkN X.1 X.2 (j + 1)).2 nd 11 = 0) := rfl; rw [bP_t h_2] at hq; omega) (by omega) _ _ _ (lv_sub hl [3, 4, 5, 1, 0] rfl) w
set_option maxRecDepth 100000 in
set_option maxHeartbeats 4000000 in
theorem c_X8_silent (l : Launch) (D : va_G) (Z : Nat → ClassId) (b : Nat → Nat) (X : ST) (sv sd : Nat → Nat) (sm th tl pl ro nu : Nat) (t r : Nat → Nat) (xa xn : Int32) (hX : XB X) : Ci l yX8_silent wsX8_silent 5 112 D Z [.ref (b 0), .int xa, .int xn] (mdM Z b X sv sd sm th tl pl ro nu t r) (ifz (kC (rgI 0 3 xa) (rgI 1 500 xn)) (nI (siN X.1 X.2 (toN xa) (toN xn))) (nI 0)) (mdM Z b X sv (ifz (kC (rgI 0 3 xa) (rgI 1 500 xn)) (enc X) sd) sm (kC (rgI 0 3 xa) (rgI 1 500 xn)) tl pl ro nu t r) := by
  refine ne_i (cc := cX8_silent) (maxL := 6) (by decide +kernel) rfl (Nat.le_of_ble_eq_true rfl) (fun p e s m args below meth c A ls (S : CallFix p m c cX8_silent 6 s args wsX8_silent RX8) hr hlocks hl w => ?_)
  have hl : lv_has ls 6 [(0, .ref (b 0)), (1, .int xa), (2, .int xn)] := hl
  refine lv_iload_n S.1 S.2.1 dX8_silent_0 rfl (lv_at hl 1 rfl) ?_
  refine nv_pSi (rest := []) S w hl.1 (c_X8_isChannel l D Z xa ) gX8_silent_X8_isChannel rfl hdS_X8_isChannel ⟨Nat.le_of_ble_eq_true rfl, Nat.le_of_ble_eq_true rfl⟩ rfl rfl (Nat.le_of_ble_eq_true rfl) ⟨Nat.zero_le _, Nat.zero_le _⟩ dX8_silent_1 (fun H locs w => ?_)
  refine nv_if_neB S (tgt := 13) dX8_silent_4 (by decide) (fun h_3 => ?_) (fun h_3 => ?_)
  · skip
    refine lv_iload_n S.1 S.2.1 dX8_silent_13 rfl (lv_at hl 2 rfl) ?_
    refine lv_i2l (v := xn.toInt64) S.1 S.2.1 dX8_silent_14 rfl ?_
    refine lv_lconst (v := 1) S.1 S.2.1 dX8_silent_15 rfl ?_
    refine lv_ldc2 (v := 500) S.1 S.2.1 S.2.2.2.1 (S.2.2.2.2 _ (by decide +kernel)) dX8_silent_16 ?_
    refine nv_pSi (rest := []) S w hl.1 (c_X8_inI l D Z xn 1 500 (by omega) (by omega)) gX8_silent_X8_in rfl hdS_X8_in ⟨Nat.le_of_ble_eq_true rfl, Nat.le_of_ble_eq_true rfl⟩ rfl rfl (Nat.le_of_ble_eq_true rfl) ⟨Nat.zero_le _, Nat.zero_le _⟩ dX8_silent_19 (fun H locs w => ?_)
    refine nv_if_neB S (tgt := 31) dX8_silent_22 (by decide) (fun h_4 => ?_) (fun h_4 => ?_)
    · skip
      obtain ⟨na, rfl, hna⟩ := rg_nat (by decide) (by decide) h_3
      have eqna : toN (nI na) = na := toN_nI (by omega)
      obtain ⟨nn, rfl, hnn⟩ := rg_nat (by decide) (by decide) h_4
      have eqnn : toN (nI nn) = nn := toN_nI (by omega)
      refine lv_aload_n S.1 S.2.1 dX8_silent_31 rfl (lv_at hl 0 rfl) ?_
      refine nv_cVv (rest := []) (ws' := mdM Z b X sv (enc X) sm th tl pl ro nu t r) S w hl.1 (c_X8_laysAside l D Z b X sv sd sm th tl pl ro nu t r ) [0, 1, 2, 3, 4, 5] rfl rfl rfl rfl gX8_silent_X8_laysAside rfl hdV_X8_laysAside ⟨Nat.le_of_ble_eq_true rfl, Nat.le_of_ble_eq_true rfl⟩ (q0 := 0) rfl rfl rfl rfl (Nat.le_of_ble_eq_true rfl) ⟨Nat.zero_le _, Nat.zero_le _⟩ dX8_silent_32 (fun H locs w => ?_)
      refine lv_iconst (v := nI 0) S.1 S.2.1 dX8_silent_35 (ofInt_nI 0) ?_
      refine lv_istore_n (lv' := [(3, vI 0), (0, .ref (b 0)), (1, vI na), (2, vI nn)]) S.1 S.2.1 dX8_silent_36 rfl hl (by decide) rfl (fun ls hl => ?_)
      refine lv_iconst (v := nI 0) S.1 S.2.1 dX8_silent_37 (ofInt_nI 0) ?_
      refine lv_istore (lv' := [(4, vI 0), (3, vI 0), (0, .ref (b 0)), (1, vI na), (2, vI nn)]) S.1 S.2.1 dX8_silent_38 hl (by decide) rfl (fun ls hl => ?_)
      exact k_X8_silent l D Z b X sv sd sm th tl pl ro nu t r (nI na) (nI nn) hX S hr hlocks _ na nn 0 0 (by omega) (by omega) (by omega) rfl rfl (kC_0 h_3 h_4) rfl (Nat.lt_succ_self _) _ _ _ (lv_sub hl [2, 3, 4, 1, 0] rfl) w
    · skip
      refine lv_aload_n S.1 S.2.1 dX8_silent_25 rfl (lv_at hl 0 rfl) ?_
      refine lv_iconst (v := nI 2) S.1 S.2.1 dX8_silent_26 (ofInt_nI 2) ?_
      refine nv_cVi (rest := []) (ws' := mdM Z b X sv sd sm 2 tl pl ro nu t r) S w hl.1 (c_X8_throwing l D Z b X sv sd sm th tl pl ro nu t r 2 ) [0, 1, 2, 3, 4, 5] rfl rfl rfl rfl gX8_silent_X8_throwing rfl hdV_X8_throwing ⟨Nat.le_of_ble_eq_true rfl, Nat.le_of_ble_eq_true rfl⟩ (q0 := 0) rfl rfl rfl rfl (Nat.le_of_ble_eq_true rfl) ⟨Nat.zero_le _, Nat.zero_le _⟩ dX8_silent_27 (fun H locs w => ?_)
      exact nv_iret S w hr hlocks rfl (by rw [kC_2 h_3 h_4]; try rfl) (by rw [kC_2 h_3 h_4]; first | done | rfl | (simp only [ifz, Nat.succ_ne_zero, OfNat.ofNat_ne_zero, if_false, reduceIte]; done)) dX8_silent_30
  · skip
    refine lv_aload_n S.1 S.2.1 dX8_silent_7 rfl (lv_at hl 0 rfl) ?_
    refine lv_iconst (v := nI 1) S.1 S.2.1 dX8_silent_8 (ofInt_nI 1) ?_
    refine nv_cVi (rest := []) (ws' := mdM Z b X sv sd sm 1 tl pl ro nu t r) S w hl.1 (c_X8_throwing l D Z b X sv sd sm th tl pl ro nu t r 1 ) [0, 1, 2, 3, 4, 5] rfl rfl rfl rfl gX8_silent_X8_throwing rfl hdV_X8_throwing ⟨Nat.le_of_ble_eq_true rfl, Nat.le_of_ble_eq_true rfl⟩ (q0 := 0) rfl rfl rfl rfl (Nat.le_of_ble_eq_true rfl) ⟨Nat.zero_le _, Nat.zero_le _⟩ dX8_silent_9 (fun H locs w => ?_)
    exact nv_iret S w hr hlocks rfl (by rw [kC_1 h_3]; try rfl) (by rw [kC_1 h_3]; first | done | rfl | (simp only [ifz, Nat.succ_ne_zero, OfNat.ofNat_ne_zero, if_false, reduceIte]; done)) dX8_silent_12

set_option maxRecDepth 100000 in
set_option maxHeartbeats 4000000 in
theorem k_X8_deepest (l : Launch) (D : va_G) (Z : Nat → ClassId) (b : Nat → Nat) (X : ST) (sv sd : Nat → Nat) (sm th tl pl ro nu : Nat) (t r : Nat → Nat) (xa xn : Int32) (hX : XB X) {p : Program} {e : Env} {s : State} {m : MethodId} {args : Array Value} {below : List Frame} {meth : Method} {c : Code} {A : Nat → Prop} (S : CallFix p m c cX8_deepest 6 s args wsX8_deepest RX8) (hr : meth.sig.returnType = (some .int)) (hlocks : meth.locks = false) : ∀ (n9 : Nat), (∀ (nd nt j cnt : Nat) (hnd : nd < 4) (hnt : nt ≤ 500) (hj : j ≤ nt) (exa : xa = nI nd) (exn : xn = nI nt) (hkc : kC (rgI 0 3 xa) (rgI 1 500 xn) = 0) (ec : cnt = deN X.1 X.2 nd j) (hm : 500 - j < n9), ∀ (H : Heap) (locs : List Loc) (ls : Array Slot) (hl : lv_has ls 6 [(0, .ref (b 0)), (1, vI nd), (2, vI nt), (3, vI cnt), (4, vI j)]) (w : Wd D Z A s (mdM Z b (X.1, tkN X.1 X.2 j) sv (enc X) sm th tl pl ro nu t r) H locs), W p l e (rmO 5 112) s m args below meth c H locs 0 0 (Qi below D Z A args s (ifz (kC (rgI 0 3 xa) (rgI 1 500 xn)) (nI (deN X.1 X.2 (toN xa) (toN xn))) (nI 0)) (mdM Z b X sv (ifz (kC (rgI 0 3 xa) (rgI 1 500 xn)) (enc X) sd) sm (kC (rgI 0 3 xa) (rgI 1 500 xn)) tl pl ro nu t r)) (F0 m 40 ls [])) := by
  intro n9
  induction n9 with
  | zero => intro nd nt j cnt hnd hnt hj exa exn hkc ec hm; exact absurd hm (Nat.not_lt_zero _)
  | succ n9 ih =>
    skip
    · intro nd nt j cnt hnd hnt hj exa exn hkc ec hm H locs ls hl w
      subst exa
      subst exn
      have eqnd : toN (nI nd) = nd := toN_nI (by omega)
      have eqnt : toN (nI nt) = nt := toN_nI (by omega)
      have hcn := deN_le hX.1 hX.2.1 hnd j
      refine lv_iload S.1 S.2.1 dX8_deepest_40 (lv_at hl 4 rfl) ?_
      refine lv_iload_n S.1 S.2.1 dX8_deepest_42 rfl (lv_at hl 2 rfl) ?_
      refine nv_icmp_ge S (by omega) (by omega) (tgt := 79) dX8_deepest_43 (by decide) (fun h_1 => ?_) (fun h_1 => ?_)
      · skip
        refine lv_aload_n S.1 S.2.1 dX8_deepest_79 rfl (lv_at hl 0 rfl) ?_
        refine nv_cVv (rest := []) (ws' := mdM Z b X sv (enc X) sm th tl pl ro nu t r) S w hl.1 (c_X8_takesBack l D Z b (X.1, tkN X.1 X.2 j) X sv sm th tl pl ro nu t r ) [0, 1, 2, 3, 4, 5] rfl rfl rfl rfl gX8_deepest_X8_takesBack rfl hdV_X8_takesBack ⟨Nat.le_of_ble_eq_true rfl, Nat.le_of_ble_eq_true rfl⟩ (q0 := 0) rfl rfl rfl rfl (Nat.le_of_ble_eq_true rfl) ⟨Nat.zero_le _, Nat.zero_le _⟩ dX8_deepest_80 (fun H locs w => ?_)
        refine lv_aload_n S.1 S.2.1 dX8_deepest_83 rfl (lv_at hl 0 rfl) ?_
        refine lv_iload_n S.1 S.2.1 dX8_deepest_84 rfl (lv_at hl 3 rfl) ?_
        refine nv_cVi (rest := []) (ws' := mdM Z b X sv (enc X) sm 0 tl pl ro nu t r) S w hl.1 (c_X8_fine l D Z b X sv (enc X) sm th tl pl ro nu t r (nI cnt) ) [0, 1, 2, 3, 4, 5] rfl rfl rfl rfl gX8_deepest_X8_fine rfl hdV_X8_fine ⟨Nat.le_of_ble_eq_true rfl, Nat.le_of_ble_eq_true rfl⟩ (q0 := 0) rfl rfl rfl rfl (Nat.le_of_ble_eq_true rfl) ⟨Nat.zero_le _, Nat.zero_le _⟩ dX8_deepest_85 (fun H locs w => ?_)
        exact nv_iret S w hr hlocks rfl (by rw [hkc, eqnd, eqnt, ec, show j = nt by omega]; rfl) (by rw [hkc]; first | done | rfl | (simp only [ifz, eq_self_iff_true, if_true])) dX8_deepest_88
      · skip
        refine lv_aload_n S.1 S.2.1 dX8_deepest_46 rfl (lv_at hl 0 rfl) ?_
        refine nv_cVi (rest := []) (ws' := mdM Z b ((X.1, tkN X.1 X.2 j).1, tkP (X.1, tkN X.1 X.2 j).1 (X.1, tkN X.1 X.2 j).2) sv (enc X) sm th tl pl ro nu t r) S w hl.1 (c_X8_tick l D Z b (X.1, tkN X.1 X.2 j) sv (enc X) sm th tl pl ro nu t r hX.1 (tkN_PB hX.1 hX.2.1 j)) [0, 1, 2, 3, 4, 5] rfl rfl rfl rfl gX8_deepest_X8_tick rfl hdV_X8_tick ⟨Nat.le_of_ble_eq_true rfl, Nat.le_of_ble_eq_true rfl⟩ (q0 := 0) rfl rfl rfl rfl (Nat.le_of_ble_eq_true rfl) ⟨Nat.zero_le _, Nat.zero_le _⟩ dX8_deepest_47 (fun H locs w => ?_)
        have w := w.as (ws' := mdM Z b (X.1, tkN X.1 X.2 (j + 1)) sv (enc X) sm th tl pl ro nu t r) rfl
        refine lv_istore (lv' := [(5, vI (bP ((tkP (X.1, tkN X.1 X.2 j).1 (X.1, tkN X.1 X.2 j).2).1 5 = (X.1, tkN X.1 X.2 j).2.1 5 + 1))), (0, .ref (b 0)), (1, vI nd), (2, vI nt), (3, vI cnt), (4, vI j)]) S.1 S.2.1 dX8_deepest_50 hl (by decide) rfl (fun ls hl => ?_)
        refine lv_aload_n S.1 S.2.1 dX8_deepest_52 rfl (lv_at hl 1 rfl) ?_
        refine lv_iload_n S.1 S.2.1 dX8_deepest_53 rfl (lv_at hl 2 rfl) ?_
        refine lv_iconst (v := nI 4) S.1 S.2.1 dX8_deepest_54 (ofInt_nI 4) ?_
        refine nv_rVi (rest := []) S w hl.1 (c_X8_of l D Z b (X.1, tkN X.1 X.2 (j + 1)) sv (enc X) sm th tl pl ro nu t r nd 4 (by omega) (by omega)) [0, 1, 2, 3, 4, 5] rfl rfl gX8_deepest_X8_of rfl hdV_X8_of ⟨Nat.le_of_ble_eq_true rfl, Nat.le_of_ble_eq_true rfl⟩ (q0 := 0) rfl rfl rfl rfl (Nat.le_of_ble_eq_true rfl) ⟨Nat.zero_le _, Nat.zero_le _⟩ dX8_deepest_55 (fun H locs w => ?_)
        refine W.eq (g2 := F0 m 58 ls [vI ((tkN X.1 X.2 (j + 1)).2 nd 4)]) rfl ?_
        have hvb := ((tkN_PB hX.1 hX.2.1 (j + 1)).2.2.2.2.2 nd hnd).1
        unfold VB at hvb
        refine lv_iload_n S.1 S.2.1 dX8_deepest_58 rfl (lv_at hl 4 rfl) ?_
        refine nv_icmp_le S (by omega) (by omega) (tgt := 71) dX8_deepest_59 (by decide) (fun h_2 => ?_) (fun h_2 => ?_)
        · skip
          refine lv_iload_n S.1 S.2.1 dX8_deepest_71 rfl (lv_at hl 4 rfl) ?_
          refine lv_istore_n (lv' := [(3, vI cnt), (5, vI (bP ((tkP (X.1, tkN X.1 X.2 j).1 (X.1, tkN X.1 X.2 j).2).1 5 = (X.1, tkN X.1 X.2 j).2.1 5 + 1))), (0, .ref (b 0)), (1, vI nd), (2, vI nt), (4, vI j)]) S.1 S.2.1 dX8_deepest_72 rfl hl (by decide) rfl (fun ls hl => ?_)
          refine lv_iinc (v := nI (j + 1)) (lv' := [(4, vI (j + 1)), (3, vI cnt), (5, vI (bP ((tkP (X.1, tkN X.1 X.2 j).1 (X.1, tkN X.1 X.2 j).2).1 5 = (X.1, tkN X.1 X.2 j).2.1 5 + 1))), (0, .ref (b 0)), (1, vI nd), (2, vI nt)]) S.1 S.2.1 dX8_deepest_73 hl (k := 5) rfl (nI_incI j 1) (by decide) rfl (fun ls hl => ?_)
          refine lv_goto (tgt := 40) S.1 S.2.1 dX8_deepest_76 (by decide) ?_
          exact ih nd nt (j + 1) cnt (by omega) (by omega) (by omega) rfl rfl hkc (by have hq : deN X.1 X.2 nd (j + 1) = max (deN X.1 X.2 nd j) ((tkN X.1 X.2 (j + 1)).2 nd 4) := rfl; rw [hq, ← ec]; omega) (by omega) _ _ _ (lv_sub hl [3, 4, 5, 1, 0] rfl) w
        · skip
          refine lv_aload_n S.1 S.2.1 dX8_deepest_62 rfl (lv_at hl 1 rfl) ?_
          refine lv_iload_n S.1 S.2.1 dX8_deepest_63 rfl (lv_at hl 2 rfl) ?_
          refine lv_iconst (v := nI 4) S.1 S.2.1 dX8_deepest_64 (ofInt_nI 4) ?_
          refine nv_rVi (rest := []) S w hl.1 (c_X8_of l D Z b (X.1, tkN X.1 X.2 (j + 1)) sv (enc X) sm th tl pl ro nu t r nd 4 (by omega) (by omega)) [0, 1, 2, 3, 4, 5] rfl rfl gX8_deepest_X8_of rfl hdV_X8_of ⟨Nat.le_of_ble_eq_true rfl, Nat.le_of_ble_eq_true rfl⟩ (q0 := 0) rfl rfl rfl rfl (Nat.le_of_ble_eq_true rfl) ⟨Nat.zero_le _, Nat.zero_le _⟩ dX8_deepest_65 (fun H locs w => ?_)
          refine W.eq (g2 := F0 m 68 ls [vI ((tkN X.1 X.2 (j + 1)).2 nd 4)]) rfl ?_
          refine lv_goto (tgt := 72) S.1 S.2.1 dX8_deepest_68 (by decide) ?_
          refine lv_istore_n (lv' := [(3, vI ((tkN X.1 X.2 (j + 1)).2 nd 4)), (5, vI (bP ((tkP (X.1, tkN X.1 X.2 j).1 (X.1, tkN X.1 X.2 j).2).1 5 = (X.1, tkN X.1 X.2 j).2.1 5 + 1))), (0, .ref (b 0)), (1, vI nd), (2, vI nt), (4, vI j)]) S.1 S.2.1 dX8_deepest_72 rfl hl (by decide) rfl (fun ls hl => ?_)
          refine lv_iinc (v := nI (j + 1)) (lv' := [(4, vI (j + 1)), (3, vI ((tkN X.1 X.2 (j + 1)).2 nd 4)), (5, vI (bP ((tkP (X.1, tkN X.1 X.2 j).1 (X.1, tkN X.1 X.2 j).2).1 5 = (X.1, tkN X.1 X.2 j).2.1 5 + 1))), (0, .ref (b 0)), (1, vI nd), (2, vI nt)]) S.1 S.2.1 dX8_deepest_73 hl (k := 5) rfl (nI_incI j 1) (by decide) rfl (fun ls hl => ?_)
          refine lv_goto (tgt := 40) S.1 S.2.1 dX8_deepest_76 (by decide) ?_
          exact ih nd nt (j + 1) ((tkN X.1 X.2 (j + 1)).2 nd 4) (by omega) (by omega) (by omega) rfl rfl hkc (by have hq : deN X.1 X.2 nd (j + 1) = max (deN X.1 X.2 nd j) ((tkN X.1 X.2 (j + 1)).2 nd 4) := rfl; rw [hq, ← ec]; omega) (by omega) _ _ _ (lv_sub hl [3, 4, 5, 1, 0] rfl) w
set_option maxRecDepth 100000 in
set_option maxHeartbeats 4000000 in
theorem c_X8_deepest (l : Launch) (D : va_G) (Z : Nat → ClassId) (b : Nat → Nat) (X : ST) (sv sd : Nat → Nat) (sm th tl pl ro nu : Nat) (t r : Nat → Nat) (xa xn : Int32) (hX : XB X) : Ci l yX8_deepest wsX8_deepest 5 112 D Z [.ref (b 0), .int xa, .int xn] (mdM Z b X sv sd sm th tl pl ro nu t r) (ifz (kC (rgI 0 3 xa) (rgI 1 500 xn)) (nI (deN X.1 X.2 (toN xa) (toN xn))) (nI 0)) (mdM Z b X sv (ifz (kC (rgI 0 3 xa) (rgI 1 500 xn)) (enc X) sd) sm (kC (rgI 0 3 xa) (rgI 1 500 xn)) tl pl ro nu t r) := by
  refine ne_i (cc := cX8_deepest) (maxL := 6) (by decide +kernel) rfl (Nat.le_of_ble_eq_true rfl) (fun p e s m args below meth c A ls (S : CallFix p m c cX8_deepest 6 s args wsX8_deepest RX8) hr hlocks hl w => ?_)
  have hl : lv_has ls 6 [(0, .ref (b 0)), (1, .int xa), (2, .int xn)] := hl
  refine lv_iload_n S.1 S.2.1 dX8_deepest_0 rfl (lv_at hl 1 rfl) ?_
  refine nv_pSi (rest := []) S w hl.1 (c_X8_isChannel l D Z xa ) gX8_deepest_X8_isChannel rfl hdS_X8_isChannel ⟨Nat.le_of_ble_eq_true rfl, Nat.le_of_ble_eq_true rfl⟩ rfl rfl (Nat.le_of_ble_eq_true rfl) ⟨Nat.zero_le _, Nat.zero_le _⟩ dX8_deepest_1 (fun H locs w => ?_)
  refine nv_if_neB S (tgt := 13) dX8_deepest_4 (by decide) (fun h_3 => ?_) (fun h_3 => ?_)
  · skip
    refine lv_iload_n S.1 S.2.1 dX8_deepest_13 rfl (lv_at hl 2 rfl) ?_
    refine lv_i2l (v := xn.toInt64) S.1 S.2.1 dX8_deepest_14 rfl ?_
    refine lv_lconst (v := 1) S.1 S.2.1 dX8_deepest_15 rfl ?_
    refine lv_ldc2 (v := 500) S.1 S.2.1 S.2.2.2.1 (S.2.2.2.2 _ (by decide +kernel)) dX8_deepest_16 ?_
    refine nv_pSi (rest := []) S w hl.1 (c_X8_inI l D Z xn 1 500 (by omega) (by omega)) gX8_deepest_X8_in rfl hdS_X8_in ⟨Nat.le_of_ble_eq_true rfl, Nat.le_of_ble_eq_true rfl⟩ rfl rfl (Nat.le_of_ble_eq_true rfl) ⟨Nat.zero_le _, Nat.zero_le _⟩ dX8_deepest_19 (fun H locs w => ?_)
    refine nv_if_neB S (tgt := 31) dX8_deepest_22 (by decide) (fun h_4 => ?_) (fun h_4 => ?_)
    · skip
      obtain ⟨na, rfl, hna⟩ := rg_nat (by decide) (by decide) h_3
      have eqna : toN (nI na) = na := toN_nI (by omega)
      obtain ⟨nn, rfl, hnn⟩ := rg_nat (by decide) (by decide) h_4
      have eqnn : toN (nI nn) = nn := toN_nI (by omega)
      refine lv_aload_n S.1 S.2.1 dX8_deepest_31 rfl (lv_at hl 0 rfl) ?_
      refine nv_cVv (rest := []) (ws' := mdM Z b X sv (enc X) sm th tl pl ro nu t r) S w hl.1 (c_X8_laysAside l D Z b X sv sd sm th tl pl ro nu t r ) [0, 1, 2, 3, 4, 5] rfl rfl rfl rfl gX8_deepest_X8_laysAside rfl hdV_X8_laysAside ⟨Nat.le_of_ble_eq_true rfl, Nat.le_of_ble_eq_true rfl⟩ (q0 := 0) rfl rfl rfl rfl (Nat.le_of_ble_eq_true rfl) ⟨Nat.zero_le _, Nat.zero_le _⟩ dX8_deepest_32 (fun H locs w => ?_)
      refine lv_iconst (v := nI 0) S.1 S.2.1 dX8_deepest_35 (ofInt_nI 0) ?_
      refine lv_istore_n (lv' := [(3, vI 0), (0, .ref (b 0)), (1, vI na), (2, vI nn)]) S.1 S.2.1 dX8_deepest_36 rfl hl (by decide) rfl (fun ls hl => ?_)
      refine lv_iconst (v := nI 0) S.1 S.2.1 dX8_deepest_37 (ofInt_nI 0) ?_
      refine lv_istore (lv' := [(4, vI 0), (3, vI 0), (0, .ref (b 0)), (1, vI na), (2, vI nn)]) S.1 S.2.1 dX8_deepest_38 hl (by decide) rfl (fun ls hl => ?_)
      exact k_X8_deepest l D Z b X sv sd sm th tl pl ro nu t r (nI na) (nI nn) hX S hr hlocks _ na nn 0 0 (by omega) (by omega) (by omega) rfl rfl (kC_0 h_3 h_4) rfl (Nat.lt_succ_self _) _ _ _ (lv_sub hl [2, 3, 4, 1, 0] rfl) w
    · skip
      refine lv_aload_n S.1 S.2.1 dX8_deepest_25 rfl (lv_at hl 0 rfl) ?_
      refine lv_iconst (v := nI 2) S.1 S.2.1 dX8_deepest_26 (ofInt_nI 2) ?_
      refine nv_cVi (rest := []) (ws' := mdM Z b X sv sd sm 2 tl pl ro nu t r) S w hl.1 (c_X8_throwing l D Z b X sv sd sm th tl pl ro nu t r 2 ) [0, 1, 2, 3, 4, 5] rfl rfl rfl rfl gX8_deepest_X8_throwing rfl hdV_X8_throwing ⟨Nat.le_of_ble_eq_true rfl, Nat.le_of_ble_eq_true rfl⟩ (q0 := 0) rfl rfl rfl rfl (Nat.le_of_ble_eq_true rfl) ⟨Nat.zero_le _, Nat.zero_le _⟩ dX8_deepest_27 (fun H locs w => ?_)
      exact nv_iret S w hr hlocks rfl (by rw [kC_2 h_3 h_4]; try rfl) (by rw [kC_2 h_3 h_4]; first | done | rfl | (simp only [ifz, Nat.succ_ne_zero, OfNat.ofNat_ne_zero, if_false, reduceIte]; done)) dX8_deepest_30
  · skip
    refine lv_aload_n S.1 S.2.1 dX8_deepest_7 rfl (lv_at hl 0 rfl) ?_
    refine lv_iconst (v := nI 1) S.1 S.2.1 dX8_deepest_8 (ofInt_nI 1) ?_
    refine nv_cVi (rest := []) (ws' := mdM Z b X sv sd sm 1 tl pl ro nu t r) S w hl.1 (c_X8_throwing l D Z b X sv sd sm th tl pl ro nu t r 1 ) [0, 1, 2, 3, 4, 5] rfl rfl rfl rfl gX8_deepest_X8_throwing rfl hdV_X8_throwing ⟨Nat.le_of_ble_eq_true rfl, Nat.le_of_ble_eq_true rfl⟩ (q0 := 0) rfl rfl rfl rfl (Nat.le_of_ble_eq_true rfl) ⟨Nat.zero_le _, Nat.zero_le _⟩ dX8_deepest_9 (fun H locs w => ?_)
    exact nv_iret S w hr hlocks rfl (by rw [kC_1 h_3]; try rfl) (by rw [kC_1 h_3]; first | done | rfl | (simp only [ifz, Nat.succ_ne_zero, OfNat.ofNat_ne_zero, if_false, reduceIte]; done)) dX8_deepest_12
