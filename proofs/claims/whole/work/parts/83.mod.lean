theorem hn_X8_play_8 : ∀ w ∈ wsX80, w ∈ wsX8_play := by decide +kernel
set_option maxRecDepth 100000 in
set_option maxHeartbeats 4000000 in
theorem c_X8_play (l : Launch) (D : va_G) (Z : Nat → ClassId) (b : Nat → Nat) (X : ST) (sv sd : Nat → Nat) (sm th tl pl ro nu : Nat) (t r : Nat → Nat) (xa : Int32) (hsm : sm ≤ 4) (hX : XB X) : Ci l yX8_play wsX8_play 6 137 D Z [.ref (b 0), .int xa] (mdM Z b X sv sd sm th tl pl ro nu t r) (ifz (kC (rgI 1 500 xa) (X.2.1 4 + toN xa ≤ 100000)) (hsN X.1 X.2 (toN xa)) (nI 0)) (mdM Z b (ifz (kC (rgI 1 500 xa) (X.2.1 4 + toN xa ≤ 100000)) (X.1, tkN X.1 X.2 (toN xa)) X) (ifz (kC (rgI 1 500 xa) (X.2.1 4 + toN xa ≤ 100000)) (svS sv sm X) sv) sd (ifz (kC (rgI 1 500 xa) (X.2.1 4 + toN xa ≤ 100000)) (svN sm + 1) sm) (kC (rgI 1 500 xa) (X.2.1 4 + toN xa ≤ 100000)) tl pl ro nu t r) := by
  refine ne_i (cc := cX8_play) (maxL := 2) (by decide +kernel) rfl (Nat.le_of_ble_eq_true rfl) (fun p e s m args below meth c A ls (S : CallFix p m c cX8_play 2 s args wsX8_play RX8) hr hlocks hl w => ?_)
  have hl : lv_has ls 2 [(0, .ref (b 0)), (1, .int xa)] := hl
  refine lv_iload_n S.1 S.2.1 dX8_play_0 rfl (lv_at hl 1 rfl) ?_
  refine lv_i2l (v := xa.toInt64) S.1 S.2.1 dX8_play_1 rfl ?_
  refine lv_lconst (v := 1) S.1 S.2.1 dX8_play_2 rfl ?_
  refine lv_ldc2 (v := 500) S.1 S.2.1 S.2.2.2.1 (S.2.2.2.2 _ (by decide +kernel)) dX8_play_3 ?_
  refine nv_pSi (rest := []) S w hl.1 (c_X8_inI l D Z xa 1 500 (by omega) (by omega)) gX8_play_X8_in rfl hdS_X8_in ⟨Nat.le_of_ble_eq_true rfl, Nat.le_of_ble_eq_true rfl⟩ rfl rfl (Nat.le_of_ble_eq_true rfl) ⟨Nat.zero_le _, Nat.zero_le _⟩ dX8_play_6 (fun H locs w => ?_)
  refine nv_if_neB S (tgt := 18) dX8_play_9 (by decide) (fun h_1 => ?_) (fun h_1 => ?_)
  · skip
    obtain ⟨na, rfl, hna⟩ := rg_nat (by decide) (by decide) h_1
    have eqna : toN (nI na) = na := toN_nI (by omega)
    have hb4 := hX.2.2.1
    refine lv_aload_n S.1 S.2.1 dX8_play_18 rfl (lv_at hl 0 rfl) ?_
    refine nv_get S w (C := RX8) (T := TX8) (N := 11) hn_X8_play_8 0 rfl rfl 0 (by decide) (List.mem_of_getElem? (i := 2) rfl) (v := .ref (b 1)) rfl dX8_play_19 ?_
    refine lv_iconst (v := nI 4) S.1 S.2.1 dX8_play_22 (ofInt_nI 4) ?_
    refine nv_iald S w (i := 4) (g := (enc X)) 1 rfl (by omega) (by decide) dX8_play_23 ?_
    refine W.eq (g2 := F0 m 24 ls [vI (X.2.1 4)]) rfl ?_
    refine lv_iload_n S.1 S.2.1 dX8_play_24 rfl (lv_at hl 1 rfl) ?_
    refine nv_iadd S dX8_play_25 ?_
    refine lv_ldc (v := (nI 100000)) S.1 S.2.1 S.2.2.2.1 (S.2.2.2.2 _ (by decide +kernel)) dX8_play_26 ?_
    refine nv_icmp_le S (by omega) (by omega) (tgt := 37) dX8_play_28 (by decide) (fun h_2 => ?_) (fun h_2 => ?_)
    · skip
      refine lv_aload_n S.1 S.2.1 dX8_play_37 rfl (lv_at hl 0 rfl) ?_
      refine nv_cVv (rest := []) (ws' := mdM Z b X (svS sv sm X) sd (svN sm + 1) th tl pl ro nu t r) S w hl.1 (c_X8_save l D Z b X sv sd sm th tl pl ro nu t r (by omega)) [0, 1, 2, 3, 4, 5] rfl rfl rfl rfl gX8_play_X8_save rfl hdV_X8_save ⟨Nat.le_of_ble_eq_true rfl, Nat.le_of_ble_eq_true rfl⟩ (q0 := 0) rfl rfl rfl rfl (Nat.le_of_ble_eq_true rfl) ⟨Nat.zero_le _, Nat.zero_le _⟩ dX8_play_38 (fun H locs w => ?_)
      refine lv_aload_n S.1 S.2.1 dX8_play_41 rfl (lv_at hl 0 rfl) ?_
      refine lv_aload_n S.1 S.2.1 dX8_play_42 rfl (lv_at hl 0 rfl) ?_
      refine lv_iload_n S.1 S.2.1 dX8_play_43 rfl (lv_at hl 1 rfl) ?_
      refine nv_cVi (rest := [.ref (b 0)]) (ws' := mdM Z b (X.1, tkN X.1 X.2 na) (svS sv sm X) sd (svN sm + 1) th tl pl ro nu t r) S w hl.1 (c_X8_plays l D Z b X (svS sv sm X) sd (svN sm + 1) th tl pl ro nu t r na hX.1 hX.2.1 (by omega)) [0, 1, 2, 3, 4, 5] rfl rfl rfl rfl gX8_play_X8_plays rfl hdV_X8_plays ⟨Nat.le_of_ble_eq_true rfl, Nat.le_of_ble_eq_true rfl⟩ (q0 := 0) rfl rfl rfl rfl (Nat.le_of_ble_eq_true rfl) ⟨Nat.zero_le _, Nat.zero_le _⟩ dX8_play_44 (fun H locs w => ?_)
      refine nv_cVi (rest := []) (ws' := mdM Z b (X.1, tkN X.1 X.2 na) (svS sv sm X) sd (svN sm + 1) 0 tl pl ro nu t r) S w hl.1 (c_X8_fine l D Z b (X.1, tkN X.1 X.2 na) (svS sv sm X) sd (svN sm + 1) th tl pl ro nu t r (hsN X.1 X.2 na) ) [0, 1, 2, 3, 4, 5] rfl rfl rfl rfl gX8_play_X8_fine rfl hdV_X8_fine ⟨Nat.le_of_ble_eq_true rfl, Nat.le_of_ble_eq_true rfl⟩ (q0 := 0) rfl rfl rfl rfl (Nat.le_of_ble_eq_true rfl) ⟨Nat.zero_le _, Nat.zero_le _⟩ dX8_play_47 (fun H locs w => ?_)
      exact nv_iret S w hr hlocks rfl (by rw [kC_0 h_1 (by rw [eqna]; omega)]; (try simp only [eqna]); try rfl) (by rw [kC_0 h_1 (by rw [eqna]; omega)]; (try simp only [eqna]); try rfl) dX8_play_50
    · skip
      refine lv_aload_n S.1 S.2.1 dX8_play_31 rfl (lv_at hl 0 rfl) ?_
      refine lv_iconst (v := nI 2) S.1 S.2.1 dX8_play_32 (ofInt_nI 2) ?_
      refine nv_cVi (rest := []) (ws' := mdM Z b X sv sd sm 2 tl pl ro nu t r) S w hl.1 (c_X8_throwing l D Z b X sv sd sm th tl pl ro nu t r 2 ) [0, 1, 2, 3, 4, 5] rfl rfl rfl rfl gX8_play_X8_throwing rfl hdV_X8_throwing ⟨Nat.le_of_ble_eq_true rfl, Nat.le_of_ble_eq_true rfl⟩ (q0 := 0) rfl rfl rfl rfl (Nat.le_of_ble_eq_true rfl) ⟨Nat.zero_le _, Nat.zero_le _⟩ dX8_play_33 (fun H locs w => ?_)
      exact nv_iret S w hr hlocks rfl (by rw [kC_2 h_1 (by rw [eqna]; omega)]; try rfl) (by rw [kC_2 h_1 (by rw [eqna]; omega)]; try rfl) dX8_play_36
  · skip
    refine lv_aload_n S.1 S.2.1 dX8_play_12 rfl (lv_at hl 0 rfl) ?_
    refine lv_iconst (v := nI 1) S.1 S.2.1 dX8_play_13 (ofInt_nI 1) ?_
    refine nv_cVi (rest := []) (ws' := mdM Z b X sv sd sm 1 tl pl ro nu t r) S w hl.1 (c_X8_throwing l D Z b X sv sd sm th tl pl ro nu t r 1 ) [0, 1, 2, 3, 4, 5] rfl rfl rfl rfl gX8_play_X8_throwing rfl hdV_X8_throwing ⟨Nat.le_of_ble_eq_true rfl, Nat.le_of_ble_eq_true rfl⟩ (q0 := 0) rfl rfl rfl rfl (Nat.le_of_ble_eq_true rfl) ⟨Nat.zero_le _, Nat.zero_le _⟩ dX8_play_14 (fun H locs w => ?_)
    exact nv_iret S w hr hlocks rfl (by rw [kC_1 h_1]; try rfl) (by rw [kC_1 h_1]; try rfl) dX8_play_17

theorem hn_X8_restart_8 : ∀ w ∈ wsX80, w ∈ wsX8_restart := by decide +kernel
theorem hdV_X8_begins : yX8_begins.cls = RX8 ∧ yX8_begins.cls ≠ "java/lang/invoke/MethodHandle" ∧ yX8_begins.cls ≠ "java/lang/invoke/VarHandle" ∧ (parseMethodDescriptor yX8_begins.desc).map (fun d => d.parameters.length) = some 0 := by decide +kernel
set_option maxRecDepth 100000 in
set_option maxHeartbeats 4000000 in
theorem c_X8_restart (l : Launch) (D : va_G) (Z : Nat → ClassId) (b : Nat → Nat) (X : ST) (sv sd : Nat → Nat) (sm th tl pl ro nu : Nat) (t r : Nat → Nat) (hsm : sm ≤ 4) : Ci l yX8_restart wsX8_restart 1 21 D Z [.ref (b 0)] (mdM Z b X sv sd sm th tl pl ro nu t r) (nI (X.2.1 4)) (mdM Z b (X.1, bgM) (svS sv sm X) sd (svN sm + 1) 0 tl pl ro nu t r) := by
  refine ne_i (cc := cX8_restart) (maxL := 2) (by decide +kernel) rfl (Nat.le_of_ble_eq_true rfl) (fun p e s m args below meth c A ls (S : CallFix p m c cX8_restart 2 s args wsX8_restart RX8) hr hlocks hl w => ?_)
  have hl : lv_has ls 2 [(0, .ref (b 0))] := hl
  refine lv_aload_n S.1 S.2.1 dX8_restart_0 rfl (lv_at hl 0 rfl) ?_
  refine nv_cVv (rest := []) (ws' := mdM Z b X (svS sv sm X) sd (svN sm + 1) th tl pl ro nu t r) S w hl.1 (c_X8_save l D Z b X sv sd sm th tl pl ro nu t r (by omega)) [0, 1, 2, 3, 4, 5] rfl rfl rfl rfl gX8_restart_X8_save rfl hdV_X8_save ⟨Nat.le_of_ble_eq_true rfl, Nat.le_of_ble_eq_true rfl⟩ (q0 := 0) rfl rfl rfl rfl (Nat.le_of_ble_eq_true rfl) ⟨Nat.zero_le _, Nat.zero_le _⟩ dX8_restart_1 (fun H locs w => ?_)
  refine lv_aload_n S.1 S.2.1 dX8_restart_4 rfl (lv_at hl 0 rfl) ?_
  refine nv_get S w (C := RX8) (T := TX8) (N := 11) hn_X8_restart_8 0 rfl rfl 0 (by decide) (List.mem_of_getElem? (i := 1) rfl) (v := .ref (b 1)) rfl dX8_restart_5 ?_
  refine lv_iconst (v := nI 4) S.1 S.2.1 dX8_restart_8 (ofInt_nI 4) ?_
  refine nv_iald S w (i := 4) (g := (enc X)) 1 rfl (by omega) (by decide) dX8_restart_9 ?_
  refine lv_istore_n (lv' := [(1, vI ((enc X) 4)), (0, .ref (b 0))]) S.1 S.2.1 dX8_restart_10 rfl hl (by decide) rfl (fun ls hl => ?_)
  refine lv_aload_n S.1 S.2.1 dX8_restart_11 rfl (lv_at hl 1 rfl) ?_
  refine nv_cVv (rest := []) (ws' := mdM Z b (X.1, bgM) (svS sv sm X) sd (svN sm + 1) th tl pl ro nu t r) S w hl.1 (c_X8_begins l D Z b X (svS sv sm X) sd (svN sm + 1) th tl pl ro nu t r ) [0, 1, 2, 3, 4, 5] rfl rfl rfl rfl gX8_restart_X8_begins rfl hdV_X8_begins ⟨Nat.le_of_ble_eq_true rfl, Nat.le_of_ble_eq_true rfl⟩ (q0 := 0) rfl rfl rfl rfl (Nat.le_of_ble_eq_true rfl) ⟨Nat.zero_le _, Nat.zero_le _⟩ dX8_restart_12 (fun H locs w => ?_)
  refine lv_aload_n S.1 S.2.1 dX8_restart_15 rfl (lv_at hl 1 rfl) ?_
  refine lv_iload_n S.1 S.2.1 dX8_restart_16 rfl (lv_at hl 0 rfl) ?_
  refine nv_cVi (rest := []) (ws' := mdM Z b (X.1, bgM) (svS sv sm X) sd (svN sm + 1) 0 tl pl ro nu t r) S w hl.1 (c_X8_fine l D Z b (X.1, bgM) (svS sv sm X) sd (svN sm + 1) th tl pl ro nu t r (nI ((enc X) 4)) ) [0, 1, 2, 3, 4, 5] rfl rfl rfl rfl gX8_restart_X8_fine rfl hdV_X8_fine ⟨Nat.le_of_ble_eq_true rfl, Nat.le_of_ble_eq_true rfl⟩ (q0 := 0) rfl rfl rfl rfl (Nat.le_of_ble_eq_true rfl) ⟨Nat.zero_le _, Nat.zero_le _⟩ dX8_restart_17 (fun H locs w => ?_)
  exact nv_iret S w hr hlocks rfl (by first | rfl | (simp [un_at]; done) | (congr 1; omega)) rfl dX8_restart_20

def mSt (X : ST) (c n t : Nat) : ST := vX X c (un (un (X.2.2 c) 2 t) 3 n)
def mGb (X : ST) (c : Nat) : ST := vX X c (un (X.2.2 c) 2 0)

theorem hn_X8_steal_8 : ∀ w ∈ wsX80, w ∈ wsX8_steal := by decide +kernel
set_option maxRecDepth 100000 in
set_option maxHeartbeats 4000000 in
theorem c_X8_steal (l : Launch) (D : va_G) (Z : Nat → ClassId) (b : Nat → Nat) (X : ST) (sv sd : Nat → Nat) (sm th tl pl ro nu : Nat) (t r : Nat → Nat) (xa xn xv : Int32) (hsm : sm ≤ 4) : Ci l yX8_steal wsX8_steal 2 45 D Z [.ref (b 0), .int xa, .int xn, .int xv] (mdM Z b X sv sd sm th tl pl ro nu t r) (ifz (kC (rgI 0 3 xa) (rgI 1 60 xn ∧ rgI 1 99 xv)) (nI (X.2.2 (toN xa) 2)) (nI 0)) (mdM Z b (ifz (kC (rgI 0 3 xa) (rgI 1 60 xn ∧ rgI 1 99 xv)) (mSt X (toN xa) (toN xn) (toN xv)) X) (ifz (kC (rgI 0 3 xa) (rgI 1 60 xn ∧ rgI 1 99 xv)) (svS sv sm X) sv) sd (ifz (kC (rgI 0 3 xa) (rgI 1 60 xn ∧ rgI 1 99 xv)) (svN sm + 1) sm) (kC (rgI 0 3 xa) (rgI 1 60 xn ∧ rgI 1 99 xv)) tl pl ro nu t r) := by
  refine ne_i (cc := cX8_steal) (maxL := 5) (by decide +kernel) rfl (Nat.le_of_ble_eq_true rfl) (fun p e s m args below meth c A ls (S : CallFix p m c cX8_steal 5 s args wsX8_steal RX8) hr hlocks hl w => ?_)
  have hl : lv_has ls 5 [(0, .ref (b 0)), (1, .int xa), (2, .int xn), (3, .int xv)] := hl
  refine lv_iload_n S.1 S.2.1 dX8_steal_0 rfl (lv_at hl 1 rfl) ?_
  refine nv_pSi (rest := []) S w hl.1 (c_X8_isChannel l D Z xa ) gX8_steal_X8_isChannel rfl hdS_X8_isChannel ⟨Nat.le_of_ble_eq_true rfl, Nat.le_of_ble_eq_true rfl⟩ rfl rfl (Nat.le_of_ble_eq_true rfl) ⟨Nat.zero_le _, Nat.zero_le _⟩ dX8_steal_1 (fun H locs w => ?_)
  refine nv_if_neB S (tgt := 13) dX8_steal_4 (by decide) (fun h_1 => ?_) (fun h_1 => ?_)
  · skip
    refine lv_iload_n S.1 S.2.1 dX8_steal_13 rfl (lv_at hl 2 rfl) ?_
    refine lv_i2l (v := xn.toInt64) S.1 S.2.1 dX8_steal_14 rfl ?_
    refine lv_lconst (v := 1) S.1 S.2.1 dX8_steal_15 rfl ?_
    refine lv_ldc2 (v := 60) S.1 S.2.1 S.2.2.2.1 (S.2.2.2.2 _ (by decide +kernel)) dX8_steal_16 ?_
    refine nv_pSi (rest := []) S w hl.1 (c_X8_inI l D Z xn 1 60 (by omega) (by omega)) gX8_steal_X8_in rfl hdS_X8_in ⟨Nat.le_of_ble_eq_true rfl, Nat.le_of_ble_eq_true rfl⟩ rfl rfl (Nat.le_of_ble_eq_true rfl) ⟨Nat.zero_le _, Nat.zero_le _⟩ dX8_steal_19 (fun H locs w => ?_)
    refine nv_if_eqB S (tgt := 37) dX8_steal_22 (by decide) (fun h_2 => ?_) (fun h_2 => ?_)
    · skip
      refine lv_aload_n S.1 S.2.1 dX8_steal_37 rfl (lv_at hl 0 rfl) ?_
      refine lv_iconst (v := nI 2) S.1 S.2.1 dX8_steal_38 (ofInt_nI 2) ?_
      refine nv_cVi (rest := []) (ws' := mdM Z b X sv sd sm 2 tl pl ro nu t r) S w hl.1 (c_X8_throwing l D Z b X sv sd sm th tl pl ro nu t r 2 ) [0, 1, 2, 3, 4, 5] rfl rfl rfl rfl gX8_steal_X8_throwing rfl hdV_X8_throwing ⟨Nat.le_of_ble_eq_true rfl, Nat.le_of_ble_eq_true rfl⟩ (q0 := 0) rfl rfl rfl rfl (Nat.le_of_ble_eq_true rfl) ⟨Nat.zero_le _, Nat.zero_le _⟩ dX8_steal_39 (fun H locs w => ?_)
      exact nv_iret S w hr hlocks rfl (by rw [kC_2 h_1 (fun z9 => h_2 z9.1)]; try rfl) (by rw [kC_2 h_1 (fun z9 => h_2 z9.1)]; try rfl) dX8_steal_42
    · skip
      refine lv_iload_n S.1 S.2.1 dX8_steal_25 rfl (lv_at hl 3 rfl) ?_
      refine lv_i2l (v := xv.toInt64) S.1 S.2.1 dX8_steal_26 rfl ?_
      refine lv_lconst (v := 1) S.1 S.2.1 dX8_steal_27 rfl ?_
      refine lv_ldc2 (v := 99) S.1 S.2.1 S.2.2.2.1 (S.2.2.2.2 _ (by decide +kernel)) dX8_steal_28 ?_
      refine nv_pSi (rest := []) S w hl.1 (c_X8_inI l D Z xv 1 99 (by omega) (by omega)) gX8_steal_X8_in rfl hdS_X8_in ⟨Nat.le_of_ble_eq_true rfl, Nat.le_of_ble_eq_true rfl⟩ rfl rfl (Nat.le_of_ble_eq_true rfl) ⟨Nat.zero_le _, Nat.zero_le _⟩ dX8_steal_31 (fun H locs w => ?_)
      refine nv_if_neB S (tgt := 43) dX8_steal_34 (by decide) (fun h_3 => ?_) (fun h_3 => ?_)
      · skip
        obtain ⟨na, rfl, hna⟩ := rg_nat (by decide) (by decide) h_1
        have eqna : toN (nI na) = na := toN_nI (by omega)
        obtain ⟨nn, rfl, hnn⟩ := rg_nat (by decide) (by decide) h_2
        have eqnn : toN (nI nn) = nn := toN_nI (by omega)
        obtain ⟨nv, rfl, hnv⟩ := rg_nat (by decide) (by decide) h_3
        have eqnv : toN (nI nv) = nv := toN_nI (by omega)
        refine lv_aload_n S.1 S.2.1 dX8_steal_43 rfl (lv_at hl 0 rfl) ?_
        refine nv_cVv (rest := []) (ws' := mdM Z b X (svS sv sm X) sd (svN sm + 1) th tl pl ro nu t r) S w hl.1 (c_X8_save l D Z b X sv sd sm th tl pl ro nu t r (by omega)) [0, 1, 2, 3, 4, 5] rfl rfl rfl rfl gX8_steal_X8_save rfl hdV_X8_save ⟨Nat.le_of_ble_eq_true rfl, Nat.le_of_ble_eq_true rfl⟩ (q0 := 0) rfl rfl rfl rfl (Nat.le_of_ble_eq_true rfl) ⟨Nat.zero_le _, Nat.zero_le _⟩ dX8_steal_44 (fun H locs w => ?_)
        refine lv_aload_n S.1 S.2.1 dX8_steal_47 rfl (lv_at hl 0 rfl) ?_
        refine lv_iload_n S.1 S.2.1 dX8_steal_48 rfl (lv_at hl 1 rfl) ?_
        refine lv_iconst (v := nI 2) S.1 S.2.1 dX8_steal_49 (ofInt_nI 2) ?_
        refine nv_rVi (rest := []) S w hl.1 (c_X8_of l D Z b X (svS sv sm X) sd (svN sm + 1) th tl pl ro nu t r na 2 (by omega) (by omega)) [0, 1, 2, 3, 4, 5] rfl rfl gX8_steal_X8_of rfl hdV_X8_of ⟨Nat.le_of_ble_eq_true rfl, Nat.le_of_ble_eq_true rfl⟩ (q0 := 0) rfl rfl rfl rfl (Nat.le_of_ble_eq_true rfl) ⟨Nat.zero_le _, Nat.zero_le _⟩ dX8_steal_50 (fun H locs w => ?_)
        refine lv_istore (lv' := [(4, vI (X.2.2 na 2)), (0, .ref (b 0)), (1, vI na), (2, vI nn), (3, vI nv)]) S.1 S.2.1 dX8_steal_53 hl (by decide) rfl (fun ls hl => ?_)
        refine lv_aload_n S.1 S.2.1 dX8_steal_55 rfl (lv_at hl 1 rfl) ?_
        refine nv_get S w (C := RX8) (T := TX8) (N := 11) hn_X8_steal_8 0 rfl rfl 0 (by decide) (List.mem_of_getElem? (i := 3) rfl) (v := .ref (b 1)) rfl dX8_steal_56 ?_
        refine lv_iload_n S.1 S.2.1 dX8_steal_59 rfl (lv_at hl 2 rfl) ?_
        refine lv_iconst (v := nI 2) S.1 S.2.1 dX8_steal_60 (ofInt_nI 2) ?_
        refine nv_pSi (rest := [.ref (b 1)]) S w hl.1 (c_X8_at l D Z na 2 ) gX8_steal_X8_at rfl hdS_X8_at ⟨Nat.le_of_ble_eq_true rfl, Nat.le_of_ble_eq_true rfl⟩ rfl rfl (Nat.le_of_ble_eq_true rfl) ⟨Nat.zero_le _, Nat.zero_le _⟩ dX8_steal_61 (fun H locs w => ?_)
        refine lv_iload_n S.1 S.2.1 dX8_steal_64 rfl (lv_at hl 4 rfl) ?_
        refine nv_iast S w (i := (21 + 16 * na + 2)) (x := nv) (g := (enc X)) 1 rfl (by omega) (by decide) (ws' := [(b 0, .inr (7, [.ref (b 1), .ref (b 2), .ref (b 3), vI (svN sm + 1), vI th, .ref (b 4), vI tl, vI pl, .ref (b 5), vI ro, vI nu])), (b 1, .inl (Z 0, 853, .inl (ar 853 (un (enc X) (21 + 16 * na + 2) nv)))), (b 2, .inl (Z 0, 3412, .inl (ar 3412 (svS sv sm X)))), (b 3, .inl (Z 0, 853, .inl (ar 853 sd))), (b 4, .inl (Z 0, 100, .inl (ar 100 t))), (b 5, .inl (Z 0, 128, .inl (ar 128 r)))]) rfl dX8_steal_65 (fun H locs w => ?_)
        have w := w.as (ws' := mdM Z b (vX X na (un (X.2.2 na) 2 nv)) (svS sv sm X) sd (svN sm + 1) th tl pl ro nu t r) (mdM_e (un_v (by omega) (by decide)))
        refine lv_aload_n S.1 S.2.1 dX8_steal_66 rfl (lv_at hl 1 rfl) ?_
        refine nv_get S w (C := RX8) (T := TX8) (N := 11) hn_X8_steal_8 0 rfl rfl 0 (by decide) (List.mem_of_getElem? (i := 3) rfl) (v := .ref (b 1)) rfl dX8_steal_67 ?_
        refine lv_iload_n S.1 S.2.1 dX8_steal_70 rfl (lv_at hl 2 rfl) ?_
        refine lv_iconst (v := nI 3) S.1 S.2.1 dX8_steal_71 (ofInt_nI 3) ?_
        refine nv_pSi (rest := [.ref (b 1)]) S w hl.1 (c_X8_at l D Z na 3 ) gX8_steal_X8_at rfl hdS_X8_at ⟨Nat.le_of_ble_eq_true rfl, Nat.le_of_ble_eq_true rfl⟩ rfl rfl (Nat.le_of_ble_eq_true rfl) ⟨Nat.zero_le _, Nat.zero_le _⟩ dX8_steal_72 (fun H locs w => ?_)
        refine lv_iload_n S.1 S.2.1 dX8_steal_75 rfl (lv_at hl 3 rfl) ?_
        refine nv_iast S w (i := (21 + 16 * na + 3)) (x := nn) (g := (enc (vX X na (un (X.2.2 na) 2 nv)))) 1 rfl (by omega) (by decide) (ws' := [(b 0, .inr (7, [.ref (b 1), .ref (b 2), .ref (b 3), vI (svN sm + 1), vI th, .ref (b 4), vI tl, vI pl, .ref (b 5), vI ro, vI nu])), (b 1, .inl (Z 0, 853, .inl (ar 853 (un (enc (vX X na (un (X.2.2 na) 2 nv))) (21 + 16 * na + 3) nn)))), (b 2, .inl (Z 0, 3412, .inl (ar 3412 (svS sv sm X)))), (b 3, .inl (Z 0, 853, .inl (ar 853 sd))), (b 4, .inl (Z 0, 100, .inl (ar 100 t))), (b 5, .inl (Z 0, 128, .inl (ar 128 r)))]) rfl dX8_steal_76 (fun H locs w => ?_)
        have w := w.as (ws' := mdM Z b (mSt X na nn nv) (svS sv sm X) sd (svN sm + 1) th tl pl ro nu t r) (mdM_e (by rw [un_v (by omega) (by decide), vX_vX, vX_v]; rfl))
        refine lv_aload_n S.1 S.2.1 dX8_steal_77 rfl (lv_at hl 1 rfl) ?_
        refine lv_iload S.1 S.2.1 dX8_steal_78 (lv_at hl 0 rfl) ?_
        refine nv_cVi (rest := []) (ws' := mdM Z b (mSt X na nn nv) (svS sv sm X) sd (svN sm + 1) 0 tl pl ro nu t r) S w hl.1 (c_X8_fine l D Z b (mSt X na nn nv) (svS sv sm X) sd (svN sm + 1) th tl pl ro nu t r (nI (X.2.2 na 2)) ) [0, 1, 2, 3, 4, 5] rfl rfl rfl rfl gX8_steal_X8_fine rfl hdV_X8_fine ⟨Nat.le_of_ble_eq_true rfl, Nat.le_of_ble_eq_true rfl⟩ (q0 := 0) rfl rfl rfl rfl (Nat.le_of_ble_eq_true rfl) ⟨Nat.zero_le _, Nat.zero_le _⟩ dX8_steal_80 (fun H locs w => ?_)
        exact nv_iret S w hr hlocks rfl (by rw [kC_0 h_1 ⟨h_2, h_3⟩]; (try simp only [eqna, eqnn, eqnv]); first | done | rfl | (unfold ifz; rw [if_pos rfl])) (by rw [kC_0 h_1 ⟨h_2, h_3⟩]; (try simp only [eqna, eqnn, eqnv]); first | done | rfl | (simp only [ifz, eq_self_iff_true, if_true])) dX8_steal_83
      · skip
        refine lv_aload_n S.1 S.2.1 dX8_steal_37 rfl (lv_at hl 0 rfl) ?_
        refine lv_iconst (v := nI 2) S.1 S.2.1 dX8_steal_38 (ofInt_nI 2) ?_
        refine nv_cVi (rest := []) (ws' := mdM Z b X sv sd sm 2 tl pl ro nu t r) S w hl.1 (c_X8_throwing l D Z b X sv sd sm th tl pl ro nu t r 2 ) [0, 1, 2, 3, 4, 5] rfl rfl rfl rfl gX8_steal_X8_throwing rfl hdV_X8_throwing ⟨Nat.le_of_ble_eq_true rfl, Nat.le_of_ble_eq_true rfl⟩ (q0 := 0) rfl rfl rfl rfl (Nat.le_of_ble_eq_true rfl) ⟨Nat.zero_le _, Nat.zero_le _⟩ dX8_steal_39 (fun H locs w => ?_)
        exact nv_iret S w hr hlocks rfl (by rw [kC_2 h_1 (fun z9 => h_3 z9.2)]; try rfl) (by rw [kC_2 h_1 (fun z9 => h_3 z9.2)]; try rfl) dX8_steal_42
  · skip
    refine lv_aload_n S.1 S.2.1 dX8_steal_7 rfl (lv_at hl 0 rfl) ?_
    refine lv_iconst (v := nI 1) S.1 S.2.1 dX8_steal_8 (ofInt_nI 1) ?_
    refine nv_cVi (rest := []) (ws' := mdM Z b X sv sd sm 1 tl pl ro nu t r) S w hl.1 (c_X8_throwing l D Z b X sv sd sm th tl pl ro nu t r 1 ) [0, 1, 2, 3, 4, 5] rfl rfl rfl rfl gX8_steal_X8_throwing rfl hdV_X8_throwing ⟨Nat.le_of_ble_eq_true rfl, Nat.le_of_ble_eq_true rfl⟩ (q0 := 0) rfl rfl rfl rfl (Nat.le_of_ble_eq_true rfl) ⟨Nat.zero_le _, Nat.zero_le _⟩ dX8_steal_9 (fun H locs w => ?_)
    exact nv_iret S w hr hlocks rfl (by rw [kC_1 h_1]; try rfl) (by rw [kC_1 h_1]; try rfl) dX8_steal_12

theorem hn_X8_giveBack_8 : ∀ w ∈ wsX80, w ∈ wsX8_giveBack := by decide +kernel
set_option maxRecDepth 100000 in
set_option maxHeartbeats 4000000 in
theorem c_X8_giveBack (l : Launch) (D : va_G) (Z : Nat → ClassId) (b : Nat → Nat) (X : ST) (sv sd : Nat → Nat) (sm th tl pl ro nu : Nat) (t r : Nat → Nat) (xa : Int32) (hsm : sm ≤ 4) : Ci l yX8_giveBack wsX8_giveBack 2 45 D Z [.ref (b 0), .int xa] (mdM Z b X sv sd sm th tl pl ro nu t r) (ifz (kC (rgI 0 3 xa) True) (nI (X.2.2 (toN xa) 2)) (nI 0)) (mdM Z b (ifz (kC (rgI 0 3 xa) True) (mGb X (toN xa)) X) (ifz (kC (rgI 0 3 xa) True) (svS sv sm X) sv) sd (ifz (kC (rgI 0 3 xa) True) (svN sm + 1) sm) (kC (rgI 0 3 xa) True) tl pl ro nu t r) := by
  refine ne_i (cc := cX8_giveBack) (maxL := 3) (by decide +kernel) rfl (Nat.le_of_ble_eq_true rfl) (fun p e s m args below meth c A ls (S : CallFix p m c cX8_giveBack 3 s args wsX8_giveBack RX8) hr hlocks hl w => ?_)
  have hl : lv_has ls 3 [(0, .ref (b 0)), (1, .int xa)] := hl
  refine lv_iload_n S.1 S.2.1 dX8_giveBack_0 rfl (lv_at hl 1 rfl) ?_
  refine nv_pSi (rest := []) S w hl.1 (c_X8_isChannel l D Z xa ) gX8_giveBack_X8_isChannel rfl hdS_X8_isChannel ⟨Nat.le_of_ble_eq_true rfl, Nat.le_of_ble_eq_true rfl⟩ rfl rfl (Nat.le_of_ble_eq_true rfl) ⟨Nat.zero_le _, Nat.zero_le _⟩ dX8_giveBack_1 (fun H locs w => ?_)
  refine nv_if_neB S (tgt := 13) dX8_giveBack_4 (by decide) (fun h_1 => ?_) (fun h_1 => ?_)
  · skip
    obtain ⟨na, rfl, hna⟩ := rg_nat (by decide) (by decide) h_1
    have eqna : toN (nI na) = na := toN_nI (by omega)
    refine lv_aload_n S.1 S.2.1 dX8_giveBack_13 rfl (lv_at hl 0 rfl) ?_
    refine nv_cVv (rest := []) (ws' := mdM Z b X (svS sv sm X) sd (svN sm + 1) th tl pl ro nu t r) S w hl.1 (c_X8_save l D Z b X sv sd sm th tl pl ro nu t r (by omega)) [0, 1, 2, 3, 4, 5] rfl rfl rfl rfl gX8_giveBack_X8_save rfl hdV_X8_save ⟨Nat.le_of_ble_eq_true rfl, Nat.le_of_ble_eq_true rfl⟩ (q0 := 0) rfl rfl rfl rfl (Nat.le_of_ble_eq_true rfl) ⟨Nat.zero_le _, Nat.zero_le _⟩ dX8_giveBack_14 (fun H locs w => ?_)
    refine lv_aload_n S.1 S.2.1 dX8_giveBack_17 rfl (lv_at hl 0 rfl) ?_
    refine lv_iload_n S.1 S.2.1 dX8_giveBack_18 rfl (lv_at hl 1 rfl) ?_
    refine lv_iconst (v := nI 2) S.1 S.2.1 dX8_giveBack_19 (ofInt_nI 2) ?_
    refine nv_rVi (rest := []) S w hl.1 (c_X8_of l D Z b X (svS sv sm X) sd (svN sm + 1) th tl pl ro nu t r na 2 (by omega) (by omega)) [0, 1, 2, 3, 4, 5] rfl rfl gX8_giveBack_X8_of rfl hdV_X8_of ⟨Nat.le_of_ble_eq_true rfl, Nat.le_of_ble_eq_true rfl⟩ (q0 := 0) rfl rfl rfl rfl (Nat.le_of_ble_eq_true rfl) ⟨Nat.zero_le _, Nat.zero_le _⟩ dX8_giveBack_20 (fun H locs w => ?_)
    refine lv_istore_n (lv' := [(2, vI (X.2.2 na 2)), (0, .ref (b 0)), (1, vI na)]) S.1 S.2.1 dX8_giveBack_23 rfl hl (by decide) rfl (fun ls hl => ?_)
    refine lv_aload_n S.1 S.2.1 dX8_giveBack_24 rfl (lv_at hl 1 rfl) ?_
    refine nv_get S w (C := RX8) (T := TX8) (N := 11) hn_X8_giveBack_8 0 rfl rfl 0 (by decide) (List.mem_of_getElem? (i := 1) rfl) (v := .ref (b 1)) rfl dX8_giveBack_25 ?_
    refine lv_iload_n S.1 S.2.1 dX8_giveBack_28 rfl (lv_at hl 2 rfl) ?_
    refine lv_iconst (v := nI 2) S.1 S.2.1 dX8_giveBack_29 (ofInt_nI 2) ?_
    refine nv_pSi (rest := [.ref (b 1)]) S w hl.1 (c_X8_at l D Z na 2 ) gX8_giveBack_X8_at rfl hdS_X8_at ⟨Nat.le_of_ble_eq_true rfl, Nat.le_of_ble_eq_true rfl⟩ rfl rfl (Nat.le_of_ble_eq_true rfl) ⟨Nat.zero_le _, Nat.zero_le _⟩ dX8_giveBack_30 (fun H locs w => ?_)
    refine lv_iconst (v := nI 0) S.1 S.2.1 dX8_giveBack_33 (ofInt_nI 0) ?_
    refine nv_iast S w (i := (21 + 16 * na + 2)) (x := 0) (g := (enc X)) 1 rfl (by omega) (by decide) (ws' := [(b 0, .inr (7, [.ref (b 1), .ref (b 2), .ref (b 3), vI (svN sm + 1), vI th, .ref (b 4), vI tl, vI pl, .ref (b 5), vI ro, vI nu])), (b 1, .inl (Z 0, 853, .inl (ar 853 (un (enc X) (21 + 16 * na + 2) 0)))), (b 2, .inl (Z 0, 3412, .inl (ar 3412 (svS sv sm X)))), (b 3, .inl (Z 0, 853, .inl (ar 853 sd))), (b 4, .inl (Z 0, 100, .inl (ar 100 t))), (b 5, .inl (Z 0, 128, .inl (ar 128 r)))]) rfl dX8_giveBack_34 (fun H locs w => ?_)
    have w := w.as (ws' := mdM Z b (mGb X na) (svS sv sm X) sd (svN sm + 1) th tl pl ro nu t r) (mdM_e (by rw [un_v (by omega) (by decide)]; rfl))
    refine lv_aload_n S.1 S.2.1 dX8_giveBack_35 rfl (lv_at hl 1 rfl) ?_
    refine lv_iload_n S.1 S.2.1 dX8_giveBack_36 rfl (lv_at hl 0 rfl) ?_
    refine nv_cVi (rest := []) (ws' := mdM Z b (mGb X na) (svS sv sm X) sd (svN sm + 1) 0 tl pl ro nu t r) S w hl.1 (c_X8_fine l D Z b (mGb X na) (svS sv sm X) sd (svN sm + 1) th tl pl ro nu t r (nI (X.2.2 na 2)) ) [0, 1, 2, 3, 4, 5] rfl rfl rfl rfl gX8_giveBack_X8_fine rfl hdV_X8_fine ⟨Nat.le_of_ble_eq_true rfl, Nat.le_of_ble_eq_true rfl⟩ (q0 := 0) rfl rfl rfl rfl (Nat.le_of_ble_eq_true rfl) ⟨Nat.zero_le _, Nat.zero_le _⟩ dX8_giveBack_37 (fun H locs w => ?_)
    exact nv_iret S w hr hlocks rfl (by rw [kC_0 h_1 trivial]; (try simp only [eqna]); first | done | rfl | (unfold ifz; rw [if_pos rfl])) (by rw [kC_0 h_1 trivial]; (try simp only [eqna]); first | done | rfl | (simp only [ifz, eq_self_iff_true, if_true])) dX8_giveBack_40
  · skip
    refine lv_aload_n S.1 S.2.1 dX8_giveBack_7 rfl (lv_at hl 0 rfl) ?_
    refine lv_iconst (v := nI 1) S.1 S.2.1 dX8_giveBack_8 (ofInt_nI 1) ?_
    refine nv_cVi (rest := []) (ws' := mdM Z b X sv sd sm 1 tl pl ro nu t r) S w hl.1 (c_X8_throwing l D Z b X sv sd sm th tl pl ro nu t r 1 ) [0, 1, 2, 3, 4, 5] rfl rfl rfl rfl gX8_giveBack_X8_throwing rfl hdV_X8_throwing ⟨Nat.le_of_ble_eq_true rfl, Nat.le_of_ble_eq_true rfl⟩ (q0 := 0) rfl rfl rfl rfl (Nat.le_of_ble_eq_true rfl) ⟨Nat.zero_le _, Nat.zero_le _⟩ dX8_giveBack_9 (fun H locs w => ?_)
    exact nv_iret S w hr hlocks rfl (by rw [kC_1 h_1]; try rfl) (by rw [kC_1 h_1]; try rfl) dX8_giveBack_12
