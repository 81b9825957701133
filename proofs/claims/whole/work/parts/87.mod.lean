theorem mGb_PB {G : SG} {X : ST} {c : Nat} (hc : c < 4) (h : PB G X.2) : PB G (mGb X c).2 := by
  obtain ⟨h0, h1, h2, h3, h4, h5⟩ := h
  refine ⟨h0, h1, h2, h3, h4, VS_uv h5 ⟨?_, FR_un (h5 c hc).2 (by decide) (by decide) (h5 c hc).1.f3⟩⟩
  have := (h5 c hc).1
  unfold VB at *
  simp [un_at]
  omega

theorem hn_X8_unheard_8 : ∀ w ∈ wsX80, w ∈ wsX8_unheard := by decide +kernel
set_option maxRecDepth 100000 in
set_option maxHeartbeats 4000000 in
theorem k_X8_unheard (l : Launch) (D : va_G) (Z : Nat → ClassId) (b : Nat → Nat) (X : ST) (sv sd : Nat → Nat) (sm th tl pl ro nu : Nat) (t r : Nat → Nat) (xa xn : Int32) (hX : XB X) {p : Program} {e : Env} {s : State} {m : MethodId} {args : Array Value} {below : List Frame} {meth : Method} {c : Code} {A : Nat → Prop} (S : CallFix p m c cX8_unheard 6 s args wsX8_unheard RX8) (hr : meth.sig.returnType = (some .int)) (hlocks : meth.locks = false) : ∀ (n9 : Nat), (∀ (nd nt j ov i : Nat) (hnd : nd < 4) (hnt : nt ≤ 60) (hj : j ≤ 99) (ho1 : ov ≤ 1) (exa : xa = nI nd) (exn : xn = nI nt) (hkc : kC (rgI 0 3 xa) (rgI 1 60 xn) = 0) (hov : (ov = 1 ∧ i = j ∧ uhK X.1 (mGb X nd).2 nd (16 * (16 * nt) + 15) 99 0 = uhK X.1 (mGb X nd).2 nd (16 * (16 * nt) + 15) (99 - j) j) ∨ (ov = 0 ∧ uhK X.1 (mGb X nd).2 nd (16 * (16 * nt) + 15) 99 0 = j)) (hm : 2 * (99 - j) + ov < n9), ∀ (H : Heap) (locs : List Loc) (ls : Array Slot) (hl : lv_has ls 6 [(0, .ref (b 0)), (1, vI nd), (2, vI nt), (3, vI j), (4, vI ov)]) (w : Wd D Z A s (mdM Z b (X.1, tkN X.1 (mGb X nd).2 i) sv (enc X) sm th tl pl ro nu t r) H locs), W p l e (rmO 5 112) s m args below meth c H locs 0 0 (Qi below D Z A args s (ifz (kC (rgI 0 3 xa) (rgI 1 60 xn)) (nI (uhK X.1 (mGb X (toN xa)).2 (toN xa) (16 * (16 * (toN xn)) + 15) 99 0)) (nI 0)) (mdM Z b X sv (ifz (kC (rgI 0 3 xa) (rgI 1 60 xn)) (enc X) sd) sm (kC (rgI 0 3 xa) (rgI 1 60 xn)) tl pl ro nu t r)) (F0 m 51 ls [])) := by
  intro n9
  induction n9 with
  | zero => intro nd nt j ov i hnd hnt hj ho1 exa exn hkc hov hm; exact absurd hm (Nat.not_lt_zero _)
  | succ n9 ih =>
    skip
    · intro nd nt j ov i hnd hnt hj ho1 exa exn hkc hov hm H locs ls hl w
      subst exa
      subst exn
      have eqnd : toN (nI nd) = nd := toN_nI (by omega)
      have eqnt : toN (nI nt) = nt := toN_nI (by omega)
      have hPB := mGb_PB (c := nd) hnd hX.2.1
      refine lv_iload_n S.1 S.2.1 dX8_unheard_51 rfl (lv_at hl 3 rfl) ?_
      refine lv_bipush (v := nI 99) S.1 S.2.1 dX8_unheard_52 (by decide +kernel) ?_
      refine nv_icmp_ge S (by omega) (by omega) (tgt := 105) dX8_unheard_54 (by decide) (fun h_1 => ?_) (fun h_1 => ?_)
      · skip
        refine lv_aload_n S.1 S.2.1 dX8_unheard_105 rfl (lv_at hl 0 rfl) ?_
        refine nv_cVv (rest := []) (ws' := mdM Z b X sv (enc X) sm th tl pl ro nu t r) S w hl.1 (c_X8_takesBack l D Z b (X.1, tkN X.1 (mGb X nd).2 i) X sv sm th tl pl ro nu t r ) [0, 1, 2, 3, 4, 5] rfl rfl rfl rfl gX8_unheard_X8_takesBack rfl hdV_X8_takesBack ⟨Nat.le_of_ble_eq_true rfl, Nat.le_of_ble_eq_true rfl⟩ (q0 := 0) rfl rfl rfl rfl (Nat.le_of_ble_eq_true rfl) ⟨Nat.zero_le _, Nat.zero_le _⟩ dX8_unheard_106 (fun H locs w => ?_)
        refine lv_aload_n S.1 S.2.1 dX8_unheard_109 rfl (lv_at hl 0 rfl) ?_
        refine lv_iload_n S.1 S.2.1 dX8_unheard_110 rfl (lv_at hl 3 rfl) ?_
        refine nv_cVi (rest := []) (ws' := mdM Z b X sv (enc X) sm 0 tl pl ro nu t r) S w hl.1 (c_X8_fine l D Z b X sv (enc X) sm th tl pl ro nu t r (nI j) ) [0, 1, 2, 3, 4, 5] rfl rfl rfl rfl gX8_unheard_X8_fine rfl hdV_X8_fine ⟨Nat.le_of_ble_eq_true rfl, Nat.le_of_ble_eq_true rfl⟩ (q0 := 0) rfl rfl rfl rfl (Nat.le_of_ble_eq_true rfl) ⟨Nat.zero_le _, Nat.zero_le _⟩ dX8_unheard_111 (fun H locs w => ?_)
        exact nv_iret S w hr hlocks rfl (by rcases hov with ⟨a1, a2, a3⟩ | ⟨a1, a3⟩ <;> first | (exfalso; omega) | (rw [hkc, eqnd, eqnt, a3, show 99 - j = 0 by omega]; rfl) | (rw [hkc, eqnd, eqnt, a3]; rfl)) (by rw [hkc]; first | done | rfl | (simp only [ifz, eq_self_iff_true, if_true])) dX8_unheard_114
      · skip
        refine lv_iload S.1 S.2.1 dX8_unheard_57 (lv_at hl 4 rfl) ?_
        refine nv_if_eq S (by omega) (tgt := 105) dX8_unheard_59 (by decide) (fun h_2 => ?_) (fun h_2 => ?_)
        · skip
          refine lv_aload_n S.1 S.2.1 dX8_unheard_105 rfl (lv_at hl 0 rfl) ?_
          refine nv_cVv (rest := []) (ws' := mdM Z b X sv (enc X) sm th tl pl ro nu t r) S w hl.1 (c_X8_takesBack l D Z b (X.1, tkN X.1 (mGb X nd).2 i) X sv sm th tl pl ro nu t r ) [0, 1, 2, 3, 4, 5] rfl rfl rfl rfl gX8_unheard_X8_takesBack rfl hdV_X8_takesBack ⟨Nat.le_of_ble_eq_true rfl, Nat.le_of_ble_eq_true rfl⟩ (q0 := 0) rfl rfl rfl rfl (Nat.le_of_ble_eq_true rfl) ⟨Nat.zero_le _, Nat.zero_le _⟩ dX8_unheard_106 (fun H locs w => ?_)
          refine lv_aload_n S.1 S.2.1 dX8_unheard_109 rfl (lv_at hl 0 rfl) ?_
          refine lv_iload_n S.1 S.2.1 dX8_unheard_110 rfl (lv_at hl 3 rfl) ?_
          refine nv_cVi (rest := []) (ws' := mdM Z b X sv (enc X) sm 0 tl pl ro nu t r) S w hl.1 (c_X8_fine l D Z b X sv (enc X) sm th tl pl ro nu t r (nI j) ) [0, 1, 2, 3, 4, 5] rfl rfl rfl rfl gX8_unheard_X8_fine rfl hdV_X8_fine ⟨Nat.le_of_ble_eq_true rfl, Nat.le_of_ble_eq_true rfl⟩ (q0 := 0) rfl rfl rfl rfl (Nat.le_of_ble_eq_true rfl) ⟨Nat.zero_le _, Nat.zero_le _⟩ dX8_unheard_111 (fun H locs w => ?_)
          exact nv_iret S w hr hlocks rfl (by rcases hov with ⟨a1, a2, a3⟩ | ⟨a1, a3⟩ <;> first | (exfalso; omega) | (rw [hkc, eqnd, eqnt, a3, show 99 - j = 0 by omega]; rfl) | (rw [hkc, eqnd, eqnt, a3]; rfl)) (by rw [hkc]; first | done | rfl | (simp only [ifz, eq_self_iff_true, if_true])) dX8_unheard_114
        · skip
          refine lv_aload_n S.1 S.2.1 dX8_unheard_62 rfl (lv_at hl 0 rfl) ?_
          refine nv_cVi (rest := []) (ws' := mdM Z b ((X.1, tkN X.1 (mGb X nd).2 i).1, tkP (X.1, tkN X.1 (mGb X nd).2 i).1 (X.1, tkN X.1 (mGb X nd).2 i).2) sv (enc X) sm th tl pl ro nu t r) S w hl.1 (c_X8_tick l D Z b (X.1, tkN X.1 (mGb X nd).2 i) sv (enc X) sm th tl pl ro nu t r hX.1 (tkN_PB hX.1 hPB i)) [0, 1, 2, 3, 4, 5] rfl rfl rfl rfl gX8_unheard_X8_tick rfl hdV_X8_tick ⟨Nat.le_of_ble_eq_true rfl, Nat.le_of_ble_eq_true rfl⟩ (q0 := 0) rfl rfl rfl rfl (Nat.le_of_ble_eq_true rfl) ⟨Nat.zero_le _, Nat.zero_le _⟩ dX8_unheard_63 (fun H locs w => ?_)
          have w := w.as (ws' := mdM Z b (X.1, tkN X.1 (mGb X nd).2 (i + 1)) sv (enc X) sm th tl pl ro nu t r) rfl
          refine lv_istore (lv' := [(5, vI (bP ((tkP (X.1, tkN X.1 (mGb X nd).2 i).1 (X.1, tkN X.1 (mGb X nd).2 i).2).1 5 = (X.1, tkN X.1 (mGb X nd).2 i).2.1 5 + 1))), (0, .ref (b 0)), (1, vI nd), (2, vI nt), (3, vI j), (4, vI ov)]) S.1 S.2.1 dX8_unheard_66 hl (by decide) rfl (fun ls hl => ?_)
          refine lv_aload_n S.1 S.2.1 dX8_unheard_68 rfl (lv_at hl 1 rfl) ?_
          refine lv_iload_n S.1 S.2.1 dX8_unheard_69 rfl (lv_at hl 2 rfl) ?_
          refine lv_bipush (v := nI 11) S.1 S.2.1 dX8_unheard_70 (by decide +kernel) ?_
          refine nv_rVi (rest := []) S w hl.1 (c_X8_of l D Z b (X.1, tkN X.1 (mGb X nd).2 (i + 1)) sv (enc X) sm th tl pl ro nu t r nd 11 (by omega) (by omega)) [0, 1, 2, 3, 4, 5] rfl rfl gX8_unheard_X8_of rfl hdV_X8_of ⟨Nat.le_of_ble_eq_true rfl, Nat.le_of_ble_eq_true rfl⟩ (q0 := 0) rfl rfl rfl rfl (Nat.le_of_ble_eq_true rfl) ⟨Nat.zero_le _, Nat.zero_le _⟩ dX8_unheard_72 (fun H locs w => ?_)
          refine W.eq (g2 := F0 m 75 ls [vI ((tkN X.1 (mGb X nd).2 (i + 1)).2 nd 11)]) rfl ?_
          have hvb := ((tkN_PB hX.1 hPB (i + 1)).2.2.2.2.2 nd hnd).1
          unfold VB at hvb
          refine lv_iload_n S.1 S.2.1 dX8_unheard_75 rfl (lv_at hl 3 rfl) ?_
          refine nv_pSi (rest := [vI ((tkN X.1 (mGb X nd).2 (i + 1)).2 nd 11)]) S w hl.1 (c_X8_heardBy l D Z nt ) gX8_unheard_X8_heardBy rfl hdS_X8_heardBy ⟨Nat.le_of_ble_eq_true rfl, Nat.le_of_ble_eq_true rfl⟩ rfl rfl (Nat.le_of_ble_eq_true rfl) ⟨Nat.zero_le _, Nat.zero_le _⟩ dX8_unheard_76 (fun H locs w => ?_)
          refine nv_icmp_ne S (by omega) (by omega) (tgt := 86) dX8_unheard_79 (by decide) (fun h_3 => ?_) (fun h_3 => ?_)
          · skip
            refine lv_iconst (v := nI 0) S.1 S.2.1 dX8_unheard_86 (ofInt_nI 0) ?_
            refine lv_istore (lv' := [(4, vI 0), (5, vI (bP ((tkP (X.1, tkN X.1 (mGb X nd).2 i).1 (X.1, tkN X.1 (mGb X nd).2 i).2).1 5 = (X.1, tkN X.1 (mGb X nd).2 i).2.1 5 + 1))), (0, .ref (b 0)), (1, vI nd), (2, vI nt), (3, vI j)]) S.1 S.2.1 dX8_unheard_87 hl (by decide) rfl (fun ls hl => ?_)
            refine lv_iload_n S.1 S.2.1 dX8_unheard_89 rfl (lv_at hl 5 rfl) ?_
            refine lv_iload S.1 S.2.1 dX8_unheard_90 (lv_at hl 0 rfl) ?_
            refine lv_if_eq (tgt := 99) S.1 S.2.1 dX8_unheard_92 (by decide) (fun _ => ?_) (fun h9 => absurd (by decide) h9)
            refine lv_iconst (v := nI 0) S.1 S.2.1 dX8_unheard_99 (ofInt_nI 0) ?_
            refine nv_iadd S dX8_unheard_100 ?_
            refine lv_istore_n (lv' := [(3, vI (j + 0)), (4, vI 0), (5, vI (bP ((tkP (X.1, tkN X.1 (mGb X nd).2 i).1 (X.1, tkN X.1 (mGb X nd).2 i).2).1 5 = (X.1, tkN X.1 (mGb X nd).2 i).2.1 5 + 1))), (0, .ref (b 0)), (1, vI nd), (2, vI nt)]) S.1 S.2.1 dX8_unheard_101 rfl hl (by decide) rfl (fun ls hl => ?_)
            refine lv_goto (tgt := 51) S.1 S.2.1 dX8_unheard_102 (by decide) ?_
            exact ih nd nt (j + 0) 0 (i + 1) (by omega) (by omega) (by omega) (by omega) rfl rfl hkc (by rcases hov with ⟨a1, a2, a3⟩ | ⟨a1, a3⟩ <;> first | (exfalso; omega) | (right; refine ⟨rfl, ?_⟩; rw [a2] at h_3; rw [a3, show 99 - j = (98 - j) + 1 by omega, uhK, if_neg h_3]; try rfl)) (by omega) _ _ _ (lv_sub hl [3, 4, 5, 0, 1] rfl) w
          · skip
            refine lv_iconst (v := nI 1) S.1 S.2.1 dX8_unheard_82 (ofInt_nI 1) ?_
            refine lv_goto (tgt := 87) S.1 S.2.1 dX8_unheard_83 (by decide) ?_
            refine lv_istore (lv' := [(4, vI 1), (5, vI (bP ((tkP (X.1, tkN X.1 (mGb X nd).2 i).1 (X.1, tkN X.1 (mGb X nd).2 i).2).1 5 = (X.1, tkN X.1 (mGb X nd).2 i).2.1 5 + 1))), (0, .ref (b 0)), (1, vI nd), (2, vI nt), (3, vI j)]) S.1 S.2.1 dX8_unheard_87 hl (by decide) rfl (fun ls hl => ?_)
            refine lv_iload_n S.1 S.2.1 dX8_unheard_89 rfl (lv_at hl 5 rfl) ?_
            refine lv_iload S.1 S.2.1 dX8_unheard_90 (lv_at hl 0 rfl) ?_
            refine lv_if_eq (tgt := 99) S.1 S.2.1 dX8_unheard_92 (by decide) (fun h9 => absurd h9 (by decide)) (fun _ => ?_)
            refine lv_iconst (v := nI 1) S.1 S.2.1 dX8_unheard_95 (ofInt_nI 1) ?_
            refine lv_goto (tgt := 100) S.1 S.2.1 dX8_unheard_96 (by decide) ?_
            refine nv_iadd S dX8_unheard_100 ?_
            refine lv_istore_n (lv' := [(3, vI (j + 1)), (4, vI 1), (5, vI (bP ((tkP (X.1, tkN X.1 (mGb X nd).2 i).1 (X.1, tkN X.1 (mGb X nd).2 i).2).1 5 = (X.1, tkN X.1 (mGb X nd).2 i).2.1 5 + 1))), (0, .ref (b 0)), (1, vI nd), (2, vI nt)]) S.1 S.2.1 dX8_unheard_101 rfl hl (by decide) rfl (fun ls hl => ?_)
            refine lv_goto (tgt := 51) S.1 S.2.1 dX8_unheard_102 (by decide) ?_
            exact ih nd nt (j + 1) 1 (i + 1) (by omega) (by omega) (by omega) (by omega) rfl rfl hkc (by rcases hov with ⟨a1, a2, a3⟩ | ⟨a1, a3⟩ <;> first | (exfalso; omega) | (left; refine ⟨rfl, by omega, ?_⟩; rw [a2] at h_3; rw [a3, show 99 - j = (98 - j) + 1 by omega, uhK, if_pos h_3, show 99 - (j + 1) = 98 - j by omega])) (by omega) _ _ _ (lv_sub hl [3, 4, 5, 0, 1] rfl) w
set_option maxRecDepth 100000 in
set_option maxHeartbeats 4000000 in
theorem c_X8_unheard (l : Launch) (D : va_G) (Z : Nat → ClassId) (b : Nat → Nat) (X : ST) (sv sd : Nat → Nat) (sm th tl pl ro nu : Nat) (t r : Nat → Nat) (xa xn : Int32) (hX : XB X) : Ci l yX8_unheard wsX8_unheard 5 112 D Z [.ref (b 0), .int xa, .int xn] (mdM Z b X sv sd sm th tl pl ro nu t r) (ifz (kC (rgI 0 3 xa) (rgI 1 60 xn)) (nI (uhK X.1 (mGb X (toN xa)).2 (toN xa) (16 * (16 * (toN xn)) + 15) 99 0)) (nI 0)) (mdM Z b X sv (ifz (kC (rgI 0 3 xa) (rgI 1 60 xn)) (enc X) sd) sm (kC (rgI 0 3 xa) (rgI 1 60 xn)) tl pl ro nu t r) := by
  refine ne_i (cc := cX8_unheard) (maxL := 6) (by decide +kernel) rfl (Nat.le_of_ble_eq_true rfl) (fun p e s m args below meth c A ls (S : CallFix p m c cX8_unheard 6 s args wsX8_unheard RX8) hr hlocks hl w => ?_)
  have hl : lv_has ls 6 [(0, .ref (b 0)), (1, .int xa), (2, .int xn)] := hl
  refine lv_iload_n S.1 S.2.1 dX8_unheard_0 rfl (lv_at hl 1 rfl) ?_
  refine nv_pSi (rest := []) S w hl.1 (c_X8_isChannel l D Z xa ) gX8_unheard_X8_isChannel rfl hdS_X8_isChannel ⟨Nat.le_of_ble_eq_true rfl, Nat.le_of_ble_eq_true rfl⟩ rfl rfl (Nat.le_of_ble_eq_true rfl) ⟨Nat.zero_le _, Nat.zero_le _⟩ dX8_unheard_1 (fun H locs w => ?_)
  refine nv_if_neB S (tgt := 13) dX8_unheard_4 (by decide) (fun h_6 => ?_) (fun h_6 => ?_)
  · skip
    refine lv_iload_n S.1 S.2.1 dX8_unheard_13 rfl (lv_at hl 2 rfl) ?_
    refine lv_i2l (v := xn.toInt64) S.1 S.2.1 dX8_unheard_14 rfl ?_
    refine lv_lconst (v := 1) S.1 S.2.1 dX8_unheard_15 rfl ?_
    refine lv_ldc2 (v := 60) S.1 S.2.1 S.2.2.2.1 (S.2.2.2.2 _ (by decide +kernel)) dX8_unheard_16 ?_
    refine nv_pSi (rest := []) S w hl.1 (c_X8_inI l D Z xn 1 60 (by omega) (by omega)) gX8_unheard_X8_in rfl hdS_X8_in ⟨Nat.le_of_ble_eq_true rfl, Nat.le_of_ble_eq_true rfl⟩ rfl rfl (Nat.le_of_ble_eq_true rfl) ⟨Nat.zero_le _, Nat.zero_le _⟩ dX8_unheard_19 (fun H locs w => ?_)
    refine nv_if_neB S (tgt := 31) dX8_unheard_22 (by decide) (fun h_7 => ?_) (fun h_7 => ?_)
    · skip
      obtain ⟨na, rfl, hna⟩ := rg_nat (by decide) (by decide) h_6
      have eqna : toN (nI na) = na := toN_nI (by omega)
      obtain ⟨nn, rfl, hnn⟩ := rg_nat (by decide) (by decide) h_7
      have eqnn : toN (nI nn) = nn := toN_nI (by omega)
      refine lv_aload_n S.1 S.2.1 dX8_unheard_31 rfl (lv_at hl 0 rfl) ?_
      refine nv_cVv (rest := []) (ws' := mdM Z b X sv (enc X) sm th tl pl ro nu t r) S w hl.1 (c_X8_laysAside l D Z b X sv sd sm th tl pl ro nu t r ) [0, 1, 2, 3, 4, 5] rfl rfl rfl rfl gX8_unheard_X8_laysAside rfl hdV_X8_laysAside ⟨Nat.le_of_ble_eq_true rfl, Nat.le_of_ble_eq_true rfl⟩ (q0 := 0) rfl rfl rfl rfl (Nat.le_of_ble_eq_true rfl) ⟨Nat.zero_le _, Nat.zero_le _⟩ dX8_unheard_32 (fun H locs w => ?_)
      refine lv_aload_n S.1 S.2.1 dX8_unheard_35 rfl (lv_at hl 0 rfl) ?_
      refine nv_get S w (C := RX8) (T := TX8) (N := 11) hn_X8_unheard_8 0 rfl rfl 0 (by decide) (List.mem_of_getElem? (i := 2) rfl) (v := .ref (b 1)) rfl dX8_unheard_36 ?_
      refine lv_iload_n S.1 S.2.1 dX8_unheard_39 rfl (lv_at hl 1 rfl) ?_
      refine lv_iconst (v := nI 2) S.1 S.2.1 dX8_unheard_40 (ofInt_nI 2) ?_
      refine nv_pSi (rest := [.ref (b 1)]) S w hl.1 (c_X8_at l D Z na 2 ) gX8_unheard_X8_at rfl hdS_X8_at ⟨Nat.le_of_ble_eq_true rfl, Nat.le_of_ble_eq_true rfl⟩ rfl rfl (Nat.le_of_ble_eq_true rfl) ⟨Nat.zero_le _, Nat.zero_le _⟩ dX8_unheard_41 (fun H locs w => ?_)
      refine lv_iconst (v := nI 0) S.1 S.2.1 dX8_unheard_44 (ofInt_nI 0) ?_
      refine nv_iast S w (i := (21 + 16 * na + 2)) (x := 0) (g := (enc X)) 1 rfl (by omega) (by decide) (ws' := [(b 0, .inr (7, [.ref (b 1), .ref (b 2), .ref (b 3), vI sm, vI th, .ref (b 4), vI tl, vI pl, .ref (b 5), vI ro, vI nu])), (b 1, .inl (Z 0, 853, .inl (ar 853 (un (enc X) (21 + 16 * na + 2) 0)))), (b 2, .inl (Z 0, 3412, .inl (ar 3412 sv))), (b 3, .inl (Z 0, 853, .inl (ar 853 (enc X)))), (b 4, .inl (Z 0, 100, .inl (ar 100 t))), (b 5, .inl (Z 0, 128, .inl (ar 128 r)))]) rfl dX8_unheard_45 (fun H locs w => ?_)
      have w := w.as (ws' := mdM Z b (mGb X na) sv (enc X) sm th tl pl ro nu t r) (mdM_e (by rw [un_v (by omega) (by decide)]; rfl))
      have w := w.as (ws' := mdM Z b (X.1, tkN X.1 (mGb X na).2 0) sv (enc X) sm th tl pl ro nu t r) rfl
      refine lv_iconst (v := nI 0) S.1 S.2.1 dX8_unheard_46 (ofInt_nI 0) ?_
      refine lv_istore_n (lv' := [(3, vI 0), (0, .ref (b 0)), (1, vI na), (2, vI nn)]) S.1 S.2.1 dX8_unheard_47 rfl hl (by decide) rfl (fun ls hl => ?_)
      refine lv_iconst (v := nI 1) S.1 S.2.1 dX8_unheard_48 (ofInt_nI 1) ?_
      refine lv_istore (lv' := [(4, vI 1), (3, vI 0), (0, .ref (b 0)), (1, vI na), (2, vI nn)]) S.1 S.2.1 dX8_unheard_49 hl (by decide) rfl (fun ls hl => ?_)
      exact k_X8_unheard l D Z b X sv sd sm th tl pl ro nu t r (nI na) (nI nn) hX S hr hlocks _ na nn 0 1 0 (by omega) (by omega) (by omega) (by omega) rfl rfl (kC_0 h_6 h_7) (Or.inl ⟨rfl, rfl, rfl⟩) (Nat.lt_succ_self _) _ _ _ (lv_sub hl [2, 3, 4, 1, 0] rfl) w
    · skip
      refine lv_aload_n S.1 S.2.1 dX8_unheard_25 rfl (lv_at hl 0 rfl) ?_
      refine lv_iconst (v := nI 2) S.1 S.2.1 dX8_unheard_26 (ofInt_nI 2) ?_
      refine nv_cVi (rest := []) (ws' := mdM Z b X sv sd sm 2 tl pl ro nu t r) S w hl.1 (c_X8_throwing l D Z b X sv sd sm th tl pl ro nu t r 2 ) [0, 1, 2, 3, 4, 5] rfl rfl rfl rfl gX8_unheard_X8_throwing rfl hdV_X8_throwing ⟨Nat.le_of_ble_eq_true rfl, Nat.le_of_ble_eq_true rfl⟩ (q0 := 0) rfl rfl rfl rfl (Nat.le_of_ble_eq_true rfl) ⟨Nat.zero_le _, Nat.zero_le _⟩ dX8_unheard_27 (fun H locs w => ?_)
      exact nv_iret S w hr hlocks rfl (by rw [kC_2 h_6 h_7]; try rfl) (by rw [kC_2 h_6 h_7]; first | done | rfl | (simp only [ifz, Nat.succ_ne_zero, OfNat.ofNat_ne_zero, if_false, reduceIte]; done)) dX8_unheard_30
  · skip
    refine lv_aload_n S.1 S.2.1 dX8_unheard_7 rfl (lv_at hl 0 rfl) ?_
    refine lv_iconst (v := nI 1) S.1 S.2.1 dX8_unheard_8 (ofInt_nI 1) ?_
    refine nv_cVi (rest := []) (ws' := mdM Z b X sv sd sm 1 tl pl ro nu t r) S w hl.1 (c_X8_throwing l D Z b X sv sd sm th tl pl ro nu t r 1 ) [0, 1, 2, 3, 4, 5] rfl rfl rfl rfl gX8_unheard_X8_throwing rfl hdV_X8_throwing ⟨Nat.le_of_ble_eq_true rfl, Nat.le_of_ble_eq_true rfl⟩ (q0 := 0) rfl rfl rfl rfl (Nat.le_of_ble_eq_true rfl) ⟨Nat.zero_le _, Nat.zero_le _⟩ dX8_unheard_9 (fun H locs w => ?_)
    exact nv_iret S w hr hlocks rfl (by rw [kC_1 h_6]; try rfl) (by rw [kC_1 h_6]; first | done | rfl | (simp only [ifz, Nat.succ_ne_zero, OfNat.ofNat_ne_zero, if_false, reduceIte]; done)) dX8_unheard_12
