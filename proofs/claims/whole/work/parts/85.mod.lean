theorem rt_step {G : SG} {P : PG} {j r : Nat} (hj : j < 1000) (h5 : (tkN G P j).1 5 = P.1 5) (er : r = rtK G P (1000 - j) (j + 1)) :
    (bP ((tkN G P (j + 1)).1 5 = (tkN G P j).1 5 + 1) = 0 ∧ (tkN G P (j + 1)).1 5 = P.1 5 ∧ r = rtK G P (1000 - (j + 1)) (j + 1 + 1)) ∨ (bP ((tkN G P (j + 1)).1 5 = (tkN G P j).1 5 + 1) = 1 ∧ 1 ≤ j + 1 ∧ r = j + 1) := by
  have h4 := (tkP_4 (G := G) (P := tkN G P j)).2
  have h4 : (tkN G P (j + 1)).1 5 = (tkN G P j).1 5 ∨ (tkN G P (j + 1)).1 5 = (tkN G P j).1 5 + 1 := h4
  rw [show 1000 - j = (999 - j) + 1 by omega, rtK] at er
  rcases h4 with h4 | h4
  · left
    refine ⟨bP_f (by omega), by omega, ?_⟩
    rw [if_pos (by omega)] at er
    rw [er, show 1000 - (j + 1) = 999 - j by omega]
  · right
    refine ⟨bP_t h4, by omega, ?_⟩
    rw [if_neg (by omega)] at er
    exact er

set_option maxRecDepth 100000 in
set_option maxHeartbeats 4000000 in
theorem k_X8_ticksToRound (l : Launch) (D : va_G) (Z : Nat → ClassId) (b : Nat → Nat) (X : ST) (sv sd : Nat → Nat) (sm th tl pl ro nu : Nat) (t r : Nat → Nat) (hX : XB X) {p : Program} {e : Env} {s : State} {m : MethodId} {args : Array Value} {below : List Frame} {meth : Method} {c : Code} {A : Nat → Prop} (S : CallFix p m c cX8_ticksToRound 3 s args wsX8_ticksToRound RX8) (hr : meth.sig.returnType = (some .int)) (hlocks : meth.locks = false) : ∀ (n9 : Nat), (∀ (j ov : Nat) (hj : j ≤ 1000) (ho1 : ov ≤ 1) (hov : (ov = 0 ∧ (tkN X.1 X.2 j).1 5 = X.2.1 5 ∧ rtK X.1 X.2 1000 1 = rtK X.1 X.2 (1000 - j) (j + 1)) ∨ (ov = 1 ∧ 1 ≤ j ∧ rtK X.1 X.2 1000 1 = j)) (hm : 1000 - j < n9), ∀ (H : Heap) (locs : List Loc) (ls : Array Slot) (hl : lv_has ls 3 [(0, .ref (b 0)), (1, vI j), (2, vI ov)]) (w : Wd D Z A s (mdM Z b (X.1, tkN X.1 X.2 j) sv (enc X) sm th tl pl ro nu t r) H locs), W p l e (rmO 5 112) s m args below meth c H locs 0 0 (Qi below D Z A args s (rtA (rtK X.1 X.2 1000 1)) (mdM Z b X sv (enc X) sm 0 tl pl ro nu t r)) (F0 m 8 ls [])) := by
  intro n9
  induction n9 with
  | zero => intro j ov hj ho1 hov hm; exact absurd hm (Nat.not_lt_zero _)
  | succ n9 ih =>
    skip
    · intro j ov hj ho1 hov hm H locs ls hl w
      refine lv_iload_n S.1 S.2.1 dX8_ticksToRound_8 rfl (lv_at hl 1 rfl) ?_
      refine lv_sipush (v := nI 1000) S.1 S.2.1 dX8_ticksToRound_9 (by decide +kernel) ?_
      refine nv_icmp_ge S (by omega) (by omega) (tgt := 30) dX8_ticksToRound_12 (by decide) (fun h_1 => ?_) (fun h_1 => ?_)
      · skip
        refine lv_aload_n S.1 S.2.1 dX8_ticksToRound_30 rfl (lv_at hl 0 rfl) ?_
        refine nv_cVv (rest := []) (ws' := mdM Z b X sv (enc X) sm th tl pl ro nu t r) S w hl.1 (c_X8_takesBack l D Z b (X.1, tkN X.1 X.2 j) X sv sm th tl pl ro nu t r ) [0, 1, 2, 3, 4, 5] rfl rfl rfl rfl gX8_ticksToRound_X8_takesBack rfl hdV_X8_takesBack ⟨Nat.le_of_ble_eq_true rfl, Nat.le_of_ble_eq_true rfl⟩ (q0 := 0) rfl rfl rfl rfl (Nat.le_of_ble_eq_true rfl) ⟨Nat.zero_le _, Nat.zero_le _⟩ dX8_ticksToRound_31 (fun H locs w => ?_)
        refine lv_aload_n S.1 S.2.1 dX8_ticksToRound_34 rfl (lv_at hl 0 rfl) ?_
        refine lv_iload_n S.1 S.2.1 dX8_ticksToRound_35 rfl (lv_at hl 2 rfl) ?_
        refine nv_if_eq S (by omega) (tgt := 43) dX8_ticksToRound_36 (by decide) (fun h_2 => ?_) (fun h_2 => ?_)
        · skip
          refine lv_iconst (v := -1) S.1 S.2.1 dX8_ticksToRound_43 (by decide +kernel) ?_
          refine nv_cVi (rest := []) (ws' := mdM Z b X sv (enc X) sm 0 tl pl ro nu t r) S w hl.1 (c_X8_fine l D Z b X sv (enc X) sm th tl pl ro nu t r (-1) ) [0, 1, 2, 3, 4, 5] rfl rfl rfl rfl gX8_ticksToRound_X8_fine rfl hdV_X8_fine ⟨Nat.le_of_ble_eq_true rfl, Nat.le_of_ble_eq_true rfl⟩ (q0 := 0) rfl rfl rfl rfl (Nat.le_of_ble_eq_true rfl) ⟨Nat.zero_le _, Nat.zero_le _⟩ dX8_ticksToRound_44 (fun H locs w => ?_)
          exact nv_iret S w hr hlocks rfl (by rcases hov with ⟨a1, a2, a3⟩ | ⟨a1, a2, a3⟩ <;> first | (exfalso; omega) | (rw [a3, show 1000 - j = 0 by omega]; rfl)) rfl dX8_ticksToRound_47
        · skip
          refine lv_iload_n S.1 S.2.1 dX8_ticksToRound_39 rfl (lv_at hl 1 rfl) ?_
          refine lv_goto (tgt := 44) S.1 S.2.1 dX8_ticksToRound_40 (by decide) ?_
          refine nv_cVi (rest := []) (ws' := mdM Z b X sv (enc X) sm 0 tl pl ro nu t r) S w hl.1 (c_X8_fine l D Z b X sv (enc X) sm th tl pl ro nu t r (nI j) ) [0, 1, 2, 3, 4, 5] rfl rfl rfl rfl gX8_ticksToRound_X8_fine rfl hdV_X8_fine ⟨Nat.le_of_ble_eq_true rfl, Nat.le_of_ble_eq_true rfl⟩ (q0 := 0) rfl rfl rfl rfl (Nat.le_of_ble_eq_true rfl) ⟨Nat.zero_le _, Nat.zero_le _⟩ dX8_ticksToRound_44 (fun H locs w => ?_)
          exact nv_iret S w hr hlocks rfl (by rcases hov with h9 | h9 <;> first | (exfalso; omega) | (rw [h9.2.2]; unfold rtA; rw [if_neg (by omega)])) rfl dX8_ticksToRound_47
      · skip
        refine lv_iload_n S.1 S.2.1 dX8_ticksToRound_15 rfl (lv_at hl 2 rfl) ?_
        refine nv_if_ne S (by omega) (tgt := 30) dX8_ticksToRound_16 (by decide) (fun h_3 => ?_) (fun h_3 => ?_)
        · skip
          refine lv_aload_n S.1 S.2.1 dX8_ticksToRound_30 rfl (lv_at hl 0 rfl) ?_
          refine nv_cVv (rest := []) (ws' := mdM Z b X sv (enc X) sm th tl pl ro nu t r) S w hl.1 (c_X8_takesBack l D Z b (X.1, tkN X.1 X.2 j) X sv sm th tl pl ro nu t r ) [0, 1, 2, 3, 4, 5] rfl rfl rfl rfl gX8_ticksToRound_X8_takesBack rfl hdV_X8_takesBack ⟨Nat.le_of_ble_eq_true rfl, Nat.le_of_ble_eq_true rfl⟩ (q0 := 0) rfl rfl rfl rfl (Nat.le_of_ble_eq_true rfl) ⟨Nat.zero_le _, Nat.zero_le _⟩ dX8_ticksToRound_31 (fun H locs w => ?_)
          refine lv_aload_n S.1 S.2.1 dX8_ticksToRound_34 rfl (lv_at hl 0 rfl) ?_
          refine lv_iload_n S.1 S.2.1 dX8_ticksToRound_35 rfl (lv_at hl 2 rfl) ?_
          refine nv_if_eq S (by omega) (tgt := 43) dX8_ticksToRound_36 (by decide) (fun h_4 => ?_) (fun h_4 => ?_)
          · skip
            refine lv_iconst (v := -1) S.1 S.2.1 dX8_ticksToRound_43 (by decide +kernel) ?_
            refine nv_cVi (rest := []) (ws' := mdM Z b X sv (enc X) sm 0 tl pl ro nu t r) S w hl.1 (c_X8_fine l D Z b X sv (enc X) sm th tl pl ro nu t r (-1) ) [0, 1, 2, 3, 4, 5] rfl rfl rfl rfl gX8_ticksToRound_X8_fine rfl hdV_X8_fine ⟨Nat.le_of_ble_eq_true rfl, Nat.le_of_ble_eq_true rfl⟩ (q0 := 0) rfl rfl rfl rfl (Nat.le_of_ble_eq_true rfl) ⟨Nat.zero_le _, Nat.zero_le _⟩ dX8_ticksToRound_44 (fun H locs w => ?_)
            exact nv_iret S w hr hlocks rfl (by rcases hov with ⟨a1, a2, a3⟩ | ⟨a1, a2, a3⟩ <;> first | (exfalso; omega) | (rw [a3, show 1000 - j = 0 by omega]; rfl)) rfl dX8_ticksToRound_47
          · skip
            refine lv_iload_n S.1 S.2.1 dX8_ticksToRound_39 rfl (lv_at hl 1 rfl) ?_
            refine lv_goto (tgt := 44) S.1 S.2.1 dX8_ticksToRound_40 (by decide) ?_
            refine nv_cVi (rest := []) (ws' := mdM Z b X sv (enc X) sm 0 tl pl ro nu t r) S w hl.1 (c_X8_fine l D Z b X sv (enc X) sm th tl pl ro nu t r (nI j) ) [0, 1, 2, 3, 4, 5] rfl rfl rfl rfl gX8_ticksToRound_X8_fine rfl hdV_X8_fine ⟨Nat.le_of_ble_eq_true rfl, Nat.le_of_ble_eq_true rfl⟩ (q0 := 0) rfl rfl rfl rfl (Nat.le_of_ble_eq_true rfl) ⟨Nat.zero_le _, Nat.zero_le _⟩ dX8_ticksToRound_44 (fun H locs w => ?_)
            exact nv_iret S w hr hlocks rfl (by rcases hov with h9 | h9 <;> first | (exfalso; omega) | (rw [h9.2.2]; unfold rtA; rw [if_neg (by omega)])) rfl dX8_ticksToRound_47
        · skip
          refine lv_aload_n S.1 S.2.1 dX8_ticksToRound_19 rfl (lv_at hl 0 rfl) ?_
          refine nv_cVi (rest := []) (ws' := mdM Z b ((X.1, tkN X.1 X.2 j).1, tkP (X.1, tkN X.1 X.2 j).1 (X.1, tkN X.1 X.2 j).2) sv (enc X) sm th tl pl ro nu t r) S w hl.1 (c_X8_tick l D Z b (X.1, tkN X.1 X.2 j) sv (enc X) sm th tl pl ro nu t r hX.1 (tkN_PB hX.1 hX.2.1 j)) [0, 1, 2, 3, 4, 5] rfl rfl rfl rfl gX8_ticksToRound_X8_tick rfl hdV_X8_tick ⟨Nat.le_of_ble_eq_true rfl, Nat.le_of_ble_eq_true rfl⟩ (q0 := 0) rfl rfl rfl rfl (Nat.le_of_ble_eq_true rfl) ⟨Nat.zero_le _, Nat.zero_le _⟩ dX8_ticksToRound_20 (fun H locs w => ?_)
          refine W.eq (g2 := F0 m 23 ls [vI (bP ((tkN X.1 X.2 (j + 1)).1 5 = (tkN X.1 X.2 j).1 5 + 1))]) rfl ?_
          have w := w.as (ws' := mdM Z b (X.1, tkN X.1 X.2 (j + 1)) sv (enc X) sm th tl pl ro nu t r) rfl
          refine lv_istore_n (lv' := [(2, vI (bP ((tkN X.1 X.2 (j + 1)).1 5 = (tkN X.1 X.2 j).1 5 + 1))), (0, .ref (b 0)), (1, vI j)]) S.1 S.2.1 dX8_ticksToRound_23 rfl hl (by decide) rfl (fun ls hl => ?_)
          refine lv_iinc (v := nI (j + 1)) (lv' := [(1, vI (j + 1)), (2, vI (bP ((tkN X.1 X.2 (j + 1)).1 5 = (tkN X.1 X.2 j).1 5 + 1))), (0, .ref (b 0))]) S.1 S.2.1 dX8_ticksToRound_24 hl (k := 2) rfl (nI_incI j 1) (by decide) rfl (fun ls hl => ?_)
          refine lv_goto (tgt := 8) S.1 S.2.1 dX8_ticksToRound_27 (by decide) ?_
          exact ih (j + 1) (bP ((tkN X.1 X.2 (j + 1)).1 5 = (tkN X.1 X.2 j).1 5 + 1)) (by omega) (bP_le _) (by rcases hov with ⟨a1, a2, a3⟩ | ⟨a1, a2, a3⟩ <;> first | (exfalso; omega) | exact rt_step (by omega) a2 a3) (by omega) _ _ _ (lv_sub hl [2, 0, 1] rfl) w
set_option maxRecDepth 100000 in
set_option maxHeartbeats 4000000 in
theorem c_X8_ticksToRound (l : Launch) (D : va_G) (Z : Nat → ClassId) (b : Nat → Nat) (X : ST) (sv sd : Nat → Nat) (sm th tl pl ro nu : Nat) (t r : Nat → Nat) (hX : XB X) : Ci l yX8_ticksToRound wsX8_ticksToRound 5 112 D Z [.ref (b 0)] (mdM Z b X sv sd sm th tl pl ro nu t r) (rtA (rtK X.1 X.2 1000 1)) (mdM Z b X sv (enc X) sm 0 tl pl ro nu t r) := by
  refine ne_i (cc := cX8_ticksToRound) (maxL := 3) (by decide +kernel) rfl (Nat.le_of_ble_eq_true rfl) (fun p e s m args below meth c A ls (S : CallFix p m c cX8_ticksToRound 3 s args wsX8_ticksToRound RX8) hr hlocks hl w => ?_)
  have hl : lv_has ls 3 [(0, .ref (b 0))] := hl
  refine lv_aload_n S.1 S.2.1 dX8_ticksToRound_0 rfl (lv_at hl 0 rfl) ?_
  refine nv_cVv (rest := []) (ws' := mdM Z b X sv (enc X) sm th tl pl ro nu t r) S w hl.1 (c_X8_laysAside l D Z b X sv sd sm th tl pl ro nu t r ) [0, 1, 2, 3, 4, 5] rfl rfl rfl rfl gX8_ticksToRound_X8_laysAside rfl hdV_X8_laysAside ⟨Nat.le_of_ble_eq_true rfl, Nat.le_of_ble_eq_true rfl⟩ (q0 := 0) rfl rfl rfl rfl (Nat.le_of_ble_eq_true rfl) ⟨Nat.zero_le _, Nat.zero_le _⟩ dX8_ticksToRound_1 (fun H locs w => ?_)
  refine lv_iconst (v := nI 0) S.1 S.2.1 dX8_ticksToRound_4 (ofInt_nI 0) ?_
  refine lv_istore_n (lv' := [(1, vI 0), (0, .ref (b 0))]) S.1 S.2.1 dX8_ticksToRound_5 rfl hl (by decide) rfl (fun ls hl => ?_)
  refine lv_iconst (v := nI 0) S.1 S.2.1 dX8_ticksToRound_6 (ofInt_nI 0) ?_
  refine lv_istore_n (lv' := [(2, vI 0), (1, vI 0), (0, .ref (b 0))]) S.1 S.2.1 dX8_ticksToRound_7 rfl hl (by decide) rfl (fun ls hl => ?_)
  exact k_X8_ticksToRound l D Z b X sv sd sm th tl pl ro nu t r hX S hr hlocks _ 0 0 (by omega) (by omega) (Or.inl ⟨rfl, rfl, rfl⟩) (Nat.lt_succ_self _) _ _ _ (lv_sub hl [2, 1, 0] rfl) w
