def uhM (r : Nat) : Nat := min (r + 1) 99

theorem hn_X7_unheard_7 : ∀ w ∈ wsX70, w ∈ wsX7_unheard := by decide +kernel
theorem hn_X7_unheard_5 : ∀ w ∈ wsX50, w ∈ wsX7_unheard := by decide +kernel
theorem hn_X7_unheard_3 : ∀ w ∈ wsX30, w ∈ wsX7_unheard := by decide +kernel
theorem hn_X7_unheard_6 : ∀ w ∈ wsX60, w ∈ wsX7_unheard := by decide +kernel
set_option maxRecDepth 100000 in
set_option maxHeartbeats 4000000 in
theorem k_X7_unheard (l : Launch) (D : va_G) (Z : Nat → ClassId) (z : Nat → Nat → Nat) (X : ST) (o n : Nat) (Y : Nat → ST) (tl ti ta tr : Nat) (t : Nat → Nat) (k : Nat → Nat → Nat) (P9 : PG) (xa xn : Int32) (hX : XB X) {p : Program} {e : Env} {s : State} {m : MethodId} {args : Array Value} {below : List Frame} {meth : Method} {c : Code} {A : Nat → Prop} (S : CallFix p m c cX7_unheard 4 s args wsX7_unheard RX7) (hr : meth.sig.returnType = (some .int)) (hlocks : meth.locks = false) : ∀ (n9 : Nat), (∀ (nd nt j : Nat) (hnd : nd < 4) (hnt : nt ≤ 60) (hj : j ≤ 99) (exa : xa = nI nd) (exn : xn = nI nt) (hex : xI (ixI 4 xa) eIX (xI (rgI 1 60 xn) eIA none) = none) (er : uhK X.1 (stP X.2 nd 0 0) nd (16 * (16 * nt) + 15) 99 0 = uhK X.1 (stP X.2 nd 0 0) nd (16 * (16 * nt) + 15) (99 - j) j) (hm : 99 - j < n9), ∀ (H : Heap) (locs : List Loc) (ls : Array Slot) (hl : lv_has ls 4 [(0, .ref (z 0 0)), (1, vI nd), (2, vI nt), (3, vI j)]) (w : Wd D Z A s (tpO Z z ++ plB Z (z 8) (tkN X.1 (stP X.2 nd 0 0) j) ++ stO Z ((z 1) 0) ((z 1) 1) ((z 1) 5) ++ plB Z (fun k => (z 1) (5 + k)) X.2 ++ songB Z ((z 1) 1) ((z 1) 2) ((z 1) 3) ((z 1) 4) X.1 ++ ptB Z (z 7 0) (z 7 1) (z 7 2) tl ti ta tr t k ++ hiB Z (z 2 0) (z 2 1) (fun r => z (3 + r)) o n Y) H locs), W p l e (rmX 7 117 2 12) s m args below meth c H locs 2 12 (QXi below D Z A args s (tpO Z z ++ plB Z (z 8) P9 ++ stB Z (z 1) X ++ ptB Z (z 7 0) (z 7 1) (z 7 2) tl ti ta tr t k ++ hiB Z (z 2 0) (z 2 1) (fun r => z (3 + r)) o n Y) (xI (ixI 4 xa) eIX (xI (rgI 1 60 xn) eIA none)) (nI (uhK X.1 (stP X.2 (toN xa) 0 0) (toN xa) (16 * (16 * (toN xn)) + 15) 99 0)) (tpO Z z ++ plB Z (z 8) (tkN X.1 (stP X.2 (toN xa) 0 0) (uhM (uhK X.1 (stP X.2 (toN xa) 0 0) (toN xa) (16 * (16 * (toN xn)) + 15) 99 0))) ++ stB Z (z 1) X ++ ptB Z (z 7 0) (z 7 1) (z 7 2) tl ti ta tr t k ++ hiB Z (z 2 0) (z 2 1) (fun r => z (3 + r)) o n Y) 2 12) (F0 m 43 ls [])) := by
  intro n9
  induction n9 with
  | zero => intro nd nt j hnd hnt hj exa exn hex er hm; exact absurd hm (Nat.not_lt_zero _)
  | succ n9 ih =>
    skip
    · intro nd nt j hnd hnt hj exa exn hex er hm H locs ls hl w
      subst exa
      subst exn
      have eqnd : toN (nI nd) = nd := toN_nI (by omega)
      have eqnt : toN (nI nt) = nt := toN_nI (by omega)
      have hPB := stP_PB (n := 0) (t := 0) hnd (by omega) (by omega) hX.2.1
      refine lv_iload_n S.1 S.2.1 dX7_unheard_43 rfl (lv_at hl 3 rfl) ?_
      refine lv_bipush (v := nI 99) S.1 S.2.1 dX7_unheard_44 (by decide +kernel) ?_
      refine nv_icmp_ge S (by omega) (by omega) (tgt := 90) dX7_unheard_46 (by decide) (fun h_1 => ?_) (fun h_1 => ?_)
      · skip
        refine lv_bipush (v := nI 99) S.1 S.2.1 dX7_unheard_90 (by decide +kernel) ?_
        exact nx_iret S w hr hlocks rfl hex (by rw [eqnd, eqnt, er, show 99 - j = 0 by omega, show j = 99 by omega]; rfl) (by rw [eqnd, eqnt, er, show 99 - j = 0 by omega, show j = 99 by omega]; simp only [stB, List.append_assoc]; rfl) (Nat.le_of_ble_eq_true rfl) (Nat.le_of_ble_eq_true rfl) dX7_unheard_92
      · skip
        refine lv_aload_n S.1 S.2.1 dX7_unheard_49 rfl (lv_at hl 0 rfl) ?_
        refine nv_get S w (C := RX7) (T := TX7) (N := 4) hn_X7_unheard_7 0 rfl rfl 3 (by decide) (List.mem_of_getElem? (i := 1) rfl) (v := .ref (z 8 0)) rfl dX7_unheard_50 ?_
        refine lv_aload_n S.1 S.2.1 dX7_unheard_53 rfl (lv_at hl 0 rfl) ?_
        refine nv_get S w (C := RX7) (T := TX7) (N := 4) hn_X7_unheard_7 0 rfl rfl 0 (by decide) (List.mem_of_getElem? (i := 2) rfl) (v := .ref (z 1 0)) rfl dX7_unheard_54 ?_
        refine nv_get S w (C := RX5) (T := TX5) (N := 2) hn_X7_unheard_5 15 rfl rfl 0 (by decide) (List.mem_of_getElem? (i := 5) rfl) (v := .ref ((z 1) 1)) rfl dX7_unheard_57 ?_
        have w := w.perm (ws' := tpO Z z ++ plB Z (z 8) (tkN X.1 (stP X.2 nd 0 0) j) ++ songB Z ((z 1) 1) ((z 1) 2) ((z 1) 3) ((z 1) 4) X.1 ++ stO Z ((z 1) 0) ((z 1) 1) ((z 1) 5) ++ plB Z (fun k => (z 1) (5 + k)) X.2 ++ ptB Z (z 7 0) (z 7 1) (z 7 2) tl ti ta tr t k ++ hiB Z (z 2 0) (z 2 1) (fun r => z (3 + r)) o n Y) (List.Perm.trans (List.Perm.append_right _ (List.Perm.append_right _ sw2)) (List.Perm.append_right _ (List.Perm.append_right _ (List.Perm.append_right _ sw2))))
        refine nv_fVv (rest := []) (tpO Z z) (stO Z ((z 1) 0) ((z 1) 1) ((z 1) 5) ++ plB Z (fun k => (z 1) (5 + k)) X.2 ++ ptB Z (z 7 0) (z 7 1) (z 7 2) tl ti ta tr t k ++ hiB Z (z 2 0) (z 2 1) (fun r => z (3 + r)) o n Y) (ws' := tpO Z z ++ plB Z (z 8) (tkP X.1 (tkN X.1 (stP X.2 nd 0 0) j)) ++ songB Z ((z 1) 1) ((z 1) 2) ((z 1) 3) ((z 1) 4) X.1 ++ stO Z ((z 1) 0) ((z 1) 1) ((z 1) 5) ++ plB Z (fun k => (z 1) (5 + k)) X.2 ++ ptB Z (z 7 0) (z 7 1) (z 7 2) tl ti ta tr t k ++ hiB Z (z 2 0) (z 2 1) (fun r => z (3 + r)) o n Y) S w hl.1 (c_X3_passTick l D Z (z 8) (tkN X.1 (stP X.2 nd 0 0) j) ((z 1) 1) ((z 1) 2) ((z 1) 3) ((z 1) 4) X.1 hX.1 (tkN_PB hX.1 hPB j)) (by simp only [List.append_assoc, List.nil_append, List.append_nil]) rfl (by simp only [List.append_assoc, List.nil_append, List.append_nil]) gX7_unheard_X3_passTick rfl hdV_X3_passTick ⟨Nat.le_of_ble_eq_true rfl, Nat.le_of_ble_eq_true rfl⟩ (q0 := 0) rfl rfl rfl rfl (Nat.le_of_ble_eq_true rfl) ⟨Nat.le_of_ble_eq_true rfl, Nat.le_of_ble_eq_true rfl⟩ dX7_unheard_60 (fun H locs w => ?_)
        have w := w.perm (ws' := tpO Z z ++ plB Z (z 8) (tkP X.1 (tkN X.1 (stP X.2 nd 0 0) j)) ++ stO Z ((z 1) 0) ((z 1) 1) ((z 1) 5) ++ plB Z (fun k => (z 1) (5 + k)) X.2 ++ songB Z ((z 1) 1) ((z 1) 2) ((z 1) 3) ((z 1) 4) X.1 ++ ptB Z (z 7 0) (z 7 1) (z 7 2) tl ti ta tr t k ++ hiB Z (z 2 0) (z 2 1) (fun r => z (3 + r)) o n Y) (List.Perm.trans (List.Perm.append_right _ (List.Perm.append_right _ (List.Perm.append_right _ sw2))) (List.Perm.append_right _ (List.Perm.append_right _ sw2)))
        have w := w.as (ws' := tpO Z z ++ plB Z (z 8) (tkN X.1 (stP X.2 nd 0 0) (j + 1)) ++ stO Z ((z 1) 0) ((z 1) 1) ((z 1) 5) ++ plB Z (fun k => (z 1) (5 + k)) X.2 ++ songB Z ((z 1) 1) ((z 1) 2) ((z 1) 3) ((z 1) 4) X.1 ++ ptB Z (z 7 0) (z 7 1) (z 7 2) tl ti ta tr t k ++ hiB Z (z 2 0) (z 2 1) (fun r => z (3 + r)) o n Y) (rfl)
        refine lv_aload_n S.1 S.2.1 dX7_unheard_63 rfl (lv_at hl 0 rfl) ?_
        refine nv_get S w (C := RX7) (T := TX7) (N := 4) hn_X7_unheard_7 0 rfl rfl 3 (by decide) (List.mem_of_getElem? (i := 1) rfl) (v := .ref (z 8 0)) rfl dX7_unheard_64 ?_
        refine nv_get S w (C := RX3) (T := TX3) (N := 7) hn_X7_unheard_3 1 rfl rfl 6 (by decide) (List.mem_of_getElem? (i := 4) rfl) (v := .ref ((z 8) 1)) rfl dX7_unheard_67 ?_
        refine lv_iload_n S.1 S.2.1 dX7_unheard_70 rfl (lv_at hl 1 rfl) ?_
        rcases (show nd = 0 ∨ nd = 1 ∨ nd = 2 ∨ nd = 3 by omega) with rfl | rfl | rfl | rfl
        · skip
          refine nv_aald S w (i := 0) (q := ((z 8) 2)) 2 3 rfl rfl (by omega) (by decide) rfl dX7_unheard_71 ?_
          have hvb := ((tkN_PB hX.1 hPB (j + 1)).2.2.2.2.2 0 (by decide)).1
          unfold VB at hvb
          refine nv_get S w (C := RX6) (T := TX6) (N := 9) hn_X7_unheard_6 3 rfl rfl 4 (by decide) (List.mem_of_getElem? (i := 6) rfl) (v := vI ((((tkN X.1 (stP X.2 0 0 0) (j + 1)).2) 0) 11)) rfl dX7_unheard_72 ?_
          refine lv_iload_n S.1 S.2.1 dX7_unheard_75 rfl (lv_at hl 2 rfl) ?_
          refine nv_pSi (rest := [vI ((((tkN X.1 (stP X.2 0 0 0) (j + 1)).2) 0) 11)]) S w hl.1 (c_X7_stolenSound l D Z nt ) gX7_unheard_X7_stolenSound rfl hdS_X7_stolenSound ⟨Nat.le_of_ble_eq_true rfl, Nat.le_of_ble_eq_true rfl⟩ rfl rfl (Nat.le_of_ble_eq_true rfl) ⟨Nat.le_of_ble_eq_true rfl, Nat.le_of_ble_eq_true rfl⟩ dX7_unheard_76 (fun H locs w => ?_)
          refine nv_icmp_eq S (by omega) (by omega) (tgt := 84) dX7_unheard_79 (by decide) (fun h_2 => ?_) (fun h_2 => ?_)
          · skip
            refine lv_iinc (v := nI (j + 1)) (lv' := [(3, vI (j + 1)), (0, .ref (z 0 0)), (1, vI 0), (2, vI nt)]) S.1 S.2.1 dX7_unheard_84 hl (k := 3) rfl (nI_incI j 1) (by decide) rfl (fun ls hl => ?_)
            refine lv_goto (tgt := 43) S.1 S.2.1 dX7_unheard_87 (by decide) ?_
            exact ih 0 nt (j + 1) (by omega) (by omega) (by omega) rfl rfl hex (by rw [er, show 99 - j = (98 - j) + 1 by omega, uhK, if_pos h_2, show 99 - (j + 1) = 98 - j by omega]) (by omega) _ _ _ (lv_sub hl [1, 2, 3, 0] rfl) w
          · skip
            refine lv_iload_n S.1 S.2.1 dX7_unheard_82 rfl (lv_at hl 3 rfl) ?_
            exact nx_iret S w hr hlocks rfl hex (by rw [eqnd, eqnt, er, show 99 - j = (98 - j) + 1 by omega, uhK, if_neg h_2]) (by rw [eqnd, eqnt, er, show 99 - j = (98 - j) + 1 by omega, uhK, if_neg h_2]; unfold uhM; rw [show min (j + 1) 99 = j + 1 by omega]; simp only [stB, List.append_assoc]) (Nat.le_of_ble_eq_true rfl) (Nat.le_of_ble_eq_true rfl) dX7_unheard_83
        · skip
          refine nv_aald S w (i := 1) (q := ((z 8) 5)) 2 3 rfl rfl (by omega) (by decide) rfl dX7_unheard_71 ?_
          have hvb := ((tkN_PB hX.1 hPB (j + 1)).2.2.2.2.2 1 (by decide)).1
          unfold VB at hvb
          refine nv_get S w (C := RX6) (T := TX6) (N := 9) hn_X7_unheard_6 6 rfl rfl 4 (by decide) (List.mem_of_getElem? (i := 6) rfl) (v := vI ((((tkN X.1 (stP X.2 1 0 0) (j + 1)).2) 1) 11)) rfl dX7_unheard_72 ?_
          refine lv_iload_n S.1 S.2.1 dX7_unheard_75 rfl (lv_at hl 2 rfl) ?_
          refine nv_pSi (rest := [vI ((((tkN X.1 (stP X.2 1 0 0) (j + 1)).2) 1) 11)]) S w hl.1 (c_X7_stolenSound l D Z nt ) gX7_unheard_X7_stolenSound rfl hdS_X7_stolenSound ⟨Nat.le_of_ble_eq_true rfl, Nat.le_of_ble_eq_true rfl⟩ rfl rfl (Nat.le_of_ble_eq_true rfl) ⟨Nat.le_of_ble_eq_true rfl, Nat.le_of_ble_eq_true rfl⟩ dX7_unheard_76 (fun H locs w => ?_)
          refine nv_icmp_eq S (by omega) (by omega) (tgt := 84) dX7_unheard_79 (by decide) (fun h_3 => ?_) (fun h_3 => ?_)
          · skip
            refine lv_iinc (v := nI (j + 1)) (lv' := [(3, vI (j + 1)), (0, .ref (z 0 0)), (1, vI 1), (2, vI nt)]) S.1 S.2.1 dX7_unheard_84 hl (k := 3) rfl (nI_incI j 1) (by decide) rfl (fun ls hl => ?_)
            refine lv_goto (tgt := 43) S.1 S.2.1 dX7_unheard_87 (by decide) ?_
            exact ih 1 nt (j + 1) (by omega) (by omega) (by omega) rfl rfl hex (by rw [er, show 99 - j = (98 - j) + 1 by omega, uhK, if_pos h_3, show 99 - (j + 1) = 98 - j by omega]) (by omega) _ _ _ (lv_sub hl [1, 2, 3, 0] rfl) w
          · skip
            refine lv_iload_n S.1 S.2.1 dX7_unheard_82 rfl (lv_at hl 3 rfl) ?_
            exact nx_iret S w hr hlocks rfl hex (by rw [eqnd, eqnt, er, show 99 - j = (98 - j) + 1 by omega, uhK, if_neg h_3]) (by rw [eqnd, eqnt, er, show 99 - j = (98 - j) + 1 by omega, uhK, if_neg h_3]; unfold uhM; rw [show min (j + 1) 99 = j + 1 by omega]; simp only [stB, List.append_assoc]) (Nat.le_of_ble_eq_true rfl) (Nat.le_of_ble_eq_true rfl) dX7_unheard_83
        · skip
          refine nv_aald S w (i := 2) (q := ((z 8) 8)) 2 3 rfl rfl (by omega) (by decide) rfl dX7_unheard_71 ?_
          have hvb := ((tkN_PB hX.1 hPB (j + 1)).2.2.2.2.2 2 (by decide)).1
          unfold VB at hvb
          refine nv_get S w (C := RX6) (T := TX6) (N := 9) hn_X7_unheard_6 9 rfl rfl 4 (by decide) (List.mem_of_getElem? (i := 6) rfl) (v := vI ((((tkN X.1 (stP X.2 2 0 0) (j + 1)).2) 2) 11)) rfl dX7_unheard_72 ?_
          refine lv_iload_n S.1 S.2.1 dX7_unheard_75 rfl (lv_at hl 2 rfl) ?_
          refine nv_pSi (rest := [vI ((((tkN X.1 (stP X.2 2 0 0) (j + 1)).2) 2) 11)]) S w hl.1 (c_X7_stolenSound l D Z nt ) gX7_unheard_X7_stolenSound rfl hdS_X7_stolenSound ⟨Nat.le_of_ble_eq_true rfl, Nat.le_of_ble_eq_true rfl⟩ rfl rfl (Nat.le_of_ble_eq_true rfl) ⟨Nat.le_of_ble_eq_true rfl, Nat.le_of_ble_eq_true rfl⟩ dX7_unheard_76 (fun H locs w => ?_)
          refine nv_icmp_eq S (by omega) (by omega) (tgt := 84) dX7_unheard_79 (by decide) (fun h_4 => ?_) (fun h_4 => ?_)
          · skip
            refine lv_iinc (v := nI (j + 1)) (lv' := [(3, vI (j + 1)), (0, .ref (z 0 0)), (1, vI 2), (2, vI nt)]) S.1 S.2.1 dX7_unheard_84 hl (k := 3) rfl (nI_incI j 1) (by decide) rfl (fun ls hl => ?_)
            refine lv_goto (tgt := 43) S.1 S.2.1 dX7_unheard_87 (by decide) ?_
            exact ih 2 nt (j + 1) (by omega) (by omega) (by omega) rfl rfl hex (by rw [er, show 99 - j = (98 - j) + 1 by omega, uhK, if_pos h_4, show 99 - (j + 1) = 98 - j by omega]) (by omega) _ _ _ (lv_sub hl [1, 2, 3, 0] rfl) w
          · skip
            refine lv_iload_n S.1 S.2.1 dX7_unheard_82 rfl (lv_at hl 3 rfl) ?_
            exact nx_iret S w hr hlocks rfl hex (by rw [eqnd, eqnt, er, show 99 - j = (98 - j) + 1 by omega, uhK, if_neg h_4]) (by rw [eqnd, eqnt, er, show 99 - j = (98 - j) + 1 by omega, uhK, if_neg h_4]; unfold uhM; rw [show min (j + 1) 99 = j + 1 by omega]; simp only [stB, List.append_assoc]) (Nat.le_of_ble_eq_true rfl) (Nat.le_of_ble_eq_true rfl) dX7_unheard_83
        · skip
          refine nv_aald S w (i := 3) (q := ((z 8) 11)) 2 3 rfl rfl (by omega) (by decide) rfl dX7_unheard_71 ?_
          have hvb := ((tkN_PB hX.1 hPB (j + 1)).2.2.2.2.2 3 (by decide)).1
          unfold VB at hvb
          refine nv_get S w (C := RX6) (T := TX6) (N := 9) hn_X7_unheard_6 12 rfl rfl 4 (by decide) (List.mem_of_getElem? (i := 6) rfl) (v := vI ((((tkN X.1 (stP X.2 3 0 0) (j + 1)).2) 3) 11)) rfl dX7_unheard_72 ?_
          refine lv_iload_n S.1 S.2.1 dX7_unheard_75 rfl (lv_at hl 2 rfl) ?_
          refine nv_pSi (rest := [vI ((((tkN X.1 (stP X.2 3 0 0) (j + 1)).2) 3) 11)]) S w hl.1 (c_X7_stolenSound l D Z nt ) gX7_unheard_X7_stolenSound rfl hdS_X7_stolenSound ⟨Nat.le_of_ble_eq_true rfl, Nat.le_of_ble_eq_true rfl⟩ rfl rfl (Nat.le_of_ble_eq_true rfl) ⟨Nat.le_of_ble_eq_true rfl, Nat.le_of_ble_eq_true rfl⟩ dX7_unheard_76 (fun H locs w => ?_)
          refine nv_icmp_eq S (by omega) (by omega) (tgt := 84) dX7_unheard_79 (by decide) (fun h_5 => ?_) (fun h_5 => ?_)
          · skip
            refine lv_iinc (v := nI (j + 1)) (lv' := [(3, vI (j + 1)), (0, .ref (z 0 0)), (1, vI 3), (2, vI nt)]) S.1 S.2.1 dX7_unheard_84 hl (k := 3) rfl (nI_incI j 1) (by decide) rfl (fun ls hl => ?_)
            refine lv_goto (tgt := 43) S.1 S.2.1 dX7_unheard_87 (by decide) ?_
            exact ih 3 nt (j + 1) (by omega) (by omega) (by omega) rfl rfl hex (by rw [er, show 99 - j = (98 - j) + 1 by omega, uhK, if_pos h_5, show 99 - (j + 1) = 98 - j by omega]) (by omega) _ _ _ (lv_sub hl [1, 2, 3, 0] rfl) w
          · skip
            refine lv_iload_n S.1 S.2.1 dX7_unheard_82 rfl (lv_at hl 3 rfl) ?_
            exact nx_iret S w hr hlocks rfl hex (by rw [eqnd, eqnt, er, show 99 - j = (98 - j) + 1 by omega, uhK, if_neg h_5]) (by rw [eqnd, eqnt, er, show 99 - j = (98 - j) + 1 by omega, uhK, if_neg h_5]; unfold uhM; rw [show min (j + 1) 99 = j + 1 by omega]; simp only [stB, List.append_assoc]) (Nat.le_of_ble_eq_true rfl) (Nat.le_of_ble_eq_true rfl) dX7_unheard_83
set_option maxRecDepth 100000 in
set_option maxHeartbeats 4000000 in
theorem c_X7_unheard (l : Launch) (hst : l.stackTraces = false) (D : va_G) (Z : Nat → ClassId) (z : Nat → Nat → Nat) (X : ST) (o n : Nat) (Y : Nat → ST) (tl ti ta tr : Nat) (t : Nat → Nat) (k : Nat → Nat → Nat) (P9 : PG) (xa xn : Int32) (hX : XB X) : Xi l yX7_unheard wsX7_unheard 7 117 2 12 D Z [.ref (z 0 0), .int xa, .int xn] (tpO Z z ++ plB Z (z 8) P9 ++ stB Z (z 1) X ++ ptB Z (z 7 0) (z 7 1) (z 7 2) tl ti ta tr t k ++ hiB Z (z 2 0) (z 2 1) (fun r => z (3 + r)) o n Y) (xI (ixI 4 xa) eIX (xI (rgI 1 60 xn) eIA none)) (nI (uhK X.1 (stP X.2 (toN xa) 0 0) (toN xa) (16 * (16 * (toN xn)) + 15) 99 0)) (tpO Z z ++ plB Z (z 8) (tkN X.1 (stP X.2 (toN xa) 0 0) (uhM (uhK X.1 (stP X.2 (toN xa) 0 0) (toN xa) (16 * (16 * (toN xn)) + 15) 99 0))) ++ stB Z (z 1) X ++ ptB Z (z 7 0) (z 7 1) (z 7 2) tl ti ta tr t k ++ hiB Z (z 2 0) (z 2 1) (fun r => z (3 + r)) o n Y) := by
  refine nxe_i (cc := cX7_unheard) (maxL := 4) (by decide +kernel) rfl (Nat.le_of_ble_eq_true rfl) (fun p e s m args below meth c A ls (S : CallFix p m c cX7_unheard 4 s args wsX7_unheard RX7) hr hlocks htab X9 hl w => ?_)
  have hl : lv_has ls 4 [(0, .ref (z 0 0)), (1, .int xa), (2, .int xn)] := hl
  refine lv_iload_n S.1 S.2.1 dX7_unheard_0 rfl (lv_at hl 1 rfl) ?_
  refine lv_iconst (v := nI 4) S.1 S.2.1 dX7_unheard_1 (ofInt_nI 4) ?_
  refine nx_pSv (rest := []) S w X9 hl.1 (c_X7_requireIndex l hst D Z xa 4 ) gX7_unheard_X7_requireIndex rfl hdS_X7_requireIndex ⟨Nat.le_of_ble_eq_true rfl, Nat.le_of_ble_eq_true rfl⟩ rfl rfl (Nat.le_of_ble_eq_true rfl) ⟨Nat.le_of_ble_eq_true rfl, Nat.le_of_ble_eq_true rfl⟩ dX7_unheard_2 (fun E9 ce q9 H locs hE w hc9 hv9 hf9 => ?_) (fun hN H locs w => ?_)
  · exact nx_out w htab hlocks hc9 hv9 hf9 (xI_f (xI_no hE)) (Nat.le_of_ble_eq_true rfl) (Nat.le_of_ble_eq_true rfl)
  · skip
    have h_6 := xI_yes hN
    refine lv_iload_n S.1 S.2.1 dX7_unheard_5 rfl (lv_at hl 2 rfl) ?_
    refine lv_iconst (v := nI 1) S.1 S.2.1 dX7_unheard_6 (ofInt_nI 1) ?_
    refine lv_bipush (v := nI 60) S.1 S.2.1 dX7_unheard_7 (by decide +kernel) ?_
    refine nx_pSv (rest := []) S w X9 hl.1 (c_X7_requireRange l hst D Z xn 1 60 ) gX7_unheard_X7_requireRange rfl hdS_X7_requireRange ⟨Nat.le_of_ble_eq_true rfl, Nat.le_of_ble_eq_true rfl⟩ rfl rfl (Nat.le_of_ble_eq_true rfl) ⟨Nat.le_of_ble_eq_true rfl, Nat.le_of_ble_eq_true rfl⟩ dX7_unheard_9 (fun E9 ce q9 H locs hE w hc9 hv9 hf9 => ?_) (fun hN H locs w => ?_)
    · exact nx_out w htab hlocks hc9 hv9 hf9 ((xI_t h_6).trans (xI_f (xI_no hE))) (Nat.le_of_ble_eq_true rfl) (Nat.le_of_ble_eq_true rfl)
    · skip
      have h_7 := xI_yes hN
      obtain ⟨na, rfl, hna⟩ := ix_nat (by decide) h_6
      have eqna : toN (nI na) = na := toN_nI (by omega)
      obtain ⟨nn, rfl, hnn⟩ := rg_nat (by decide) (by decide) h_7
      have eqnn : toN (nI nn) = nn := toN_nI (by omega)
      refine lv_aload_n S.1 S.2.1 dX7_unheard_12 rfl (lv_at hl 0 rfl) ?_
      have w := w.as (ws' := tpO Z z ++ plB Z (z 8) P9 ++ stO Z ((z 1) 0) ((z 1) 1) ((z 1) 5) ++ plB Z (fun k => (z 1) (5 + k)) X.2 ++ songB Z ((z 1) 1) ((z 1) 2) ((z 1) 3) ((z 1) 4) X.1 ++ ptB Z (z 7 0) (z 7 1) (z 7 2) tl ti ta tr t k ++ hiB Z (z 2 0) (z 2 1) (fun r => z (3 + r)) o n Y) (by simp only [stB, List.append_assoc])
      refine nv_get S w (C := RX7) (T := TX7) (N := 4) hn_X7_unheard_7 0 rfl rfl 3 (by decide) (List.mem_of_getElem? (i := 1) rfl) (v := .ref (z 8 0)) rfl dX7_unheard_13 ?_
      refine lv_aload_n S.1 S.2.1 dX7_unheard_16 rfl (lv_at hl 0 rfl) ?_
      refine nv_get S w (C := RX7) (T := TX7) (N := 4) hn_X7_unheard_7 0 rfl rfl 0 (by decide) (List.mem_of_getElem? (i := 2) rfl) (v := .ref (z 1 0)) rfl dX7_unheard_17 ?_
      refine nv_get S w (C := RX5) (T := TX5) (N := 2) hn_X7_unheard_5 15 rfl rfl 1 (by decide) (List.mem_of_getElem? (i := 3) rfl) (v := .ref ((z 1) 5)) rfl dX7_unheard_20 ?_
      have w := w.perm (ws' := tpO Z z ++ plB Z (z 8) P9 ++ plB Z (fun k => (z 1) (5 + k)) X.2 ++ stO Z ((z 1) 0) ((z 1) 1) ((z 1) 5) ++ songB Z ((z 1) 1) ((z 1) 2) ((z 1) 3) ((z 1) 4) X.1 ++ ptB Z (z 7 0) (z 7 1) (z 7 2) tl ti ta tr t k ++ hiB Z (z 2 0) (z 2 1) (fun r => z (3 + r)) o n Y) (List.Perm.append_right _ (List.Perm.append_right _ (List.Perm.append_right _ sw2)))
      refine nv_fVv (rest := []) (tpO Z z) (stO Z ((z 1) 0) ((z 1) 1) ((z 1) 5) ++ songB Z ((z 1) 1) ((z 1) 2) ((z 1) 3) ((z 1) 4) X.1 ++ ptB Z (z 7 0) (z 7 1) (z 7 2) tl ti ta tr t k ++ hiB Z (z 2 0) (z 2 1) (fun r => z (3 + r)) o n Y) (ws' := tpO Z z ++ plB Z (z 8) X.2 ++ plB Z (fun k => (z 1) (5 + k)) X.2 ++ stO Z ((z 1) 0) ((z 1) 1) ((z 1) 5) ++ songB Z ((z 1) 1) ((z 1) 2) ((z 1) 3) ((z 1) 4) X.1 ++ ptB Z (z 7 0) (z 7 1) (z 7 2) tl ti ta tr t k ++ hiB Z (z 2 0) (z 2 1) (fun r => z (3 + r)) o n Y) S w hl.1 (c_X3_copyFrom l D Z (z 8) P9 (fun k => (z 1) (5 + k)) X.2 ) (by simp only [List.append_assoc, List.nil_append, List.append_nil]) rfl (by simp only [List.append_assoc, List.nil_append, List.append_nil]) gX7_unheard_X3_copyFrom rfl hdV_X3_copyFrom ⟨Nat.le_of_ble_eq_true rfl, Nat.le_of_ble_eq_true rfl⟩ (q0 := 0) rfl rfl rfl rfl (Nat.le_of_ble_eq_true rfl) ⟨Nat.le_of_ble_eq_true rfl, Nat.le_of_ble_eq_true rfl⟩ dX7_unheard_23 (fun H locs w => ?_)
      have w := w.perm (ws' := tpO Z z ++ plB Z (z 8) X.2 ++ stO Z ((z 1) 0) ((z 1) 1) ((z 1) 5) ++ plB Z (fun k => (z 1) (5 + k)) X.2 ++ songB Z ((z 1) 1) ((z 1) 2) ((z 1) 3) ((z 1) 4) X.1 ++ ptB Z (z 7 0) (z 7 1) (z 7 2) tl ti ta tr t k ++ hiB Z (z 2 0) (z 2 1) (fun r => z (3 + r)) o n Y) (List.Perm.append_right _ (List.Perm.append_right _ (List.Perm.append_right _ sw2)))
      refine lv_aload_n S.1 S.2.1 dX7_unheard_26 rfl (lv_at hl 0 rfl) ?_
      refine nv_get S w (C := RX7) (T := TX7) (N := 4) hn_X7_unheard_7 0 rfl rfl 3 (by decide) (List.mem_of_getElem? (i := 1) rfl) (v := .ref (z 8 0)) rfl dX7_unheard_27 ?_
      refine nv_get S w (C := RX3) (T := TX3) (N := 7) hn_X7_unheard_3 1 rfl rfl 6 (by decide) (List.mem_of_getElem? (i := 4) rfl) (v := .ref ((z 8) 1)) rfl dX7_unheard_30 ?_
      refine lv_iload_n S.1 S.2.1 dX7_unheard_33 rfl (lv_at hl 1 rfl) ?_
      rcases (show na = 0 ∨ na = 1 ∨ na = 2 ∨ na = 3 by omega) with rfl | rfl | rfl | rfl
      · skip
        refine nv_aald S w (i := 0) (q := ((z 8) 2)) 2 3 rfl rfl (by omega) (by decide) rfl dX7_unheard_34 ?_
        have w := w.as (ws' := tpO Z z ++ plO Z ((z 8) 0) ((z 8) 1) X.2.1 ++ plA Z (z 8) ++ voiceB Z ((z 8) 2) ((z 8) 3) ((z 8) 4) (X.2.2 0) ++ voiceB Z ((z 8) 5) ((z 8) 6) ((z 8) 7) (X.2.2 1) ++ voiceB Z ((z 8) 8) ((z 8) 9) ((z 8) 10) (X.2.2 2) ++ voiceB Z ((z 8) 11) ((z 8) 12) ((z 8) 13) (X.2.2 3) ++ stO Z ((z 1) 0) ((z 1) 1) ((z 1) 5) ++ plB Z (fun k => (z 1) (5 + k)) X.2 ++ songB Z ((z 1) 1) ((z 1) 2) ((z 1) 3) ((z 1) 4) X.1 ++ ptB Z (z 7 0) (z 7 1) (z 7 2) tl ti ta tr t k ++ hiB Z (z 2 0) (z 2 1) (fun r => z (3 + r)) o n Y) (by simp only [plB, List.append_assoc, Nat.reduceAdd])
        refine lv_iconst (v := nI 0) S.1 S.2.1 dX7_unheard_35 (ofInt_nI 0) ?_
        refine lv_iconst (v := nI 0) S.1 S.2.1 dX7_unheard_36 (ofInt_nI 0) ?_
        refine nv_fVi (rest := []) (tpO Z z ++ plO Z ((z 8) 0) ((z 8) 1) X.2.1 ++ plA Z (z 8)) (voiceB Z ((z 8) 5) ((z 8) 6) ((z 8) 7) (X.2.2 1) ++ voiceB Z ((z 8) 8) ((z 8) 9) ((z 8) 10) (X.2.2 2) ++ voiceB Z ((z 8) 11) ((z 8) 12) ((z 8) 13) (X.2.2 3) ++ stO Z ((z 1) 0) ((z 1) 1) ((z 1) 5) ++ plB Z (fun k => (z 1) (5 + k)) X.2 ++ songB Z ((z 1) 1) ((z 1) 2) ((z 1) 3) ((z 1) 4) X.1 ++ ptB Z (z 7 0) (z 7 1) (z 7 2) tl ti ta tr t k ++ hiB Z (z 2 0) (z 2 1) (fun r => z (3 + r)) o n Y) (ws' := tpO Z z ++ plO Z ((z 8) 0) ((z 8) 1) X.2.1 ++ plA Z (z 8) ++ voiceB Z ((z 8) 2) ((z 8) 3) ((z 8) 4) (un (un (X.2.2 0) 3 0) 2 0) ++ voiceB Z ((z 8) 5) ((z 8) 6) ((z 8) 7) (X.2.2 1) ++ voiceB Z ((z 8) 8) ((z 8) 9) ((z 8) 10) (X.2.2 2) ++ voiceB Z ((z 8) 11) ((z 8) 12) ((z 8) 13) (X.2.2 3) ++ stO Z ((z 1) 0) ((z 1) 1) ((z 1) 5) ++ plB Z (fun k => (z 1) (5 + k)) X.2 ++ songB Z ((z 1) 1) ((z 1) 2) ((z 1) 3) ((z 1) 4) X.1 ++ ptB Z (z 7 0) (z 7 1) (z 7 2) tl ti ta tr t k ++ hiB Z (z 2 0) (z 2 1) (fun r => z (3 + r)) o n Y) S w hl.1 (c_X6_stealBy l D Z ((z 8) 2) ((z 8) 3) ((z 8) 4) (X.2.2 0) 0 0 (hX.2.1.2.2.2.2.2 0 (by decide)).1) (by simp only [List.append_assoc, List.nil_append, List.append_nil]) rfl (by simp only [List.append_assoc, List.nil_append, List.append_nil]) gX7_unheard_X6_stealBy rfl hdV_X6_stealBy ⟨Nat.le_of_ble_eq_true rfl, Nat.le_of_ble_eq_true rfl⟩ (q0 := 0) rfl rfl rfl rfl (Nat.le_of_ble_eq_true rfl) ⟨Nat.le_of_ble_eq_true rfl, Nat.le_of_ble_eq_true rfl⟩ dX7_unheard_37 (fun H locs w => ?_)
        have w := w.as (ws' := tpO Z z ++ plB Z (z 8) (X.2.1, uv X.2.2 0 (un (un (X.2.2 0) 3 0) 2 0)) ++ stO Z ((z 1) 0) ((z 1) 1) ((z 1) 5) ++ plB Z (fun k => (z 1) (5 + k)) X.2 ++ songB Z ((z 1) 1) ((z 1) 2) ((z 1) 3) ((z 1) 4) X.1 ++ ptB Z (z 7 0) (z 7 1) (z 7 2) tl ti ta tr t k ++ hiB Z (z 2 0) (z 2 1) (fun r => z (3 + r)) o n Y) (by rw [← plB_s0]; simp only [List.append_assoc, Nat.reduceAdd])
        have w := w.as (ws' := tpO Z z ++ plB Z (z 8) (stP X.2 0 0 0) ++ stO Z ((z 1) 0) ((z 1) 1) ((z 1) 5) ++ plB Z (fun k => (z 1) (5 + k)) X.2 ++ songB Z ((z 1) 1) ((z 1) 2) ((z 1) 3) ((z 1) 4) X.1 ++ ptB Z (z 7 0) (z 7 1) (z 7 2) tl ti ta tr t k ++ hiB Z (z 2 0) (z 2 1) (fun r => z (3 + r)) o n Y) (rfl)
        refine lv_pop S.1 S.2.1 dX7_unheard_40 rfl ?_
        refine lv_iconst (v := nI 0) S.1 S.2.1 dX7_unheard_41 (ofInt_nI 0) ?_
        refine lv_istore_n (lv' := [(3, vI 0), (0, .ref (z 0 0)), (1, vI 0), (2, vI nn)]) S.1 S.2.1 dX7_unheard_42 rfl hl (by decide) rfl (fun ls hl => ?_)
        exact k_X7_unheard l D Z z X o n Y tl ti ta tr t k P9 (nI 0) (nI nn) hX S hr hlocks _ 0 nn 0 (by omega) (by omega) (by omega) rfl rfl ((xI_t h_6).trans ((xI_t h_7).trans (rfl))) rfl (Nat.lt_succ_self _) _ _ _ (lv_sub hl [1, 2, 3, 0] rfl) w
      · skip
        refine nv_aald S w (i := 1) (q := ((z 8) 5)) 2 3 rfl rfl (by omega) (by decide) rfl dX7_unheard_34 ?_
        have w := w.as (ws' := tpO Z z ++ plO Z ((z 8) 0) ((z 8) 1) X.2.1 ++ plA Z (z 8) ++ voiceB Z ((z 8) 2) ((z 8) 3) ((z 8) 4) (X.2.2 0) ++ voiceB Z ((z 8) 5) ((z 8) 6) ((z 8) 7) (X.2.2 1) ++ voiceB Z ((z 8) 8) ((z 8) 9) ((z 8) 10) (X.2.2 2) ++ voiceB Z ((z 8) 11) ((z 8) 12) ((z 8) 13) (X.2.2 3) ++ stO Z ((z 1) 0) ((z 1) 1) ((z 1) 5) ++ plB Z (fun k => (z 1) (5 + k)) X.2 ++ songB Z ((z 1) 1) ((z 1) 2) ((z 1) 3) ((z 1) 4) X.1 ++ ptB Z (z 7 0) (z 7 1) (z 7 2) tl ti ta tr t k ++ hiB Z (z 2 0) (z 2 1) (fun r => z (3 + r)) o n Y) (by simp only [plB, List.append_assoc, Nat.reduceAdd])
        refine lv_iconst (v := nI 0) S.1 S.2.1 dX7_unheard_35 (ofInt_nI 0) ?_
        refine lv_iconst (v := nI 0) S.1 S.2.1 dX7_unheard_36 (ofInt_nI 0) ?_
        refine nv_fVi (rest := []) (tpO Z z ++ plO Z ((z 8) 0) ((z 8) 1) X.2.1 ++ plA Z (z 8) ++ voiceB Z ((z 8) 2) ((z 8) 3) ((z 8) 4) (X.2.2 0)) (voiceB Z ((z 8) 8) ((z 8) 9) ((z 8) 10) (X.2.2 2) ++ voiceB Z ((z 8) 11) ((z 8) 12) ((z 8) 13) (X.2.2 3) ++ stO Z ((z 1) 0) ((z 1) 1) ((z 1) 5) ++ plB Z (fun k => (z 1) (5 + k)) X.2 ++ songB Z ((z 1) 1) ((z 1) 2) ((z 1) 3) ((z 1) 4) X.1 ++ ptB Z (z 7 0) (z 7 1) (z 7 2) tl ti ta tr t k ++ hiB Z (z 2 0) (z 2 1) (fun r => z (3 + r)) o n Y) (ws' := tpO Z z ++ plO Z ((z 8) 0) ((z 8) 1) X.2.1 ++ plA Z (z 8) ++ voiceB Z ((z 8) 2) ((z 8) 3) ((z 8) 4) (X.2.2 0) ++ voiceB Z ((z 8) 5) ((z 8) 6) ((z 8) 7) (un (un (X.2.2 1) 3 0) 2 0) ++ voiceB Z ((z 8) 8) ((z 8) 9) ((z 8) 10) (X.2.2 2) ++ voiceB Z ((z 8) 11) ((z 8) 12) ((z 8) 13) (X.2.2 3) ++ stO Z ((z 1) 0) ((z 1) 1) ((z 1) 5) ++ plB Z (fun k => (z 1) (5 + k)) X.2 ++ songB Z ((z 1) 1) ((z 1) 2) ((z 1) 3) ((z 1) 4) X.1 ++ ptB Z (z 7 0) (z 7 1) (z 7 2) tl ti ta tr t k ++ hiB Z (z 2 0) (z 2 1) (fun r => z (3 + r)) o n Y) S w hl.1 (c_X6_stealBy l D Z ((z 8) 5) ((z 8) 6) ((z 8) 7) (X.2.2 1) 0 0 (hX.2.1.2.2.2.2.2 1 (by decide)).1) (by simp only [List.append_assoc, List.nil_append, List.append_nil]) rfl (by simp only [List.append_assoc, List.nil_append, List.append_nil]) gX7_unheard_X6_stealBy rfl hdV_X6_stealBy ⟨Nat.le_of_ble_eq_true rfl, Nat.le_of_ble_eq_true rfl⟩ (q0 := 0) rfl rfl rfl rfl (Nat.le_of_ble_eq_true rfl) ⟨Nat.le_of_ble_eq_true rfl, Nat.le_of_ble_eq_true rfl⟩ dX7_unheard_37 (fun H locs w => ?_)
        have w := w.as (ws' := tpO Z z ++ plB Z (z 8) (X.2.1, uv X.2.2 1 (un (un (X.2.2 1) 3 0) 2 0)) ++ stO Z ((z 1) 0) ((z 1) 1) ((z 1) 5) ++ plB Z (fun k => (z 1) (5 + k)) X.2 ++ songB Z ((z 1) 1) ((z 1) 2) ((z 1) 3) ((z 1) 4) X.1 ++ ptB Z (z 7 0) (z 7 1) (z 7 2) tl ti ta tr t k ++ hiB Z (z 2 0) (z 2 1) (fun r => z (3 + r)) o n Y) (by rw [← plB_s1]; simp only [List.append_assoc, Nat.reduceAdd])
        have w := w.as (ws' := tpO Z z ++ plB Z (z 8) (stP X.2 1 0 0) ++ stO Z ((z 1) 0) ((z 1) 1) ((z 1) 5) ++ plB Z (fun k => (z 1) (5 + k)) X.2 ++ songB Z ((z 1) 1) ((z 1) 2) ((z 1) 3) ((z 1) 4) X.1 ++ ptB Z (z 7 0) (z 7 1) (z 7 2) tl ti ta tr t k ++ hiB Z (z 2 0) (z 2 1) (fun r => z (3 + r)) o n Y) (rfl)
        refine lv_pop S.1 S.2.1 dX7_unheard_40 rfl ?_
        refine lv_iconst (v := nI 0) S.1 S.2.1 dX7_unheard_41 (ofInt_nI 0) ?_
        refine lv_istore_n (lv' := [(3, vI 0), (0, .ref (z 0 0)), (1, vI 1), (2, vI nn)]) S.1 S.2.1 dX7_unheard_42 rfl hl (by decide) rfl (fun ls hl => ?_)
        exact k_X7_unheard l D Z z X o n Y tl ti ta tr t k P9 (nI 1) (nI nn) hX S hr hlocks _ 1 nn 0 (by omega) (by omega) (by omega) rfl rfl ((xI_t h_6).trans ((xI_t h_7).trans (rfl))) rfl (Nat.lt_succ_self _) _ _ _ (lv_sub hl [1, 2, 3, 0] rfl) w
      · skip
        refine nv_aald S w (i := 2) (q := ((z 8) 8)) 2 3 rfl rfl (by omega) (by decide) rfl dX7_unheard_34 ?_
        have w := w.as (ws' := tpO Z z ++ plO Z ((z 8) 0) ((z 8) 1) X.2.1 ++ plA Z (z 8) ++ voiceB Z ((z 8) 2) ((z 8) 3) ((z 8) 4) (X.2.2 0) ++ voiceB Z ((z 8) 5) ((z 8) 6) ((z 8) 7) (X.2.2 1) ++ voiceB Z ((z 8) 8) ((z 8) 9) ((z 8) 10) (X.2.2 2) ++ voiceB Z ((z 8) 11) ((z 8) 12) ((z 8) 13) (X.2.2 3) ++ stO Z ((z 1) 0) ((z 1) 1) ((z 1) 5) ++ plB Z (fun k => (z 1) (5 + k)) X.2 ++ songB Z ((z 1) 1) ((z 1) 2) ((z 1) 3) ((z 1) 4) X.1 ++ ptB Z (z 7 0) (z 7 1) (z 7 2) tl ti ta tr t k ++ hiB Z (z 2 0) (z 2 1) (fun r => z (3 + r)) o n Y) (by simp only [plB, List.append_assoc, Nat.reduceAdd])
        refine lv_iconst (v := nI 0) S.1 S.2.1 dX7_unheard_35 (ofInt_nI 0) ?_
        refine lv_iconst (v := nI 0) S.1 S.2.1 dX7_unheard_36 (ofInt_nI 0) ?_
        refine nv_fVi (rest := []) (tpO Z z ++ plO Z ((z 8) 0) ((z 8) 1) X.2.1 ++ plA Z (z 8) ++ voiceB Z ((z 8) 2) ((z 8) 3) ((z 8) 4) (X.2.2 0) ++ voiceB Z ((z 8) 5) ((z 8) 6) ((z 8) 7) (X.2.2 1)) (voiceB Z ((z 8) 11) ((z 8) 12) ((z 8) 13) (X.2.2 3) ++ stO Z ((z 1) 0) ((z 1) 1) ((z 1) 5) ++ plB Z (fun k => (z 1) (5 + k)) X.2 ++ songB Z ((z 1) 1) ((z 1) 2) ((z 1) 3) ((z 1) 4) X.1 ++ ptB Z (z 7 0) (z 7 1) (z 7 2) tl ti ta tr t k ++ hiB Z (z 2 0) (z 2 1) (fun r => z (3 + r)) o n Y) (ws' := tpO Z z ++ plO Z ((z 8) 0) ((z 8) 1) X.2.1 ++ plA Z (z 8) ++ voiceB Z ((z 8) 2) ((z 8) 3) ((z 8) 4) (X.2.2 0) ++ voiceB Z ((z 8) 5) ((z 8) 6) ((z 8) 7) (X.2.2 1) ++ voiceB Z ((z 8) 8) ((z 8) 9) ((z 8) 10) (un (un (X.2.2 2) 3 0) 2 0) ++ voiceB Z ((z 8) 11) ((z 8) 12) ((z 8) 13) (X.2.2 3) ++ stO Z ((z 1) 0) ((z 1) 1) ((z 1) 5) ++ plB Z (fun k => (z 1) (5 + k)) X.2 ++ songB Z ((z 1) 1) ((z 1) 2) ((z 1) 3) ((z 1) 4) X.1 ++ ptB Z (z 7 0) (z 7 1) (z 7 2) tl ti ta tr t k ++ hiB Z (z 2 0) (z 2 1) (fun r => z (3 + r)) o n Y) S w hl.1 (c_X6_stealBy l D Z ((z 8) 8) ((z 8) 9) ((z 8) 10) (X.2.2 2) 0 0 (hX.2.1.2.2.2.2.2 2 (by decide)).1) (by simp only [List.append_assoc, List.nil_append, List.append_nil]) rfl (by simp only [List.append_assoc, List.nil_append, List.append_nil]) gX7_unheard_X6_stealBy rfl hdV_X6_stealBy ⟨Nat.le_of_ble_eq_true rfl, Nat.le_of_ble_eq_true rfl⟩ (q0 := 0) rfl rfl rfl rfl (Nat.le_of_ble_eq_true rfl) ⟨Nat.le_of_ble_eq_true rfl, Nat.le_of_ble_eq_true rfl⟩ dX7_unheard_37 (fun H locs w => ?_)
        have w := w.as (ws' := tpO Z z ++ plB Z (z 8) (X.2.1, uv X.2.2 2 (un (un (X.2.2 2) 3 0) 2 0)) ++ stO Z ((z 1) 0) ((z 1) 1) ((z 1) 5) ++ plB Z (fun k => (z 1) (5 + k)) X.2 ++ songB Z ((z 1) 1) ((z 1) 2) ((z 1) 3) ((z 1) 4) X.1 ++ ptB Z (z 7 0) (z 7 1) (z 7 2) tl ti ta tr t k ++ hiB Z (z 2 0) (z 2 1) (fun r => z (3 + r)) o n Y) (by rw [← plB_s2]; simp only [List.append_assoc, Nat.reduceAdd])
        have w := w.as (ws' := tpO Z z ++ plB Z (z 8) (stP X.2 2 0 0) ++ stO Z ((z 1) 0) ((z 1) 1) ((z 1) 5) ++ plB Z (fun k => (z 1) (5 + k)) X.2 ++ songB Z ((z 1) 1) ((z 1) 2) ((z 1) 3) ((z 1) 4) X.1 ++ ptB Z (z 7 0) (z 7 1) (z 7 2) tl ti ta tr t k ++ hiB Z (z 2 0) (z 2 1) (fun r => z (3 + r)) o n Y) (rfl)
        refine lv_pop S.1 S.2.1 dX7_unheard_40 rfl ?_
        refine lv_iconst (v := nI 0) S.1 S.2.1 dX7_unheard_41 (ofInt_nI 0) ?_
        refine lv_istore_n (lv' := [(3, vI 0), (0, .ref (z 0 0)), (1, vI 2), (2, vI nn)]) S.1 S.2.1 dX7_unheard_42 rfl hl (by decide) rfl (fun ls hl => ?_)
        exact k_X7_unheard l D Z z X o n Y tl ti ta tr t k P9 (nI 2) (nI nn) hX S hr hlocks _ 2 nn 0 (by omega) (by omega) (by omega) rfl rfl ((xI_t h_6).trans ((xI_t h_7).trans (rfl))) rfl (Nat.lt_succ_self _) _ _ _ (lv_sub hl [1, 2, 3, 0] rfl) w
      · skip
        refine nv_aald S w (i := 3) (q := ((z 8) 11)) 2 3 rfl rfl (by omega) (by decide) rfl dX7_unheard_34 ?_
        have w := w.as (ws' := tpO Z z ++ plO Z ((z 8) 0) ((z 8) 1) X.2.1 ++ plA Z (z 8) ++ voiceB Z ((z 8) 2) ((z 8) 3) ((z 8) 4) (X.2.2 0) ++ voiceB Z ((z 8) 5) ((z 8) 6) ((z 8) 7) (X.2.2 1) ++ voiceB Z ((z 8) 8) ((z 8) 9) ((z 8) 10) (X.2.2 2) ++ voiceB Z ((z 8) 11) ((z 8) 12) ((z 8) 13) (X.2.2 3) ++ stO Z ((z 1) 0) ((z 1) 1) ((z 1) 5) ++ plB Z (fun k => (z 1) (5 + k)) X.2 ++ songB Z ((z 1) 1) ((z 1) 2) ((z 1) 3) ((z 1) 4) X.1 ++ ptB Z (z 7 0) (z 7 1) (z 7 2) tl ti ta tr t k ++ hiB Z (z 2 0) (z 2 1) (fun r => z (3 + r)) o n Y) (by simp only [plB, List.append_assoc, Nat.reduceAdd])
        refine lv_iconst (v := nI 0) S.1 S.2.1 dX7_unheard_35 (ofInt_nI 0) ?_
        refine lv_iconst (v := nI 0) S.1 S.2.1 dX7_unheard_36 (ofInt_nI 0) ?_
        refine nv_fVi (rest := []) (tpO Z z ++ plO Z ((z 8) 0) ((z 8) 1) X.2.1 ++ plA Z (z 8) ++ voiceB Z ((z 8) 2) ((z 8) 3) ((z 8) 4) (X.2.2 0) ++ voiceB Z ((z 8) 5) ((z 8) 6) ((z 8) 7) (X.2.2 1) ++ voiceB Z ((z 8) 8) ((z 8) 9) ((z 8) 10) (X.2.2 2)) (stO Z ((z 1) 0) ((z 1) 1) ((z 1) 5) ++ plB Z (fun k => (z 1) (5 + k)) X.2 ++ songB Z ((z 1) 1) ((z 1) 2) ((z 1) 3) ((z 1) 4) X.1 ++ ptB Z (z 7 0) (z 7 1) (z 7 2) tl ti ta tr t k ++ hiB Z (z 2 0) (z 2 1) (fun r => z (3 + r)) o n Y) (ws' := tpO Z z ++ plO Z ((z 8) 0) ((z 8) 1) X.2.1 ++ plA Z (z 8) ++ voiceB Z ((z 8) 2) ((z 8) 3) ((z 8) 4) (X.2.2 0) ++ voiceB Z ((z 8) 5) ((z 8) 6) ((z 8) 7) (X.2.2 1) ++ voiceB Z ((z 8) 8) ((z 8) 9) ((z 8) 10) (X.2.2 2) ++ voiceB Z ((z 8) 11) ((z 8) 12) ((z 8) 13) (un (un (X.2.2 3) 3 0) 2 0) ++ stO Z ((z 1) 0) ((z 1) 1) ((z 1) 5) ++ plB Z (fun k => (z 1) (5 + k)) X.2 ++ songB Z ((z 1) 1) ((z 1) 2) ((z 1) 3) ((z 1) 4) X.1 ++ ptB Z (z 7 0) (z 7 1) (z 7 2) tl ti ta tr t k ++ hiB Z (z 2 0) (z 2 1) (fun r => z (3 + r)) o n Y) S w hl.1 (c_X6_stealBy l D Z ((z 8) 11) ((z 8) 12) ((z 8) 13) (X.2.2 3) 0 0 (hX.2.1.2.2.2.2.2 3 (by decide)).1) (by simp only [List.append_assoc, List.nil_append, List.append_nil]) rfl (by simp only [List.append_assoc, List.nil_append, List.append_nil]) gX7_unheard_X6_stealBy rfl hdV_X6_stealBy ⟨Nat.le_of_ble_eq_true rfl, Nat.le_of_ble_eq_true rfl⟩ (q0 := 0) rfl rfl rfl rfl (Nat.le_of_ble_eq_true rfl) ⟨Nat.le_of_ble_eq_true rfl, Nat.le_of_ble_eq_true rfl⟩ dX7_unheard_37 (fun H locs w => ?_)
        have w := w.as (ws' := tpO Z z ++ plB Z (z 8) (X.2.1, uv X.2.2 3 (un (un (X.2.2 3) 3 0) 2 0)) ++ stO Z ((z 1) 0) ((z 1) 1) ((z 1) 5) ++ plB Z (fun k => (z 1) (5 + k)) X.2 ++ songB Z ((z 1) 1) ((z 1) 2) ((z 1) 3) ((z 1) 4) X.1 ++ ptB Z (z 7 0) (z 7 1) (z 7 2) tl ti ta tr t k ++ hiB Z (z 2 0) (z 2 1) (fun r => z (3 + r)) o n Y) (by rw [← plB_s3]; simp only [List.append_assoc, Nat.reduceAdd])
        have w := w.as (ws' := tpO Z z ++ plB Z (z 8) (stP X.2 3 0 0) ++ stO Z ((z 1) 0) ((z 1) 1) ((z 1) 5) ++ plB Z (fun k => (z 1) (5 + k)) X.2 ++ songB Z ((z 1) 1) ((z 1) 2) ((z 1) 3) ((z 1) 4) X.1 ++ ptB Z (z 7 0) (z 7 1) (z 7 2) tl ti ta tr t k ++ hiB Z (z 2 0) (z 2 1) (fun r => z (3 + r)) o n Y) (rfl)
        refine lv_pop S.1 S.2.1 dX7_unheard_40 rfl ?_
        refine lv_iconst (v := nI 0) S.1 S.2.1 dX7_unheard_41 (ofInt_nI 0) ?_
        refine lv_istore_n (lv' := [(3, vI 0), (0, .ref (z 0 0)), (1, vI 3), (2, vI nn)]) S.1 S.2.1 dX7_unheard_42 rfl hl (by decide) rfl (fun ls hl => ?_)
        exact k_X7_unheard l D Z z X o n Y tl ti ta tr t k P9 (nI 3) (nI nn) hX S hr hlocks _ 3 nn 0 (by omega) (by omega) (by omega) rfl rfl ((xI_t h_6).trans ((xI_t h_7).trans (rfl))) rfl (Nat.lt_succ_self _) _ _ _ (lv_sub hl [1, 2, 3, 0] rfl) w
