theorem hn_X7_silent_7 : ∀ w ∈ wsX70, w ∈ wsX7_silent := by decide +kernel
theorem hn_X7_silent_5 : ∀ w ∈ wsX50, w ∈ wsX7_silent := by decide +kernel
theorem hn_X7_silent_3 : ∀ w ∈ wsX30, w ∈ wsX7_silent := by decide +kernel
theorem hn_X7_silent_6 : ∀ w ∈ wsX60, w ∈ wsX7_silent := by decide +kernel
set_option maxRecDepth 100000 in
set_option maxHeartbeats 4000000 in
theorem k_X7_silent (l : Launch) (D : va_G) (Z : Nat → ClassId) (z : Nat → Nat → Nat) (X : ST) (o n : Nat) (Y : Nat → ST) (tl ti ta tr : Nat) (t : Nat → Nat) (k : Nat → Nat → Nat) (P9 : PG) (xa xn : Int32) (hX : XB X) {p : Program} {e : Env} {s : State} {m : MethodId} {args : Array Value} {below : List Frame} {meth : Method} {c : Code} {A : Nat → Prop} (S : CallFix p m c cX7_silent 5 s args wsX7_silent RX7) (hr : meth.sig.returnType = (some .int)) (hlocks : meth.locks = false) : ∀ (n9 : Nat), (∀ (nd nt j cnt : Nat) (hnd : nd < 4) (hnt : nt ≤ 500) (hj : j ≤ nt) (exa : xa = nI nd) (exn : xn = nI nt) (hex : xI (ixI 4 xa) eIX (xI (rgI 1 500 xn) eIA none) = none) (ec : cnt = siN X.1 X.2 nd j) (hm : 500 - j < n9), ∀ (H : Heap) (locs : List Loc) (ls : Array Slot) (hl : lv_has ls 5 [(0, .ref (z 0 0)), (1, vI nd), (2, vI nt), (3, vI cnt), (4, vI (j + 1))]) (w : Wd D Z A s (tpO Z z ++ plB Z (z 8) (tkN X.1 X.2 j) ++ stO Z ((z 1) 0) ((z 1) 1) ((z 1) 5) ++ plB Z (fun k => (z 1) (5 + k)) X.2 ++ songB Z ((z 1) 1) ((z 1) 2) ((z 1) 3) ((z 1) 4) X.1 ++ ptB Z (z 7 0) (z 7 1) (z 7 2) tl ti ta tr t k ++ hiB Z (z 2 0) (z 2 1) (fun r => z (3 + r)) o n Y) H locs), W p l e (rmX 7 117 2 12) s m args below meth c H locs 2 12 (QXi below D Z A args s (tpO Z z ++ plB Z (z 8) P9 ++ stB Z (z 1) X ++ ptB Z (z 7 0) (z 7 1) (z 7 2) tl ti ta tr t k ++ hiB Z (z 2 0) (z 2 1) (fun r => z (3 + r)) o n Y) (xI (ixI 4 xa) eIX (xI (rgI 1 500 xn) eIA none)) (nI (siN X.1 X.2 (toN xa) (toN xn))) (tpO Z z ++ plB Z (z 8) (tkN X.1 X.2 (toN xn)) ++ stB Z (z 1) X ++ ptB Z (z 7 0) (z 7 1) (z 7 2) tl ti ta tr t k ++ hiB Z (z 2 0) (z 2 1) (fun r => z (3 + r)) o n Y) 2 12) (F0 m 32 ls [])) := by
  intro n9
  induction n9 with
  | zero => intro nd nt j cnt hnd hnt hj exa exn hex ec hm; exact absurd hm (Nat.not_lt_zero _)
  | succ n9 ih =>
    skip
    · intro nd nt j cnt hnd hnt hj exa exn hex ec hm H locs ls hl w
      subst exa
      subst exn
      have eqnd : toN (nI nd) = nd := toN_nI (by omega)
      have eqnt : toN (nI nt) = nt := toN_nI (by omega)
      have hcn := siN_le (G := X.1) (P := X.2) (c := nd) j
      refine lv_iload S.1 S.2.1 dX7_silent_32 (lv_at hl 4 rfl) ?_
      refine lv_iload_n S.1 S.2.1 dX7_silent_34 rfl (lv_at hl 2 rfl) ?_
      refine nv_icmp_gt S (by omega) (by omega) (tgt := 76) dX7_silent_35 (by decide) (fun h_1 => ?_) (fun h_1 => ?_)
      · skip
        refine lv_iload_n S.1 S.2.1 dX7_silent_76 rfl (lv_at hl 3 rfl) ?_
        exact nx_iret S w hr hlocks rfl hex (by rw [eqnd, eqnt, ec, show j = nt by omega]) (by simp only [eqnt, stB, List.append_assoc, show j = nt by omega]) (Nat.le_of_ble_eq_true rfl) (Nat.le_of_ble_eq_true rfl) dX7_silent_77
      · skip
        refine lv_aload_n S.1 S.2.1 dX7_silent_38 rfl (lv_at hl 0 rfl) ?_
        refine nv_get S w (C := RX7) (T := TX7) (N := 4) hn_X7_silent_7 0 rfl rfl 3 (by decide) (List.mem_of_getElem? (i := 1) rfl) (v := .ref (z 8 0)) rfl dX7_silent_39 ?_
        refine lv_aload_n S.1 S.2.1 dX7_silent_42 rfl (lv_at hl 0 rfl) ?_
        refine nv_get S w (C := RX7) (T := TX7) (N := 4) hn_X7_silent_7 0 rfl rfl 0 (by decide) (List.mem_of_getElem? (i := 2) rfl) (v := .ref (z 1 0)) rfl dX7_silent_43 ?_
        refine nv_get S w (C := RX5) (T := TX5) (N := 2) hn_X7_silent_5 15 rfl rfl 0 (by decide) (List.mem_of_getElem? (i := 4) rfl) (v := .ref ((z 1) 1)) rfl dX7_silent_46 ?_
        have w := w.perm (ws' := tpO Z z ++ plB Z (z 8) (tkN X.1 X.2 j) ++ songB Z ((z 1) 1) ((z 1) 2) ((z 1) 3) ((z 1) 4) X.1 ++ stO Z ((z 1) 0) ((z 1) 1) ((z 1) 5) ++ plB Z (fun k => (z 1) (5 + k)) X.2 ++ ptB Z (z 7 0) (z 7 1) (z 7 2) tl ti ta tr t k ++ hiB Z (z 2 0) (z 2 1) (fun r => z (3 + r)) o n Y) (List.Perm.trans (List.Perm.append_right _ (List.Perm.append_right _ sw2)) (List.Perm.append_right _ (List.Perm.append_right _ (List.Perm.append_right _ sw2))))
        refine nv_fVv (rest := []) (tpO Z z) (stO Z ((z 1) 0) ((z 1) 1) ((z 1) 5) ++ plB Z (fun k => (z 1) (5 + k)) X.2 ++ ptB Z (z 7 0) (z 7 1) (z 7 2) tl ti ta tr t k ++ hiB Z (z 2 0) (z 2 1) (fun r => z (3 + r)) o n Y) (ws' := tpO Z z ++ plB Z (z 8) (tkP X.1 (tkN X.1 X.2 j)) ++ songB Z ((z 1) 1) ((z 1) 2) ((z 1) 3) ((z 1) 4) X.1 ++ stO Z ((z 1) 0) ((z 1) 1) ((z 1) 5) ++ plB Z (fun k => (z 1) (5 + k)) X.2 ++ ptB Z (z 7 0) (z 7 1) (z 7 2) tl ti ta tr t k ++ hiB Z (z 2 0) (z 2 1) (fun r => z (3 + r)) o n Y) S w hl.1 (c_X3_passTick l D Z (z 8) (tkN X.1 X.2 j) ((z 1) 1) ((z 1) 2) ((z 1) 3) ((z 1) 4) X.1 hX.1 (tkN_PB hX.1 hX.2.1 j)) (by simp only [List.append_assoc, List.nil_append, List.append_nil]) rfl (by simp only [List.append_assoc, List.nil_append, List.append_nil]) gX7_silent_X3_passTick rfl hdV_X3_passTick ⟨Nat.le_of_ble_eq_true rfl, Nat.le_of_ble_eq_true rfl⟩ (q0 := 0) rfl rfl rfl rfl (Nat.le_of_ble_eq_true rfl) ⟨Nat.le_of_ble_eq_true rfl, Nat.le_of_ble_eq_true rfl⟩ dX7_silent_49 (fun H locs w => ?_)
        have w := w.perm (ws' := tpO Z z ++ plB Z (z 8) (tkP X.1 (tkN X.1 X.2 j)) ++ stO Z ((z 1) 0) ((z 1) 1) ((z 1) 5) ++ plB Z (fun k => (z 1) (5 + k)) X.2 ++ songB Z ((z 1) 1) ((z 1) 2) ((z 1) 3) ((z 1) 4) X.1 ++ ptB Z (z 7 0) (z 7 1) (z 7 2) tl ti ta tr t k ++ hiB Z (z 2 0) (z 2 1) (fun r => z (3 + r)) o n Y) (List.Perm.trans (List.Perm.append_right _ (List.Perm.append_right _ (List.Perm.append_right _ sw2))) (List.Perm.append_right _ (List.Perm.append_right _ sw2)))
        have w := w.as (ws' := tpO Z z ++ plB Z (z 8) (tkN X.1 X.2 (j + 1)) ++ stO Z ((z 1) 0) ((z 1) 1) ((z 1) 5) ++ plB Z (fun k => (z 1) (5 + k)) X.2 ++ songB Z ((z 1) 1) ((z 1) 2) ((z 1) 3) ((z 1) 4) X.1 ++ ptB Z (z 7 0) (z 7 1) (z 7 2) tl ti ta tr t k ++ hiB Z (z 2 0) (z 2 1) (fun r => z (3 + r)) o n Y) (rfl)
        refine lv_aload_n S.1 S.2.1 dX7_silent_52 rfl (lv_at hl 0 rfl) ?_
        refine nv_get S w (C := RX7) (T := TX7) (N := 4) hn_X7_silent_7 0 rfl rfl 3 (by decide) (List.mem_of_getElem? (i := 1) rfl) (v := .ref (z 8 0)) rfl dX7_silent_53 ?_
        refine nv_get S w (C := RX3) (T := TX3) (N := 7) hn_X7_silent_3 1 rfl rfl 6 (by decide) (List.mem_of_getElem? (i := 5) rfl) (v := .ref ((z 8) 1)) rfl dX7_silent_56 ?_
        refine lv_iload_n S.1 S.2.1 dX7_silent_59 rfl (lv_at hl 1 rfl) ?_
        rcases (show nd = 0 ∨ nd = 1 ∨ nd = 2 ∨ nd = 3 by omega) with rfl | rfl | rfl | rfl
        · skip
          refine nv_aald S w (i := 0) (q := ((z 8) 2)) 2 3 rfl rfl (by omega) (by decide) rfl dX7_silent_60 ?_
          refine nv_get S w (C := RX6) (T := TX6) (N := 9) hn_X7_silent_6 3 rfl rfl 4 (by decide) (List.mem_of_getElem? (i := 6) rfl) (v := vI ((((tkN X.1 X.2 (j + 1)).2) 0) 11)) rfl dX7_silent_61 ?_
          have hvb := ((tkN_PB hX.1 hX.2.1 (j + 1)).2.2.2.2.2 0 (by decide)).1
          unfold VB at hvb
          refine nv_if_ne S (by omega) (tgt := 70) dX7_silent_64 (by decide) (fun h_2 => ?_) (fun h_2 => ?_)
          · skip
            refine lv_iinc (v := nI ((j + 1) + 1)) (lv' := [(4, vI ((j + 1) + 1)), (0, .ref (z 0 0)), (1, vI 0), (2, vI nt), (3, vI cnt)]) S.1 S.2.1 dX7_silent_70 hl (k := 4) rfl (nI_incI (j + 1) 1) (by decide) rfl (fun ls hl => ?_)
            refine lv_goto (tgt := 32) S.1 S.2.1 dX7_silent_73 (by decide) ?_
            exact ih 0 nt (j + 1) cnt (by omega) (by omega) (by omega) rfl rfl hex (by have hq : siN X.1 X.2 0 (j + 1) = siN X.1 X.2 0 j + bP ((tkN X.1 X.2 (j + 1)).2 0 11 = 0) := rfl; rw [bP_f h_2] at hq; omega) (by omega) _ _ _ (lv_sub hl [1, 2, 3, 4, 0] rfl) w
          · skip
            refine lv_iinc (v := nI (cnt + 1)) (lv' := [(3, vI (cnt + 1)), (0, .ref (z 0 0)), (1, vI 0), (2, vI nt), (4, vI (j + 1))]) S.1 S.2.1 dX7_silent_67 hl (k := 3) rfl (nI_incI cnt 1) (by decide) rfl (fun ls hl => ?_)
            refine lv_iinc (v := nI ((j + 1) + 1)) (lv' := [(4, vI ((j + 1) + 1)), (3, vI (cnt + 1)), (0, .ref (z 0 0)), (1, vI 0), (2, vI nt)]) S.1 S.2.1 dX7_silent_70 hl (k := 4) rfl (nI_incI (j + 1) 1) (by decide) rfl (fun ls hl => ?_)
            refine lv_goto (tgt := 32) S.1 S.2.1 dX7_silent_73 (by decide) ?_
            exact ih 0 nt (j + 1) (cnt + 1) (by omega) (by omega) (by omega) rfl rfl hex (by have hq : siN X.1 X.2 0 (j + 1) = siN X.1 X.2 0 j + bP ((tkN X.1 X.2 (j + 1)).2 0 11 = 0) := rfl; rw [bP_t h_2] at hq; omega) (by omega) _ _ _ (lv_sub hl [2, 3, 4, 1, 0] rfl) w
        · skip
          refine nv_aald S w (i := 1) (q := ((z 8) 5)) 2 3 rfl rfl (by omega) (by decide) rfl dX7_silent_60 ?_
          refine nv_get S w (C := RX6) (T := TX6) (N := 9) hn_X7_silent_6 6 rfl rfl 4 (by decide) (List.mem_of_getElem? (i := 6) rfl) (v := vI ((((tkN X.1 X.2 (j + 1)).2) 1) 11)) rfl dX7_silent_61 ?_
          have hvb := ((tkN_PB hX.1 hX.2.1 (j + 1)).2.2.2.2.2 1 (by decide)).1
          unfold VB at hvb
          refine nv_if_ne S (by omega) (tgt := 70) dX7_silent_64 (by decide) (fun h_3 => ?_) (fun h_3 => ?_)
          · skip
            refine lv_iinc (v := nI ((j + 1) + 1)) (lv' := [(4, vI ((j + 1) + 1)), (0, .ref (z 0 0)), (1, vI 1), (2, vI nt), (3, vI cnt)]) S.1 S.2.1 dX7_silent_70 hl (k := 4) rfl (nI_incI (j + 1) 1) (by decide) rfl (fun ls hl => ?_)
            refine lv_goto (tgt := 32) S.1 S.2.1 dX7_silent_73 (by decide) ?_
            exact ih 1 nt (j + 1) cnt (by omega) (by omega) (by omega) rfl rfl hex (by have hq : siN X.1 X.2 1 (j + 1) = siN X.1 X.2 1 j + bP ((tkN X.1 X.2 (j + 1)).2 1 11 = 0) := rfl; rw [bP_f h_3] at hq; omega) (by omega) _ _ _ (lv_sub hl [1, 2, 3, 4, 0] rfl) w
          · skip
            refine lv_iinc (v := nI (cnt + 1)) (lv' := [(3, vI (cnt + 1)), (0, .ref (z 0 0)), (1, vI 1), (2, vI nt), (4, vI (j + 1))]) S.1 S.2.1 dX7_silent_67 hl (k := 3) rfl (nI_incI cnt 1) (by decide) rfl (fun ls hl => ?_)
            refine lv_iinc (v := nI ((j + 1) + 1)) (lv' := [(4, vI ((j + 1) + 1)), (3, vI (cnt + 1)), (0, .ref (z 0 0)), (1, vI 1), (2, vI nt)]) S.1 S.2.1 dX7_silent_70 hl (k := 4) rfl (nI_incI (j + 1) 1) (by decide) rfl (fun ls hl => ?_)
            refine lv_goto (tgt := 32) S.1 S.2.1 dX7_silent_73 (by decide) ?_
            exact ih 1 nt (j + 1) (cnt + 1) (by omega) (by omega) (by omega) rfl rfl hex (by have hq : siN X.1 X.2 1 (j + 1) = siN X.1 X.2 1 j + bP ((tkN X.1 X.2 (j + 1)).2 1 11 = 0) := rfl; rw [bP_t h_3] at hq; omega) (by omega) _ _ _ (lv_sub hl [2, 3, 4, 1, 0] rfl) w
        · skip
          refine nv_aald S w (i := 2) (q := ((z 8) 8)) 2 3 rfl rfl (by omega) (by decide) rfl dX7_silent_60 ?_
          refine nv_get S w (C := RX6) (T := TX6) (N := 9) hn_X7_silent_6 9 rfl rfl 4 (by decide) (List.mem_of_getElem? (i := 6) rfl) (v := vI ((((tkN X.1 X.2 (j + 1)).2) 2) 11)) rfl dX7_silent_61 ?_
          have hvb := ((tkN_PB hX.1 hX.2.1 (j + 1)).2.2.2.2.2 2 (by decide)).1
          unfold VB at hvb
          refine nv_if_ne S (by omega) (tgt := 70) dX7_silent_64 (by decide) (fun h_4 => ?_) (fun h_4 => ?_)
          · skip
            refine lv_iinc (v := nI ((j + 1) + 1)) (lv' := [(4, vI ((j + 1) + 1)), (0, .ref (z 0 0)), (1, vI 2), (2, vI nt), (3, vI cnt)]) S.1 S.2.1 dX7_silent_70 hl (k := 4) rfl (nI_incI (j + 1) 1) (by decide) rfl (fun ls hl => ?_)
            refine lv_goto (tgt := 32) S.1 S.2.1 dX7_silent_73 (by decide) ?_
            exact ih 2 nt (j + 1) cnt (by omega) (by omega) (by omega) rfl rfl hex (by have hq : siN X.1 X.2 2 (j + 1) = siN X.1 X.2 2 j + bP ((tkN X.1 X.2 (j + 1)).2 2 11 = 0) := rfl; rw [bP_f h_4] at hq; omega) (by omega) _ _ _ (lv_sub hl [1, 2, 3, 4, 0] rfl) w
          · skip
            refine lv_iinc (v := nI (cnt + 1)) (lv' := [(3, vI (cnt + 1)), (0, .ref (z 0 0)), (1, vI 2), (2, vI nt), (4, vI (j + 1))]) S.1 S.2.1 dX7_silent_67 hl (k := 3) rfl (nI_incI cnt 1) (by decide) rfl (fun ls hl => ?_)
            refine lv_iinc (v := nI ((j + 1) + 1)) (lv' := [(4, vI ((j + 1) + 1)), (3, vI (cnt + 1)), (0, .ref (z 0 0)), (1, vI 2), (2, vI nt)]) S.1 S.2.1 dX7_silent_70 hl (k := 4) rfl (nI_incI (j + 1) 1) (by decide) rfl (fun ls hl => ?_)
            refine lv_goto (tgt := 32) S.1 S.2.1 dX7_silent_73 (by decide) ?_
            exact ih 2 nt (j + 1) (cnt + 1) (by omega) (by omega) (by omega) rfl rfl hex (by have hq : siN X.1 X.2 2 (j + 1) = siN X.1 X.2 2 j + bP ((tkN X.1 X.2 (j + 1)).2 2 11 = 0) := rfl; rw [bP_t h_4] at hq; omega) (by omega) _ _ _ (lv_sub hl [2, 3, 4, 1, 0] rfl) w
        · skip
          refine nv_aald S w (i := 3) (q := ((z 8) 11)) 2 3 rfl rfl (by omega) (by decide) rfl dX7_silent_60 ?_
          refine nv_get S w (C := RX6) (T := TX6) (N := 9) hn_X7_silent_6 12 rfl rfl 4 (by decide) (List.mem_of_getElem? (i := 6) rfl) (v := vI ((((tkN X.1 X.2 (j + 1)).2) 3) 11)) rfl dX7_silent_61 ?_
          have hvb := ((tkN_PB hX.1 hX.2.1 (j + 1)).2.2.2.2.2 3 (by decide)).1
          unfold VB at hvb
          refine nv_if_ne S (by omega) (tgt := 70) dX7_silent_64 (by decide) (fun h_5 => ?_) (fun h_5 => ?_)
          · skip
            refine lv_iinc (v := nI ((j + 1) + 1)) (lv' := [(4, vI ((j + 1) + 1)), (0, .ref (z 0 0)), (1, vI 3), (2, vI nt), (3, vI cnt)]) S.1 S.2.1 dX7_silent_70 hl (k := 4) rfl (nI_incI (j + 1) 1) (by decide) rfl (fun ls hl => ?_)
            refine lv_goto (tgt := 32) S.1 S.2.1 dX7_silent_73 (by decide) ?_
            exact ih 3 nt (j + 1) cnt (by omega) (by omega) (by omega) rfl rfl hex (by have hq : siN X.1 X.2 3 (j + 1) = siN X.1 X.2 3 j + bP ((tkN X.1 X.2 (j + 1)).2 3 11 = 0) := rfl; rw [bP_f h_5] at hq; omega) (by omega) _ _ _ (lv_sub hl [1, 2, 3, 4, 0] rfl) w
          · skip
            refine lv_iinc (v := nI (cnt + 1)) (lv' := [(3, vI (cnt + 1)), (0, .ref (z 0 0)), (1, vI 3), (2, vI nt), (4, vI (j + 1))]) S.1 S.2.1 dX7_silent_67 hl (k := 3) rfl (nI_incI cnt 1) (by decide) rfl (fun ls hl => ?_)
            refine lv_iinc (v := nI ((j + 1) + 1)) (lv' := [(4, vI ((j + 1) + 1)), (3, vI (cnt + 1)), (0, .ref (z 0 0)), (1, vI 3), (2, vI nt)]) S.1 S.2.1 dX7_silent_70 hl (k := 4) rfl (nI_incI (j + 1) 1) (by decide) rfl (fun ls hl => ?_)
            refine lv_goto (tgt := 32) S.1 S.2.1 dX7_silent_73 (by decide) ?_
            exact ih 3 nt (j + 1) (cnt + 1) (by omega) (by omega) (by omega) rfl rfl hex (by have hq : siN X.1 X.2 3 (j + 1) = siN X.1 X.2 3 j + bP ((tkN X.1 X.2 (j + 1)).2 3 11 = 0) := rfl; rw [bP_t h_5] at hq; omega) (by omega) _ _ _ (lv_sub hl [2, 3, 4, 1, 0] rfl) w
set_option maxRecDepth 100000 in
set_option maxHeartbeats 4000000 in
theorem c_X7_silent (l : Launch) (hst : l.stackTraces = false) (D : va_G) (Z : Nat → ClassId) (z : Nat → Nat → Nat) (X : ST) (o n : Nat) (Y : Nat → ST) (tl ti ta tr : Nat) (t : Nat → Nat) (k : Nat → Nat → Nat) (P9 : PG) (xa xn : Int32) (hX : XB X) : Xi l yX7_silent wsX7_silent 7 117 2 12 D Z [.ref (z 0 0), .int xa, .int xn] (tpO Z z ++ plB Z (z 8) P9 ++ stB Z (z 1) X ++ ptB Z (z 7 0) (z 7 1) (z 7 2) tl ti ta tr t k ++ hiB Z (z 2 0) (z 2 1) (fun r => z (3 + r)) o n Y) (xI (ixI 4 xa) eIX (xI (rgI 1 500 xn) eIA none)) (nI (siN X.1 X.2 (toN xa) (toN xn))) (tpO Z z ++ plB Z (z 8) (tkN X.1 X.2 (toN xn)) ++ stB Z (z 1) X ++ ptB Z (z 7 0) (z 7 1) (z 7 2) tl ti ta tr t k ++ hiB Z (z 2 0) (z 2 1) (fun r => z (3 + r)) o n Y) := by
  refine nxe_i (cc := cX7_silent) (maxL := 5) (by decide +kernel) rfl (Nat.le_of_ble_eq_true rfl) (fun p e s m args below meth c A ls (S : CallFix p m c cX7_silent 5 s args wsX7_silent RX7) hr hlocks htab X9 hl w => ?_)
  have hl : lv_has ls 5 [(0, .ref (z 0 0)), (1, .int xa), (2, .int xn)] := hl
  refine lv_iload_n S.1 S.2.1 dX7_silent_0 rfl (lv_at hl 1 rfl) ?_
  refine lv_iconst (v := nI 4) S.1 S.2.1 dX7_silent_1 (ofInt_nI 4) ?_
  refine nx_pSv (rest := []) S w X9 hl.1 (c_X7_requireIndex l hst D Z xa 4 ) gX7_silent_X7_requireIndex rfl hdS_X7_requireIndex ⟨Nat.le_of_ble_eq_true rfl, Nat.le_of_ble_eq_true rfl⟩ rfl rfl (Nat.le_of_ble_eq_true rfl) ⟨Nat.le_of_ble_eq_true rfl, Nat.le_of_ble_eq_true rfl⟩ dX7_silent_2 (fun E9 ce q9 H locs hE w hc9 hv9 hf9 => ?_) (fun hN H locs w => ?_)
  · exact nx_out w htab hlocks hc9 hv9 hf9 (xI_f (xI_no hE)) (Nat.le_of_ble_eq_true rfl) (Nat.le_of_ble_eq_true rfl)
  · skip
    have h_6 := xI_yes hN
    refine lv_iload_n S.1 S.2.1 dX7_silent_5 rfl (lv_at hl 2 rfl) ?_
    refine lv_iconst (v := nI 1) S.1 S.2.1 dX7_silent_6 (ofInt_nI 1) ?_
    refine lv_sipush (v := nI 500) S.1 S.2.1 dX7_silent_7 (by decide +kernel) ?_
    refine nx_pSv (rest := []) S w X9 hl.1 (c_X7_requireRange l hst D Z xn 1 500 ) gX7_silent_X7_requireRange rfl hdS_X7_requireRange ⟨Nat.le_of_ble_eq_true rfl, Nat.le_of_ble_eq_true rfl⟩ rfl rfl (Nat.le_of_ble_eq_true rfl) ⟨Nat.le_of_ble_eq_true rfl, Nat.le_of_ble_eq_true rfl⟩ dX7_silent_10 (fun E9 ce q9 H locs hE w hc9 hv9 hf9 => ?_) (fun hN H locs w => ?_)
    · exact nx_out w htab hlocks hc9 hv9 hf9 ((xI_t h_6).trans (xI_f (xI_no hE))) (Nat.le_of_ble_eq_true rfl) (Nat.le_of_ble_eq_true rfl)
    · skip
      have h_7 := xI_yes hN
      obtain ⟨na, rfl, hna⟩ := ix_nat (by decide) h_6
      have eqna : toN (nI na) = na := toN_nI (by omega)
      obtain ⟨nn, rfl, hnn⟩ := rg_nat (by decide) (by decide) h_7
      have eqnn : toN (nI nn) = nn := toN_nI (by omega)
      refine lv_aload_n S.1 S.2.1 dX7_silent_13 rfl (lv_at hl 0 rfl) ?_
      have w := w.as (ws' := tpO Z z ++ plB Z (z 8) P9 ++ stO Z ((z 1) 0) ((z 1) 1) ((z 1) 5) ++ plB Z (fun k => (z 1) (5 + k)) X.2 ++ songB Z ((z 1) 1) ((z 1) 2) ((z 1) 3) ((z 1) 4) X.1 ++ ptB Z (z 7 0) (z 7 1) (z 7 2) tl ti ta tr t k ++ hiB Z (z 2 0) (z 2 1) (fun r => z (3 + r)) o n Y) (by simp only [stB, List.append_assoc])
      refine nv_get S w (C := RX7) (T := TX7) (N := 4) hn_X7_silent_7 0 rfl rfl 3 (by decide) (List.mem_of_getElem? (i := 1) rfl) (v := .ref (z 8 0)) rfl dX7_silent_14 ?_
      refine lv_aload_n S.1 S.2.1 dX7_silent_17 rfl (lv_at hl 0 rfl) ?_
      refine nv_get S w (C := RX7) (T := TX7) (N := 4) hn_X7_silent_7 0 rfl rfl 0 (by decide) (List.mem_of_getElem? (i := 2) rfl) (v := .ref (z 1 0)) rfl dX7_silent_18 ?_
      refine nv_get S w (C := RX5) (T := TX5) (N := 2) hn_X7_silent_5 15 rfl rfl 1 (by decide) (List.mem_of_getElem? (i := 3) rfl) (v := .ref ((z 1) 5)) rfl dX7_silent_21 ?_
      have w := w.perm (ws' := tpO Z z ++ plB Z (z 8) P9 ++ plB Z (fun k => (z 1) (5 + k)) X.2 ++ stO Z ((z 1) 0) ((z 1) 1) ((z 1) 5) ++ songB Z ((z 1) 1) ((z 1) 2) ((z 1) 3) ((z 1) 4) X.1 ++ ptB Z (z 7 0) (z 7 1) (z 7 2) tl ti ta tr t k ++ hiB Z (z 2 0) (z 2 1) (fun r => z (3 + r)) o n Y) (List.Perm.append_right _ (List.Perm.append_right _ (List.Perm.append_right _ sw2)))
      refine nv_fVv (rest := []) (tpO Z z) (stO Z ((z 1) 0) ((z 1) 1) ((z 1) 5) ++ songB Z ((z 1) 1) ((z 1) 2) ((z 1) 3) ((z 1) 4) X.1 ++ ptB Z (z 7 0) (z 7 1) (z 7 2) tl ti ta tr t k ++ hiB Z (z 2 0) (z 2 1) (fun r => z (3 + r)) o n Y) (ws' := tpO Z z ++ plB Z (z 8) X.2 ++ plB Z (fun k => (z 1) (5 + k)) X.2 ++ stO Z ((z 1) 0) ((z 1) 1) ((z 1) 5) ++ songB Z ((z 1) 1) ((z 1) 2) ((z 1) 3) ((z 1) 4) X.1 ++ ptB Z (z 7 0) (z 7 1) (z 7 2) tl ti ta tr t k ++ hiB Z (z 2 0) (z 2 1) (fun r => z (3 + r)) o n Y) S w hl.1 (c_X3_copyFrom l D Z (z 8) P9 (fun k => (z 1) (5 + k)) X.2 ) (by simp only [List.append_assoc, List.nil_append, List.append_nil]) rfl (by simp only [List.append_assoc, List.nil_append, List.append_nil]) gX7_silent_X3_copyFrom rfl hdV_X3_copyFrom ⟨Nat.le_of_ble_eq_true rfl, Nat.le_of_ble_eq_true rfl⟩ (q0 := 0) rfl rfl rfl rfl (Nat.le_of_ble_eq_true rfl) ⟨Nat.le_of_ble_eq_true rfl, Nat.le_of_ble_eq_true rfl⟩ dX7_silent_24 (fun H locs w => ?_)
      have w := w.perm (ws' := tpO Z z ++ plB Z (z 8) X.2 ++ stO Z ((z 1) 0) ((z 1) 1) ((z 1) 5) ++ plB Z (fun k => (z 1) (5 + k)) X.2 ++ songB Z ((z 1) 1) ((z 1) 2) ((z 1) 3) ((z 1) 4) X.1 ++ ptB Z (z 7 0) (z 7 1) (z 7 2) tl ti ta tr t k ++ hiB Z (z 2 0) (z 2 1) (fun r => z (3 + r)) o n Y) (List.Perm.append_right _ (List.Perm.append_right _ (List.Perm.append_right _ sw2)))
      refine lv_iconst (v := nI 0) S.1 S.2.1 dX7_silent_27 (ofInt_nI 0) ?_
      refine lv_istore_n (lv' := [(3, vI 0), (0, .ref (z 0 0)), (1, vI na), (2, vI nn)]) S.1 S.2.1 dX7_silent_28 rfl hl (by decide) rfl (fun ls hl => ?_)
      refine lv_iconst (v := nI 1) S.1 S.2.1 dX7_silent_29 (ofInt_nI 1) ?_
      refine lv_istore (lv' := [(4, vI 1), (3, vI 0), (0, .ref (z 0 0)), (1, vI na), (2, vI nn)]) S.1 S.2.1 dX7_silent_30 hl (by decide) rfl (fun ls hl => ?_)
      exact k_X7_silent l D Z z X o n Y tl ti ta tr t k P9 (nI na) (nI nn) hX S hr hlocks _ na nn 0 0 (by omega) (by omega) (by omega) rfl rfl ((xI_t h_6).trans ((xI_t h_7).trans (rfl))) rfl (Nat.lt_succ_self _) _ _ _ (lv_sub hl [2, 3, 4, 1, 0] rfl) w
