theorem hn_X7_ticksToRound_7 : ∀ w ∈ wsX70, w ∈ wsX7_ticksToRound := by decide +kernel
theorem hn_X7_ticksToRound_5 : ∀ w ∈ wsX50, w ∈ wsX7_ticksToRound := by decide +kernel
theorem hn_X7_ticksToRound_3 : ∀ w ∈ wsX30, w ∈ wsX7_ticksToRound := by decide +kernel
set_option maxRecDepth 100000 in
set_option maxHeartbeats 4000000 in
theorem k_X7_ticksToRound (l : Launch) (D : va_G) (Z : Nat → ClassId) (z : Nat → Nat → Nat) (X : ST) (o n : Nat) (Y : Nat → ST) (tl ti ta tr : Nat) (t : Nat → Nat) (k : Nat → Nat → Nat) (P9 : PG) (hX : XB X) {p : Program} {e : Env} {s : State} {m : MethodId} {args : Array Value} {below : List Frame} {meth : Method} {c : Code} {A : Nat → Prop} (S : CallFix p m c cX7_ticksToRound 2 s args wsX7_ticksToRound RX7) (hr : meth.sig.returnType = (some .int)) (hlocks : meth.locks = false) : ∀ (n9 : Nat), (∀ (j : Nat) (hj : j ≤ 1000) (er : rtK X.1 X.2 1000 1 = rtK X.1 X.2 (1000 - j) (j + 1)) (hm : 1000 - j < n9), ∀ (H : Heap) (locs : List Loc) (ls : Array Slot) (hl : lv_has ls 2 [(0, .ref (z 0 0)), (1, vI (j + 1))]) (w : Wd D Z A s (tpO Z z ++ plB Z (z 8) (tkN X.1 X.2 j) ++ stO Z ((z 1) 0) ((z 1) 1) ((z 1) 5) ++ plB Z (fun k => (z 1) (5 + k)) X.2 ++ songB Z ((z 1) 1) ((z 1) 2) ((z 1) 3) ((z 1) 4) X.1 ++ ptB Z (z 7 0) (z 7 1) (z 7 2) tl ti ta tr t k ++ hiB Z (z 2 0) (z 2 1) (fun r => z (3 + r)) o n Y) H locs), W p l e (rmO 5 117) s m args below meth c H locs 0 0 (Qi below D Z A args s (rtA (rtK X.1 X.2 1000 1)) (tpO Z z ++ plB Z (z 8) (tkN X.1 X.2 (rtM (rtK X.1 X.2 1000 1))) ++ stB Z (z 1) X ++ ptB Z (z 7 0) (z 7 1) (z 7 2) tl ti ta tr t k ++ hiB Z (z 2 0) (z 2 1) (fun r => z (3 + r)) o n Y)) (F0 m 16 ls [])) := by
  intro n9
  induction n9 with
  | zero => intro j hj er hm; exact absurd hm (Nat.not_lt_zero _)
  | succ n9 ih =>
    skip
    · intro j hj er hm H locs ls hl w
      have hb9 := tkN_4 (G := X.1) (P := X.2) (j + 1)
      have hb4 := hX.2.2
      refine lv_iload_n S.1 S.2.1 dX7_ticksToRound_16 rfl (lv_at hl 1 rfl) ?_
      refine lv_sipush (v := nI 1000) S.1 S.2.1 dX7_ticksToRound_17 (by decide +kernel) ?_
      refine nv_icmp_gt S (by omega) (by omega) (tgt := 65) dX7_ticksToRound_20 (by decide) (fun h_1 => ?_) (fun h_1 => ?_)
      · skip
        refine lv_iconst (v := -1) S.1 S.2.1 dX7_ticksToRound_65 (by decide +kernel) ?_
        exact nv_iret S w hr hlocks rfl (by rw [er, show 1000 - j = 0 by omega]; rfl) (by rw [er, show 1000 - j = 0 by omega, show j = 1000 by omega]; simp only [stB, List.append_assoc]; rfl) dX7_ticksToRound_66
      · skip
        refine lv_aload_n S.1 S.2.1 dX7_ticksToRound_23 rfl (lv_at hl 0 rfl) ?_
        refine nv_get S w (C := RX7) (T := TX7) (N := 4) hn_X7_ticksToRound_7 0 rfl rfl 3 (by decide) (List.mem_of_getElem? (i := 1) rfl) (v := .ref (z 8 0)) rfl dX7_ticksToRound_24 ?_
        refine lv_aload_n S.1 S.2.1 dX7_ticksToRound_27 rfl (lv_at hl 0 rfl) ?_
        refine nv_get S w (C := RX7) (T := TX7) (N := 4) hn_X7_ticksToRound_7 0 rfl rfl 0 (by decide) (List.mem_of_getElem? (i := 2) rfl) (v := .ref (z 1 0)) rfl dX7_ticksToRound_28 ?_
        refine nv_get S w (C := RX5) (T := TX5) (N := 2) hn_X7_ticksToRound_5 15 rfl rfl 0 (by decide) (List.mem_of_getElem? (i := 4) rfl) (v := .ref ((z 1) 1)) rfl dX7_ticksToRound_31 ?_
        have w := w.perm (ws' := tpO Z z ++ plB Z (z 8) (tkN X.1 X.2 j) ++ songB Z ((z 1) 1) ((z 1) 2) ((z 1) 3) ((z 1) 4) X.1 ++ stO Z ((z 1) 0) ((z 1) 1) ((z 1) 5) ++ plB Z (fun k => (z 1) (5 + k)) X.2 ++ ptB Z (z 7 0) (z 7 1) (z 7 2) tl ti ta tr t k ++ hiB Z (z 2 0) (z 2 1) (fun r => z (3 + r)) o n Y) (List.Perm.trans (List.Perm.append_right _ (List.Perm.append_right _ sw2)) (List.Perm.append_right _ (List.Perm.append_right _ (List.Perm.append_right _ sw2))))
        refine nv_fVv (rest := []) (tpO Z z) (stO Z ((z 1) 0) ((z 1) 1) ((z 1) 5) ++ plB Z (fun k => (z 1) (5 + k)) X.2 ++ ptB Z (z 7 0) (z 7 1) (z 7 2) tl ti ta tr t k ++ hiB Z (z 2 0) (z 2 1) (fun r => z (3 + r)) o n Y) (ws' := tpO Z z ++ plB Z (z 8) (tkP X.1 (tkN X.1 X.2 j)) ++ songB Z ((z 1) 1) ((z 1) 2) ((z 1) 3) ((z 1) 4) X.1 ++ stO Z ((z 1) 0) ((z 1) 1) ((z 1) 5) ++ plB Z (fun k => (z 1) (5 + k)) X.2 ++ ptB Z (z 7 0) (z 7 1) (z 7 2) tl ti ta tr t k ++ hiB Z (z 2 0) (z 2 1) (fun r => z (3 + r)) o n Y) S w hl.1 (c_X3_passTick l D Z (z 8) (tkN X.1 X.2 j) ((z 1) 1) ((z 1) 2) ((z 1) 3) ((z 1) 4) X.1 hX.1 (tkN_PB hX.1 hX.2.1 j)) (by simp only [List.append_assoc, List.nil_append, List.append_nil]) rfl (by simp only [List.append_assoc, List.nil_append, List.append_nil]) gX7_ticksToRound_X3_passTick rfl hdV_X3_passTick ⟨Nat.le_of_ble_eq_true rfl, Nat.le_of_ble_eq_true rfl⟩ (q0 := 0) rfl rfl rfl rfl (Nat.le_of_ble_eq_true rfl) ⟨Nat.zero_le _, Nat.zero_le _⟩ dX7_ticksToRound_34 (fun H locs w => ?_)
        have w := w.perm (ws' := tpO Z z ++ plB Z (z 8) (tkP X.1 (tkN X.1 X.2 j)) ++ stO Z ((z 1) 0) ((z 1) 1) ((z 1) 5) ++ plB Z (fun k => (z 1) (5 + k)) X.2 ++ songB Z ((z 1) 1) ((z 1) 2) ((z 1) 3) ((z 1) 4) X.1 ++ ptB Z (z 7 0) (z 7 1) (z 7 2) tl ti ta tr t k ++ hiB Z (z 2 0) (z 2 1) (fun r => z (3 + r)) o n Y) (List.Perm.trans (List.Perm.append_right _ (List.Perm.append_right _ (List.Perm.append_right _ sw2))) (List.Perm.append_right _ (List.Perm.append_right _ sw2)))
        have w := w.as (ws' := tpO Z z ++ plB Z (z 8) (tkN X.1 X.2 (j + 1)) ++ stO Z ((z 1) 0) ((z 1) 1) ((z 1) 5) ++ plB Z (fun k => (z 1) (5 + k)) X.2 ++ songB Z ((z 1) 1) ((z 1) 2) ((z 1) 3) ((z 1) 4) X.1 ++ ptB Z (z 7 0) (z 7 1) (z 7 2) tl ti ta tr t k ++ hiB Z (z 2 0) (z 2 1) (fun r => z (3 + r)) o n Y) (rfl)
        refine lv_aload_n S.1 S.2.1 dX7_ticksToRound_37 rfl (lv_at hl 0 rfl) ?_
        refine nv_get S w (C := RX7) (T := TX7) (N := 4) hn_X7_ticksToRound_7 0 rfl rfl 3 (by decide) (List.mem_of_getElem? (i := 1) rfl) (v := .ref (z 8 0)) rfl dX7_ticksToRound_38 ?_
        refine nv_get S w (C := RX3) (T := TX3) (N := 7) hn_X7_ticksToRound_3 1 rfl rfl 5 (by decide) (List.mem_of_getElem? (i := 5) rfl) (v := vI (((tkN X.1 X.2 (j + 1)).1) 5)) rfl dX7_ticksToRound_41 ?_
        refine lv_aload_n S.1 S.2.1 dX7_ticksToRound_44 rfl (lv_at hl 0 rfl) ?_
        refine nv_get S w (C := RX7) (T := TX7) (N := 4) hn_X7_ticksToRound_7 0 rfl rfl 0 (by decide) (List.mem_of_getElem? (i := 2) rfl) (v := .ref (z 1 0)) rfl dX7_ticksToRound_45 ?_
        refine nv_get S w (C := RX5) (T := TX5) (N := 2) hn_X7_ticksToRound_5 15 rfl rfl 1 (by decide) (List.mem_of_getElem? (i := 3) rfl) (v := .ref ((z 1) 5)) rfl dX7_ticksToRound_48 ?_
        refine nv_get S w (C := RX3) (T := TX3) (N := 7) hn_X7_ticksToRound_3 16 rfl rfl 5 (by decide) (List.mem_of_getElem? (i := 5) rfl) (v := vI (X.2.1 5)) rfl dX7_ticksToRound_51 ?_
        refine nv_icmp_eq S (by omega) (by omega) (tgt := 59) dX7_ticksToRound_54 (by decide) (fun h_2 => ?_) (fun h_2 => ?_)
        · skip
          refine lv_iinc (v := nI ((j + 1) + 1)) (lv' := [(1, vI ((j + 1) + 1)), (0, .ref (z 0 0))]) S.1 S.2.1 dX7_ticksToRound_59 hl (k := 1) rfl (nI_incI (j + 1) 1) (by decide) rfl (fun ls hl => ?_)
          refine lv_goto (tgt := 16) S.1 S.2.1 dX7_ticksToRound_62 (by decide) ?_
          exact ih (j + 1) (by omega) (by rw [er, show 1000 - j = (999 - j) + 1 by omega, rtK, if_pos h_2, show 1000 - (j + 1) = 999 - j by omega]) (by omega) _ _ _ (lv_sub hl [1, 0] rfl) w
        · skip
          refine lv_iload_n S.1 S.2.1 dX7_ticksToRound_57 rfl (lv_at hl 1 rfl) ?_
          exact nv_iret S w hr hlocks rfl (by rw [er, show 1000 - j = (999 - j) + 1 by omega, rtK, if_neg h_2]; unfold rtA; rw [if_neg (by omega)]) (by rw [er, show 1000 - j = (999 - j) + 1 by omega, rtK, if_neg h_2]; unfold rtM; rw [if_neg (by omega)]; simp only [stB, List.append_assoc]) dX7_ticksToRound_58
set_option maxRecDepth 100000 in
set_option maxHeartbeats 4000000 in
theorem c_X7_ticksToRound (l : Launch) (D : va_G) (Z : Nat → ClassId) (z : Nat → Nat → Nat) (X : ST) (o n : Nat) (Y : Nat → ST) (tl ti ta tr : Nat) (t : Nat → Nat) (k : Nat → Nat → Nat) (P9 : PG) (hX : XB X) : Ci l yX7_ticksToRound wsX7_ticksToRound 5 117 D Z [.ref (z 0 0)] (tpO Z z ++ plB Z (z 8) P9 ++ stB Z (z 1) X ++ ptB Z (z 7 0) (z 7 1) (z 7 2) tl ti ta tr t k ++ hiB Z (z 2 0) (z 2 1) (fun r => z (3 + r)) o n Y) (rtA (rtK X.1 X.2 1000 1)) (tpO Z z ++ plB Z (z 8) (tkN X.1 X.2 (rtM (rtK X.1 X.2 1000 1))) ++ stB Z (z 1) X ++ ptB Z (z 7 0) (z 7 1) (z 7 2) tl ti ta tr t k ++ hiB Z (z 2 0) (z 2 1) (fun r => z (3 + r)) o n Y) := by
  refine ne_i (cc := cX7_ticksToRound) (maxL := 2) (by decide +kernel) rfl (Nat.le_of_ble_eq_true rfl) (fun p e s m args below meth c A ls (S : CallFix p m c cX7_ticksToRound 2 s args wsX7_ticksToRound RX7) hr hlocks hl w => ?_)
  have hl : lv_has ls 2 [(0, .ref (z 0 0))] := hl
  refine lv_aload_n S.1 S.2.1 dX7_ticksToRound_0 rfl (lv_at hl 0 rfl) ?_
  have w := w.as (ws' := tpO Z z ++ plB Z (z 8) P9 ++ stO Z ((z 1) 0) ((z 1) 1) ((z 1) 5) ++ plB Z (fun k => (z 1) (5 + k)) X.2 ++ songB Z ((z 1) 1) ((z 1) 2) ((z 1) 3) ((z 1) 4) X.1 ++ ptB Z (z 7 0) (z 7 1) (z 7 2) tl ti ta tr t k ++ hiB Z (z 2 0) (z 2 1) (fun r => z (3 + r)) o n Y) (by simp only [stB, List.append_assoc])
  refine nv_get S w (C := RX7) (T := TX7) (N := 4) hn_X7_ticksToRound_7 0 rfl rfl 3 (by decide) (List.mem_of_getElem? (i := 1) rfl) (v := .ref (z 8 0)) rfl dX7_ticksToRound_1 ?_
  refine lv_aload_n S.1 S.2.1 dX7_ticksToRound_4 rfl (lv_at hl 0 rfl) ?_
  refine nv_get S w (C := RX7) (T := TX7) (N := 4) hn_X7_ticksToRound_7 0 rfl rfl 0 (by decide) (List.mem_of_getElem? (i := 2) rfl) (v := .ref (z 1 0)) rfl dX7_ticksToRound_5 ?_
  refine nv_get S w (C := RX5) (T := TX5) (N := 2) hn_X7_ticksToRound_5 15 rfl rfl 1 (by decide) (List.mem_of_getElem? (i := 3) rfl) (v := .ref ((z 1) 5)) rfl dX7_ticksToRound_8 ?_
  have w := w.perm (ws' := tpO Z z ++ plB Z (z 8) P9 ++ plB Z (fun k => (z 1) (5 + k)) X.2 ++ stO Z ((z 1) 0) ((z 1) 1) ((z 1) 5) ++ songB Z ((z 1) 1) ((z 1) 2) ((z 1) 3) ((z 1) 4) X.1 ++ ptB Z (z 7 0) (z 7 1) (z 7 2) tl ti ta tr t k ++ hiB Z (z 2 0) (z 2 1) (fun r => z (3 + r)) o n Y) (List.Perm.append_right _ (List.Perm.append_right _ (List.Perm.append_right _ sw2)))
  refine nv_fVv (rest := []) (tpO Z z) (stO Z ((z 1) 0) ((z 1) 1) ((z 1) 5) ++ songB Z ((z 1) 1) ((z 1) 2) ((z 1) 3) ((z 1) 4) X.1 ++ ptB Z (z 7 0) (z 7 1) (z 7 2) tl ti ta tr t k ++ hiB Z (z 2 0) (z 2 1) (fun r => z (3 + r)) o n Y) (ws' := tpO Z z ++ plB Z (z 8) X.2 ++ plB Z (fun k => (z 1) (5 + k)) X.2 ++ stO Z ((z 1) 0) ((z 1) 1) ((z 1) 5) ++ songB Z ((z 1) 1) ((z 1) 2) ((z 1) 3) ((z 1) 4) X.1 ++ ptB Z (z 7 0) (z 7 1) (z 7 2) tl ti ta tr t k ++ hiB Z (z 2 0) (z 2 1) (fun r => z (3 + r)) o n Y) S w hl.1 (c_X3_copyFrom l D Z (z 8) P9 (fun k => (z 1) (5 + k)) X.2 ) (by simp only [List.append_assoc, List.nil_append, List.append_nil]) rfl (by simp only [List.append_assoc, List.nil_append, List.append_nil]) gX7_ticksToRound_X3_copyFrom rfl hdV_X3_copyFrom ⟨Nat.le_of_ble_eq_true rfl, Nat.le_of_ble_eq_true rfl⟩ (q0 := 0) rfl rfl rfl rfl (Nat.le_of_ble_eq_true rfl) ⟨Nat.zero_le _, Nat.zero_le _⟩ dX7_ticksToRound_11 (fun H locs w => ?_)
  have w := w.perm (ws' := tpO Z z ++ plB Z (z 8) X.2 ++ stO Z ((z 1) 0) ((z 1) 1) ((z 1) 5) ++ plB Z (fun k => (z 1) (5 + k)) X.2 ++ songB Z ((z 1) 1) ((z 1) 2) ((z 1) 3) ((z 1) 4) X.1 ++ ptB Z (z 7 0) (z 7 1) (z 7 2) tl ti ta tr t k ++ hiB Z (z 2 0) (z 2 1) (fun r => z (3 + r)) o n Y) (List.Perm.append_right _ (List.Perm.append_right _ (List.Perm.append_right _ sw2)))
  refine lv_iconst (v := nI 1) S.1 S.2.1 dX7_ticksToRound_14 (ofInt_nI 1) ?_
  refine lv_istore_n (lv' := [(1, vI 1), (0, .ref (z 0 0))]) S.1 S.2.1 dX7_ticksToRound_15 rfl hl (by decide) rfl (fun ls hl => ?_)
  exact k_X7_ticksToRound l D Z z X o n Y tl ti ta tr t k P9 hX S hr hlocks _ 0 (by omega) rfl (Nat.lt_succ_self _) _ _ _ (lv_sub hl [1, 0] rfl) w
