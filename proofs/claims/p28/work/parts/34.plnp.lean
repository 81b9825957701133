theorem hn_X3_nextPlace_3 : ∀ w ∈ wsX30, w ∈ wsX3_nextPlace := by decide +kernel
theorem hn_X3_nextPlace_4 : ∀ w ∈ wsX40, w ∈ wsX3_nextPlace := by decide +kernel
set_option maxRecDepth 100000 in
set_option maxHeartbeats 4000000 in
theorem c_X3_nextPlace (l : Launch) (D : va_G) (Z : Nat → ClassId) (a : Nat → Nat) (P : PG) (q9 qc qw qo : Nat) (G : SG) (hs : SB G) (h0 : P.1 0 < 2 ^ 30) : Cv l yX3_nextPlace wsX3_nextPlace 0 0 D Z [.ref (a 0), .ref q9] (plB Z a P ++ songB Z q9 qc qw qo G)  (plB Z a (npP G P) ++ songB Z q9 qc qw qo G) := by
  refine ne_v (cc := cX3_nextPlace) (maxL := 2) (by decide +kernel) rfl (Nat.le_of_ble_eq_true rfl) (fun p e s m args below meth c A ls (S : CallFix p m c cX3_nextPlace 2 s args wsX3_nextPlace RX3) hr hlocks hl w => ?_)
  have hp1 := hs.2.2.2.1
  have hl : lv_has ls 2 [(0, .ref (a 0)), (1, .ref q9)] := hl
  have w := w.as (ws' := plO Z (a 0) (a 1) P.1 ++ plA Z a ++ voiceB Z (a 2) (a 3) (a 4) (P.2 0) ++ voiceB Z (a 5) (a 6) (a 7) (P.2 1) ++ voiceB Z (a 8) (a 9) (a 10) (P.2 2) ++ voiceB Z (a 11) (a 12) (a 13) (P.2 3) ++ songB Z q9 qc qw qo G) rfl
  refine lv_aload_n S.1 S.2.1 dX3_nextPlace_0 rfl (lv_at hl 0 rfl) ?_
  refine lv_dup S.1 S.2.1 dX3_nextPlace_1 rfl ?_
  refine nv_get S w (C := RX3) (T := TX3) (N := 7) hn_X3_nextPlace_3 0 rfl rfl 0 (by decide) (List.mem_of_getElem? (i := 1) rfl) (v := vI (P.1 0)) rfl dX3_nextPlace_2 ?_
  refine lv_iconst (v := nI 1) S.1 S.2.1 dX3_nextPlace_5 (ofInt_nI 1) ?_
  refine nv_iadd S dX3_nextPlace_6 ?_
  refine nv_put S w (C := RX3) (T := TX3) (N := 7) hn_X3_nextPlace_3 tyX3_ok nmX3 0 rfl rfl 0 (by decide) (List.mem_of_getElem? (i := 1) rfl) rfl rfl (Nat.le_of_ble_eq_true rfl) (ws' := [(a 0, .inr (2, [vI ((P.1 0) + 1), vI (P.1 1), vI (P.1 2), vI (P.1 3), vI (P.1 4), vI (P.1 5), .ref (a 1)]))] ++ plA Z a ++ voiceB Z (a 2) (a 3) (a 4) (P.2 0) ++ voiceB Z (a 5) (a 6) (a 7) (P.2 1) ++ voiceB Z (a 8) (a 9) (a 10) (P.2 2) ++ voiceB Z (a 11) (a 12) (a 13) (P.2 3) ++ songB Z q9 qc qw qo G) rfl dX3_nextPlace_7 (fun H locs w => ?_)
  refine lv_aload_n S.1 S.2.1 dX3_nextPlace_10 rfl (lv_at hl 0 rfl) ?_
  refine nv_get S w (C := RX3) (T := TX3) (N := 7) hn_X3_nextPlace_3 0 rfl rfl 0 (by decide) (List.mem_of_getElem? (i := 1) rfl) (v := vI ((P.1 0) + 1)) rfl dX3_nextPlace_11 ?_
  refine lv_aload_n S.1 S.2.1 dX3_nextPlace_14 rfl (lv_at hl 1 rfl) ?_
  refine nv_get S w (C := RX4) (T := TX4) (N := 4) hn_X3_nextPlace_4 14 rfl rfl 3 (by decide) (List.mem_of_getElem? (i := 2) rfl) (v := vI G.2.2.2) rfl dX3_nextPlace_15 ?_
  refine nv_icmp_lt S (by omega) (by omega) (tgt := 36) dX3_nextPlace_18 (by decide) (fun h_1 => ?_) (fun h_1 => ?_)
  · skip
    exact nv_vret S w hr hlocks (by unfold npP; rw [if_neg (by omega)]; rfl) dX3_nextPlace_36
  · skip
    refine lv_aload_n S.1 S.2.1 dX3_nextPlace_21 rfl (lv_at hl 0 rfl) ?_
    refine lv_iconst (v := nI 0) S.1 S.2.1 dX3_nextPlace_22 (ofInt_nI 0) ?_
    refine nv_put S w (C := RX3) (T := TX3) (N := 7) hn_X3_nextPlace_3 tyX3_ok nmX3 0 rfl rfl 0 (by decide) (List.mem_of_getElem? (i := 1) rfl) rfl rfl (Nat.le_of_ble_eq_true rfl) (ws' := [(a 0, .inr (2, [vI 0, vI (P.1 1), vI (P.1 2), vI (P.1 3), vI (P.1 4), vI (P.1 5), .ref (a 1)]))] ++ plA Z a ++ voiceB Z (a 2) (a 3) (a 4) (P.2 0) ++ voiceB Z (a 5) (a 6) (a 7) (P.2 1) ++ voiceB Z (a 8) (a 9) (a 10) (P.2 2) ++ voiceB Z (a 11) (a 12) (a 13) (P.2 3) ++ songB Z q9 qc qw qo G) rfl dX3_nextPlace_23 (fun H locs w => ?_)
    refine lv_aload_n S.1 S.2.1 dX3_nextPlace_26 rfl (lv_at hl 0 rfl) ?_
    refine lv_dup S.1 S.2.1 dX3_nextPlace_27 rfl ?_
    refine nv_get S w (C := RX3) (T := TX3) (N := 7) hn_X3_nextPlace_3 0 rfl rfl 5 (by decide) (List.mem_of_getElem? (i := 3) rfl) (v := vI (P.1 5)) rfl dX3_nextPlace_28 ?_
    refine lv_iconst (v := nI 1) S.1 S.2.1 dX3_nextPlace_31 (ofInt_nI 1) ?_
    refine nv_iadd S dX3_nextPlace_32 ?_
    refine nv_put S w (C := RX3) (T := TX3) (N := 7) hn_X3_nextPlace_3 tyX3_ok nmX3 0 rfl rfl 5 (by decide) (List.mem_of_getElem? (i := 3) rfl) rfl rfl (Nat.le_of_ble_eq_true rfl) (ws' := [(a 0, .inr (2, [vI 0, vI (P.1 1), vI (P.1 2), vI (P.1 3), vI (P.1 4), vI ((P.1 5) + 1), .ref (a 1)]))] ++ plA Z a ++ voiceB Z (a 2) (a 3) (a 4) (P.2 0) ++ voiceB Z (a 5) (a 6) (a 7) (P.2 1) ++ voiceB Z (a 8) (a 9) (a 10) (P.2 2) ++ voiceB Z (a 11) (a 12) (a 13) (P.2 3) ++ songB Z q9 qc qw qo G) rfl dX3_nextPlace_33 (fun H locs w => ?_)
    exact nv_vret S w hr hlocks (by unfold npP; rw [if_pos h_1]; rfl) dX3_nextPlace_36
