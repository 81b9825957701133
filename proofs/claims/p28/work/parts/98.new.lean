theorem hn_X3_init_3 : ∀ w ∈ wsX30, w ∈ wsX3_init := by decide +kernel
theorem hn_X3_init_6 : ∀ w ∈ wsX60, w ∈ wsX3_init := by decide +kernel
set_option maxRecDepth 100000 in
set_option maxHeartbeats 4000000 in
theorem c_X3_init (l : Launch) (D : va_G) (Z : Nat → ClassId) (q : Nat) : Ck l yX3_init wsX3_init 2 32 13 64 D Z [.ref q] ([(q, .inr (2, [vI 0, vI 0, vI 0, vI 0, vI 0, vI 0, .null]))]) (fun (a9 : Nat → Nat) => plB Z (adK q a9) P0) := by
  refine ne_k (cc := cX3_init) (maxL := 2) (by decide +kernel) rfl (Nat.le_of_ble_eq_true rfl) rfl (fun p e s m args below meth c A ls (S : CallFix p m c cX3_init 2 s args wsX3_init RX3) hr hlocks hname hao hl w => ?_)
  have hl : lv_has ls 2 [(0, .ref q)] := hl
  refine lv_aload_n S.1 S.2.1 dX3_init_0 rfl (lv_at hl 0 rfl) ?_
  refine nv_obj S hl.1 (List.mem_of_getElem? (i := 1) rfl) (List.mem_of_getElem? (i := 2) rfl) (List.mem_of_getElem? (i := 3) rfl) dX3_init_1 (Nat.le_of_ble_eq_true rfl) (Nat.le_of_ble_eq_true rfl) ?_
  refine lv_aload_n S.1 S.2.1 dX3_init_4 rfl (lv_at hl 0 rfl) ?_
  refine lv_iconst (v := nI 3) S.1 S.2.1 dX3_init_5 (ofInt_nI 3) ?_
  refine nv_put S w (C := RX3) (T := TX3) (N := 7) hn_X3_init_3 tyX3_ok nmX3 0 rfl rfl 3 (by decide) (List.mem_of_getElem? (i := 4) rfl) rfl rfl (Nat.le_of_ble_eq_true rfl) (ws' := [(q, .inr (2, [vI 0, vI 0, vI 0, vI 3, vI 0, vI 0, .null]))]) rfl dX3_init_6 (fun H locs w => ?_)
  refine lv_aload_n S.1 S.2.1 dX3_init_9 rfl (lv_at hl 0 rfl) ?_
  refine lv_iconst (v := nI 4) S.1 S.2.1 dX3_init_10 (ofInt_nI 4) ?_
  refine nv_newq S w hao (n := 4) (C := RX6) 1 3 rfl rfl (List.mem_of_getElem? (i := 5) rfl) (by decide) (Nat.le_of_ble_eq_true rfl) (Nat.le_of_ble_eq_true rfl) dX3_init_11 (fun q1 H w => ?_)
  refine nv_putR S w hname (C := RX3) (T := TX3) (N := 7) hn_X3_init_3 tyX3_ok nmX3 0 rfl rfl 6 (by decide) (List.mem_of_getElem? (i := 6) rfl) rfl rfl rfl rfl (Nat.le_of_ble_eq_true rfl) (ws' := [(q, .inr (2, [vI 0, vI 0, vI 0, vI 3, vI 0, vI 0, .ref q1]))] ++ [(q1, .inl (Z 3, 4, .inr (.inr (.inr (.inr (fun _ => none))))))]) rfl dX3_init_14 (fun H locs w => ?_)
  refine lv_iconst (v := nI 0) S.1 S.2.1 dX3_init_17 (ofInt_nI 0) ?_
  refine lv_istore_n (lv' := [(1, vI 0), (0, .ref q)]) S.1 S.2.1 dX3_init_18 rfl hl (by decide) rfl (fun ls hl => ?_)
  refine lv_iload_n S.1 S.2.1 dX3_init_19 rfl (lv_at hl 0 rfl) ?_
  refine lv_aload_n S.1 S.2.1 dX3_init_20 rfl (lv_at hl 1 rfl) ?_
  refine nv_get S w (C := RX3) (T := TX3) (N := 7) hn_X3_init_3 0 rfl rfl 6 (by decide) (List.mem_of_getElem? (i := 6) rfl) (v := .ref q1) rfl dX3_init_21 ?_
  refine nv_alen S w 1 3 rfl rfl (n := 4) rfl dX3_init_24 ?_
  refine nv_icmp_ge (tgt := 47) S (by decide) (by decide) dX3_init_25 (by decide) (fun h9 => absurd h9 (by decide)) (fun _ => ?_)
  refine lv_aload_n S.1 S.2.1 dX3_init_28 rfl (lv_at hl 1 rfl) ?_
  refine nv_get S w (C := RX3) (T := TX3) (N := 7) hn_X3_init_3 0 rfl rfl 6 (by decide) (List.mem_of_getElem? (i := 6) rfl) (v := .ref q1) rfl dX3_init_29 ?_
  refine lv_iload_n S.1 S.2.1 dX3_init_32 rfl (lv_at hl 0 rfl) ?_
  refine nv_new S w (C := RX6) (T := TX6) (N := 9) hn_X3_init_6 tyX6_ok (List.mem_of_getElem? (i := 5) rfl) (List.mem_of_getElem? (i := 7) rfl) (List.mem_of_getElem? (i := 8) rfl) (ci := 5) rfl (fs := [vI 0, vI 0, vI 0, vI 0, vI 0, vI 0, .null, .null, vI 0]) (fun j hj => by rcases (show j = 0 ∨ j = 1 ∨ j = 2 ∨ j = 3 ∨ j = 4 ∨ j = 5 ∨ j = 6 ∨ j = 7 ∨ j = 8 by omega) with rfl | rfl | rfl | rfl | rfl | rfl | rfl | rfl | rfl <;> rfl) (Nat.le_of_ble_eq_true rfl) (Nat.le_of_ble_eq_true rfl) dX3_init_33 (fun q2 H w => ?_)
  refine lv_dup S.1 S.2.1 dX3_init_36 rfl ?_
  refine nv_kN (X := [(q, .inr (2, [vI 0, vI 0, vI 0, vI 3, vI 0, vI 0, .ref q1]))] ++ [(q1, .inl (Z 3, 4, .inr (.inr (.inr (.inr (fun _ => none))))))]) S w hao hl.1 (c_X6_init l D Z q2) gX3_init_X6_init_n21 rfl 3 rfl (List.mem_of_getElem? (i := 8) rfl) (List.mem_of_getElem? (i := 9) rfl) rfl (by decide +kernel) ⟨(Nat.le_of_ble_eq_true rfl), (Nat.le_of_ble_eq_true rfl)⟩ (Nat.le_of_ble_eq_true rfl) ⟨(Nat.le_of_ble_eq_true rfl), (Nat.le_of_ble_eq_true rfl)⟩ dX3_init_37 (fun a3 H locs w => ?_)
  have w := w.as (ws' := [(q, .inr (2, [vI 0, vI 0, vI 0, vI 3, vI 0, vI 0, .ref q1]))] ++ [(q1, .inl (Z 3, 4, .inr (.inr (.inr (.inr (fun _ => none))))))] ++ voiceB Z q2 a3.1 a3.2 V0) rfl
  refine nv_astq S w 1 3 2 5 rfl rfl rfl rfl (i := 0) (by decide) (by decide) (ws' := [(q, .inr (2, [vI 0, vI 0, vI 0, vI 3, vI 0, vI 0, .ref q1]))] ++ [(q1, .inl (Z 3, 4, .inr (.inr (.inr (.inr (va_up (fun _ => none) 0 (some q2)))))))] ++ voiceB Z q2 a3.1 a3.2 V0) rfl dX3_init_40 (fun H locs w => ?_)
  refine lv_iinc (v := nI 1) (lv' := [(1, vI 1), (0, .ref q)]) S.1 S.2.1 dX3_init_41 hl (k := 0) rfl (nI_incI 0 1) (by decide) rfl (fun ls hl => ?_)
  refine lv_goto (tgt := 19) S.1 S.2.1 dX3_init_44 (by decide) ?_
  refine lv_iload_n S.1 S.2.1 dX3_init_19 rfl (lv_at hl 0 rfl) ?_
  refine lv_aload_n S.1 S.2.1 dX3_init_20 rfl (lv_at hl 1 rfl) ?_
  refine nv_get S w (C := RX3) (T := TX3) (N := 7) hn_X3_init_3 0 rfl rfl 6 (by decide) (List.mem_of_getElem? (i := 6) rfl) (v := .ref q1) rfl dX3_init_21 ?_
  refine nv_alen S w 1 3 rfl rfl (n := 4) rfl dX3_init_24 ?_
  refine nv_icmp_ge (tgt := 47) S (by decide) (by decide) dX3_init_25 (by decide) (fun h9 => absurd h9 (by decide)) (fun _ => ?_)
  refine lv_aload_n S.1 S.2.1 dX3_init_28 rfl (lv_at hl 1 rfl) ?_
  refine nv_get S w (C := RX3) (T := TX3) (N := 7) hn_X3_init_3 0 rfl rfl 6 (by decide) (List.mem_of_getElem? (i := 6) rfl) (v := .ref q1) rfl dX3_init_29 ?_
  refine lv_iload_n S.1 S.2.1 dX3_init_32 rfl (lv_at hl 0 rfl) ?_
  refine nv_new S w (C := RX6) (T := TX6) (N := 9) hn_X3_init_6 tyX6_ok (List.mem_of_getElem? (i := 5) rfl) (List.mem_of_getElem? (i := 7) rfl) (List.mem_of_getElem? (i := 8) rfl) (ci := 5) rfl (fs := [vI 0, vI 0, vI 0, vI 0, vI 0, vI 0, .null, .null, vI 0]) (fun j hj => by rcases (show j = 0 ∨ j = 1 ∨ j = 2 ∨ j = 3 ∨ j = 4 ∨ j = 5 ∨ j = 6 ∨ j = 7 ∨ j = 8 by omega) with rfl | rfl | rfl | rfl | rfl | rfl | rfl | rfl | rfl <;> rfl) (Nat.le_of_ble_eq_true rfl) (Nat.le_of_ble_eq_true rfl) dX3_init_33 (fun q4 H w => ?_)
  refine lv_dup S.1 S.2.1 dX3_init_36 rfl ?_
  refine nv_kN (X := [(q, .inr (2, [vI 0, vI 0, vI 0, vI 3, vI 0, vI 0, .ref q1]))] ++ [(q1, .inl (Z 3, 4, .inr (.inr (.inr (.inr (va_up (fun _ => none) 0 (some q2)))))))] ++ voiceB Z q2 a3.1 a3.2 V0) S w hao hl.1 (c_X6_init l D Z q4) gX3_init_X6_init_n21 rfl 3 rfl (List.mem_of_getElem? (i := 8) rfl) (List.mem_of_getElem? (i := 9) rfl) rfl (by decide +kernel) ⟨(Nat.le_of_ble_eq_true rfl), (Nat.le_of_ble_eq_true rfl)⟩ (Nat.le_of_ble_eq_true rfl) ⟨(Nat.le_of_ble_eq_true rfl), (Nat.le_of_ble_eq_true rfl)⟩ dX3_init_37 (fun a5 H locs w => ?_)
  have w := w.as (ws' := [(q, .inr (2, [vI 0, vI 0, vI 0, vI 3, vI 0, vI 0, .ref q1]))] ++ [(q1, .inl (Z 3, 4, .inr (.inr (.inr (.inr (va_up (fun _ => none) 0 (some q2)))))))] ++ voiceB Z q2 a3.1 a3.2 V0 ++ voiceB Z q4 a5.1 a5.2 V0) rfl
  refine nv_astq S w 1 3 5 5 rfl rfl rfl rfl (i := 1) (by decide) (by decide) (ws' := [(q, .inr (2, [vI 0, vI 0, vI 0, vI 3, vI 0, vI 0, .ref q1]))] ++ [(q1, .inl (Z 3, 4, .inr (.inr (.inr (.inr (va_up (va_up (fun _ => none) 0 (some q2)) 1 (some q4)))))))] ++ voiceB Z q2 a3.1 a3.2 V0 ++ voiceB Z q4 a5.1 a5.2 V0) rfl dX3_init_40 (fun H locs w => ?_)
  refine lv_iinc (v := nI 2) (lv' := [(1, vI 2), (0, .ref q)]) S.1 S.2.1 dX3_init_41 hl (k := 0) rfl (nI_incI 1 1) (by decide) rfl (fun ls hl => ?_)
  refine lv_goto (tgt := 19) S.1 S.2.1 dX3_init_44 (by decide) ?_
  refine lv_iload_n S.1 S.2.1 dX3_init_19 rfl (lv_at hl 0 rfl) ?_
  refine lv_aload_n S.1 S.2.1 dX3_init_20 rfl (lv_at hl 1 rfl) ?_
  refine nv_get S w (C := RX3) (T := TX3) (N := 7) hn_X3_init_3 0 rfl rfl 6 (by decide) (List.mem_of_getElem? (i := 6) rfl) (v := .ref q1) rfl dX3_init_21 ?_
  refine nv_alen S w 1 3 rfl rfl (n := 4) rfl dX3_init_24 ?_
  refine nv_icmp_ge (tgt := 47) S (by decide) (by decide) dX3_init_25 (by decide) (fun h9 => absurd h9 (by decide)) (fun _ => ?_)
  refine lv_aload_n S.1 S.2.1 dX3_init_28 rfl (lv_at hl 1 rfl) ?_
  refine nv_get S w (C := RX3) (T := TX3) (N := 7) hn_X3_init_3 0 rfl rfl 6 (by decide) (List.mem_of_getElem? (i := 6) rfl) (v := .ref q1) rfl dX3_init_29 ?_
  refine lv_iload_n S.1 S.2.1 dX3_init_32 rfl (lv_at hl 0 rfl) ?_
  refine nv_new S w (C := RX6) (T := TX6) (N := 9) hn_X3_init_6 tyX6_ok (List.mem_of_getElem? (i := 5) rfl) (List.mem_of_getElem? (i := 7) rfl) (List.mem_of_getElem? (i := 8) rfl) (ci := 5) rfl (fs := [vI 0, vI 0, vI 0, vI 0, vI 0, vI 0, .null, .null, vI 0]) (fun j hj => by rcases (show j = 0 ∨ j = 1 ∨ j = 2 ∨ j = 3 ∨ j = 4 ∨ j = 5 ∨ j = 6 ∨ j = 7 ∨ j = 8 by omega) with rfl | rfl | rfl | rfl | rfl | rfl | rfl | rfl | rfl <;> rfl) (Nat.le_of_ble_eq_true rfl) (Nat.le_of_ble_eq_true rfl) dX3_init_33 (fun q6 H w => ?_)
  refine lv_dup S.1 S.2.1 dX3_init_36 rfl ?_
  refine nv_kN (X := [(q, .inr (2, [vI 0, vI 0, vI 0, vI 3, vI 0, vI 0, .ref q1]))] ++ [(q1, .inl (Z 3, 4, .inr (.inr (.inr (.inr (va_up (va_up (fun _ => none) 0 (some q2)) 1 (some q4)))))))] ++ voiceB Z q2 a3.1 a3.2 V0 ++ voiceB Z q4 a5.1 a5.2 V0) S w hao hl.1 (c_X6_init l D Z q6) gX3_init_X6_init_n21 rfl 3 rfl (List.mem_of_getElem? (i := 8) rfl) (List.mem_of_getElem? (i := 9) rfl) rfl (by decide +kernel) ⟨(Nat.le_of_ble_eq_true rfl), (Nat.le_of_ble_eq_true rfl)⟩ (Nat.le_of_ble_eq_true rfl) ⟨(Nat.le_of_ble_eq_true rfl), (Nat.le_of_ble_eq_true rfl)⟩ dX3_init_37 (fun a7 H locs w => ?_)
  have w := w.as (ws' := [(q, .inr (2, [vI 0, vI 0, vI 0, vI 3, vI 0, vI 0, .ref q1]))] ++ [(q1, .inl (Z 3, 4, .inr (.inr (.inr (.inr (va_up (va_up (fun _ => none) 0 (some q2)) 1 (some q4)))))))] ++ voiceB Z q2 a3.1 a3.2 V0 ++ voiceB Z q4 a5.1 a5.2 V0 ++ voiceB Z q6 a7.1 a7.2 V0) rfl
  refine nv_astq S w 1 3 8 5 rfl rfl rfl rfl (i := 2) (by decide) (by decide) (ws' := [(q, .inr (2, [vI 0, vI 0, vI 0, vI 3, vI 0, vI 0, .ref q1]))] ++ [(q1, .inl (Z 3, 4, .inr (.inr (.inr (.inr (va_up (va_up (va_up (fun _ => none) 0 (some q2)) 1 (some q4)) 2 (some q6)))))))] ++ voiceB Z q2 a3.1 a3.2 V0 ++ voiceB Z q4 a5.1 a5.2 V0 ++ voiceB Z q6 a7.1 a7.2 V0) rfl dX3_init_40 (fun H locs w => ?_)
  refine lv_iinc (v := nI 3) (lv' := [(1, vI 3), (0, .ref q)]) S.1 S.2.1 dX3_init_41 hl (k := 0) rfl (nI_incI 2 1) (by decide) rfl (fun ls hl => ?_)
  refine lv_goto (tgt := 19) S.1 S.2.1 dX3_init_44 (by decide) ?_
  refine lv_iload_n S.1 S.2.1 dX3_init_19 rfl (lv_at hl 0 rfl) ?_
  refine lv_aload_n S.1 S.2.1 dX3_init_20 rfl (lv_at hl 1 rfl) ?_
  refine nv_get S w (C := RX3) (T := TX3) (N := 7) hn_X3_init_3 0 rfl rfl 6 (by decide) (List.mem_of_getElem? (i := 6) rfl) (v := .ref q1) rfl dX3_init_21 ?_
  refine nv_alen S w 1 3 rfl rfl (n := 4) rfl dX3_init_24 ?_
  refine nv_icmp_ge (tgt := 47) S (by decide) (by decide) dX3_init_25 (by decide) (fun h9 => absurd h9 (by decide)) (fun _ => ?_)
  refine lv_aload_n S.1 S.2.1 dX3_init_28 rfl (lv_at hl 1 rfl) ?_
  refine nv_get S w (C := RX3) (T := TX3) (N := 7) hn_X3_init_3 0 rfl rfl 6 (by decide) (List.mem_of_getElem? (i := 6) rfl) (v := .ref q1) rfl dX3_init_29 ?_
  refine lv_iload_n S.1 S.2.1 dX3_init_32 rfl (lv_at hl 0 rfl) ?_
  refine nv_new S w (C := RX6) (T := TX6) (N := 9) hn_X3_init_6 tyX6_ok (List.mem_of_getElem? (i := 5) rfl) (List.mem_of_getElem? (i := 7) rfl) (List.mem_of_getElem? (i := 8) rfl) (ci := 5) rfl (fs := [vI 0, vI 0, vI 0, vI 0, vI 0, vI 0, .null, .null, vI 0]) (fun j hj => by rcases (show j = 0 ∨ j = 1 ∨ j = 2 ∨ j = 3 ∨ j = 4 ∨ j = 5 ∨ j = 6 ∨ j = 7 ∨ j = 8 by omega) with rfl | rfl | rfl | rfl | rfl | rfl | rfl | rfl | rfl <;> rfl) (Nat.le_of_ble_eq_true rfl) (Nat.le_of_ble_eq_true rfl) dX3_init_33 (fun q8 H w => ?_)
  refine lv_dup S.1 S.2.1 dX3_init_36 rfl ?_
  refine nv_kN (X := [(q, .inr (2, [vI 0, vI 0, vI 0, vI 3, vI 0, vI 0, .ref q1]))] ++ [(q1, .inl (Z 3, 4, .inr (.inr (.inr (.inr (va_up (va_up (va_up (fun _ => none) 0 (some q2)) 1 (some q4)) 2 (some q6)))))))] ++ voiceB Z q2 a3.1 a3.2 V0 ++ voiceB Z q4 a5.1 a5.2 V0 ++ voiceB Z q6 a7.1 a7.2 V0) S w hao hl.1 (c_X6_init l D Z q8) gX3_init_X6_init_n21 rfl 3 rfl (List.mem_of_getElem? (i := 8) rfl) (List.mem_of_getElem? (i := 9) rfl) rfl (by decide +kernel) ⟨(Nat.le_of_ble_eq_true rfl), (Nat.le_of_ble_eq_true rfl)⟩ (Nat.le_of_ble_eq_true rfl) ⟨(Nat.le_of_ble_eq_true rfl), (Nat.le_of_ble_eq_true rfl)⟩ dX3_init_37 (fun a9 H locs w => ?_)
  have w := w.as (ws' := [(q, .inr (2, [vI 0, vI 0, vI 0, vI 3, vI 0, vI 0, .ref q1]))] ++ [(q1, .inl (Z 3, 4, .inr (.inr (.inr (.inr (va_up (va_up (va_up (fun _ => none) 0 (some q2)) 1 (some q4)) 2 (some q6)))))))] ++ voiceB Z q2 a3.1 a3.2 V0 ++ voiceB Z q4 a5.1 a5.2 V0 ++ voiceB Z q6 a7.1 a7.2 V0 ++ voiceB Z q8 a9.1 a9.2 V0) rfl
  refine nv_astq S w 1 3 11 5 rfl rfl rfl rfl (i := 3) (by decide) (by decide) (ws' := [(q, .inr (2, [vI 0, vI 0, vI 0, vI 3, vI 0, vI 0, .ref q1]))] ++ [(q1, .inl (Z 3, 4, .inr (.inr (.inr (.inr (va_up (va_up (va_up (va_up (fun _ => none) 0 (some q2)) 1 (some q4)) 2 (some q6)) 3 (some q8)))))))] ++ voiceB Z q2 a3.1 a3.2 V0 ++ voiceB Z q4 a5.1 a5.2 V0 ++ voiceB Z q6 a7.1 a7.2 V0 ++ voiceB Z q8 a9.1 a9.2 V0) rfl dX3_init_40 (fun H locs w => ?_)
  refine lv_iinc (v := nI 4) (lv' := [(1, vI 4), (0, .ref q)]) S.1 S.2.1 dX3_init_41 hl (k := 0) rfl (nI_incI 3 1) (by decide) rfl (fun ls hl => ?_)
  refine lv_goto (tgt := 19) S.1 S.2.1 dX3_init_44 (by decide) ?_
  refine lv_iload_n S.1 S.2.1 dX3_init_19 rfl (lv_at hl 0 rfl) ?_
  refine lv_aload_n S.1 S.2.1 dX3_init_20 rfl (lv_at hl 1 rfl) ?_
  refine nv_get S w (C := RX3) (T := TX3) (N := 7) hn_X3_init_3 0 rfl rfl 6 (by decide) (List.mem_of_getElem? (i := 6) rfl) (v := .ref q1) rfl dX3_init_21 ?_
  refine nv_alen S w 1 3 rfl rfl (n := 4) rfl dX3_init_24 ?_
  refine nv_icmp_ge (tgt := 47) S (by decide) (by decide) dX3_init_25 (by decide) (fun _ => ?_) (fun h9 => absurd h9 (by decide))
  exact nv_kret S w hr hlocks (fun k => if k = 1 then q1 else if k = 2 then q2 else if k = 3 then a3.1 else if k = 4 then a3.2 else if k = 5 then q4 else if k = 6 then a5.1 else if k = 7 then a5.2 else if k = 8 then q6 else if k = 9 then a7.1 else if k = 10 then a7.2 else if k = 11 then q8 else if k = 12 then a9.1 else if k = 13 then a9.2 else 0) (by rw [up4]; rfl) (Nat.le_of_ble_eq_true rfl) (Nat.le_of_ble_eq_true rfl) dX3_init_47

theorem hn_X5_init_4 : ∀ w ∈ wsX40, w ∈ wsX5_init := by decide +kernel
theorem hn_X5_init_5 : ∀ w ∈ wsX50, w ∈ wsX5_init := by decide +kernel
theorem hn_X5_init_3 : ∀ w ∈ wsX30, w ∈ wsX5_init := by decide +kernel
set_option maxRecDepth 100000 in
set_option maxHeartbeats 4000000 in
theorem c_X5_init (l : Launch) (D : va_G) (Z : Nat → ClassId) (q : Nat) : Ck l yX5_init wsX5_init 3 53 18 281 D Z [.ref q] ([(q, .inr (4, [.null, .null]))]) (fun (a9 : Nat → Nat) => stB Z (adK q a9) S0) := by
  refine ne_k (cc := cX5_init) (maxL := 1) (by decide +kernel) rfl (Nat.le_of_ble_eq_true rfl) rfl (fun p e s m args below meth c A ls (S : CallFix p m c cX5_init 1 s args wsX5_init RX5) hr hlocks hname hao hl w => ?_)
  have hl : lv_has ls 1 [(0, .ref q)] := hl
  refine lv_aload_n S.1 S.2.1 dX5_init_0 rfl (lv_at hl 0 rfl) ?_
  refine nv_obj S hl.1 (List.mem_of_getElem? (i := 1) rfl) (List.mem_of_getElem? (i := 2) rfl) (List.mem_of_getElem? (i := 3) rfl) dX5_init_1 (Nat.le_of_ble_eq_true rfl) (Nat.le_of_ble_eq_true rfl) ?_
  refine lv_aload_n S.1 S.2.1 dX5_init_4 rfl (lv_at hl 0 rfl) ?_
  refine nv_new S w (C := RX4) (T := TX4) (N := 4) hn_X5_init_4 tyX4_ok (List.mem_of_getElem? (i := 4) rfl) (List.mem_of_getElem? (i := 5) rfl) (List.mem_of_getElem? (i := 6) rfl) (ci := 3) rfl (fs := [.null, .null, .null, vI 0]) (fun j hj => by rcases (show j = 0 ∨ j = 1 ∨ j = 2 ∨ j = 3 by omega) with rfl | rfl | rfl | rfl <;> rfl) (Nat.le_of_ble_eq_true rfl) (Nat.le_of_ble_eq_true rfl) dX5_init_5 (fun q1 H w => ?_)
  refine lv_dup S.1 S.2.1 dX5_init_8 rfl ?_
  refine nv_k (X := [(q, .inr (4, [.null, .null]))]) S w hao hl.1 (c_X4_init l D Z q1) gX5_init_X4_init rfl (List.mem_of_getElem? (i := 6) rfl) (List.mem_of_getElem? (i := 12) rfl) (List.mem_of_getElem? (i := 13) rfl) rfl (by decide +kernel) ⟨(Nat.le_of_ble_eq_true rfl), (Nat.le_of_ble_eq_true rfl)⟩ (Nat.le_of_ble_eq_true rfl) ⟨(Nat.le_of_ble_eq_true rfl), (Nat.le_of_ble_eq_true rfl)⟩ dX5_init_9 (fun a2 H locs w => ?_)
  have w := w.as (ws' := [(q, .inr (4, [.null, .null]))] ++ songB Z q1 a2.1 a2.2.1 a2.2.2 G0) rfl
  refine nv_putR S w hname (C := RX5) (T := TX5) (N := 2) hn_X5_init_5 tyX5_ok nmX5 0 rfl rfl 0 (by decide) (List.mem_of_getElem? (i := 7) rfl) rfl rfl rfl rfl (Nat.le_of_ble_eq_true rfl) (ws' := [(q, .inr (4, [.ref q1, .null]))] ++ songB Z q1 a2.1 a2.2.1 a2.2.2 G0) rfl dX5_init_12 (fun H locs w => ?_)
  refine lv_aload_n S.1 S.2.1 dX5_init_15 rfl (lv_at hl 0 rfl) ?_
  refine nv_new S w (C := RX3) (T := TX3) (N := 7) hn_X5_init_3 tyX3_ok (List.mem_of_getElem? (i := 8) rfl) (List.mem_of_getElem? (i := 9) rfl) (List.mem_of_getElem? (i := 10) rfl) (ci := 2) rfl (fs := [vI 0, vI 0, vI 0, vI 0, vI 0, vI 0, .null]) (fun j hj => by rcases (show j = 0 ∨ j = 1 ∨ j = 2 ∨ j = 3 ∨ j = 4 ∨ j = 5 ∨ j = 6 by omega) with rfl | rfl | rfl | rfl | rfl | rfl | rfl <;> rfl) (Nat.le_of_ble_eq_true rfl) (Nat.le_of_ble_eq_true rfl) dX5_init_16 (fun q3 H w => ?_)
  refine lv_dup S.1 S.2.1 dX5_init_19 rfl ?_
  refine nv_k (X := [(q, .inr (4, [.ref q1, .null]))] ++ songB Z q1 a2.1 a2.2.1 a2.2.2 G0) S w hao hl.1 (c_X3_init l D Z q3) gX5_init_X3_init rfl (List.mem_of_getElem? (i := 10) rfl) (List.mem_of_getElem? (i := 21) rfl) (List.mem_of_getElem? (i := 22) rfl) rfl (by decide +kernel) ⟨(Nat.le_of_ble_eq_true rfl), (Nat.le_of_ble_eq_true rfl)⟩ (Nat.le_of_ble_eq_true rfl) ⟨(Nat.le_of_ble_eq_true rfl), (Nat.le_of_ble_eq_true rfl)⟩ dX5_init_20 (fun a4 H locs w => ?_)
  have w := w.as (ws' := [(q, .inr (4, [.ref q1, .null]))] ++ songB Z q1 a2.1 a2.2.1 a2.2.2 G0 ++ plB Z (adK q3 a4) P0) rfl
  refine nv_putR S w hname (C := RX5) (T := TX5) (N := 2) hn_X5_init_5 tyX5_ok nmX5 0 rfl rfl 1 (by decide) (List.mem_of_getElem? (i := 11) rfl) rfl rfl rfl rfl (Nat.le_of_ble_eq_true rfl) (ws' := [(q, .inr (4, [.ref q1, .ref q3]))] ++ songB Z q1 a2.1 a2.2.1 a2.2.2 G0 ++ plB Z (adK q3 a4) P0) rfl dX5_init_23 (fun H locs w => ?_)
  have w := w.perm (ws' := [(q, .inr (4, [.ref q1, .ref q3]))] ++ plB Z (adK q3 a4) P0 ++ songB Z q1 a2.1 a2.2.1 a2.2.2 G0) sw2
  exact nv_kret S w hr hlocks (fun k => if k = 1 then q1 else if k = 2 then a2.1 else if k = 3 then a2.2.1 else if k = 4 then a2.2.2 else (adK q3 a4) (k - 5)) rfl (Nat.le_of_ble_eq_true rfl) (Nat.le_of_ble_eq_true rfl) dX5_init_26

theorem hn_X1_init_1 : ∀ w ∈ wsX10, w ∈ wsX1_init := by decide +kernel
theorem hn_X1_init_5 : ∀ w ∈ wsX50, w ∈ wsX1_init := by decide +kernel
set_option maxRecDepth 100000 in
set_option maxHeartbeats 4000000 in
theorem c_X1_init (l : Launch) (D : va_G) (Z : Nat → ClassId) (q : Nat) : Ck l yX1_init wsX1_init 4 73 77 1136 D Z [.ref q] ([(q, .inr (0, [.null, vI 0, vI 0]))]) (fun (a9 : Nat × (Nat → Nat → Nat)) => hiB Z q a9.1 a9.2 0 0 (fun _ => S0)) := by
  refine ne_k (cc := cX1_init) (maxL := 2) (by decide +kernel) rfl (Nat.le_of_ble_eq_true rfl) rfl (fun p e s m args below meth c A ls (S : CallFix p m c cX1_init 2 s args wsX1_init RX1) hr hlocks hname hao hl w => ?_)
  have hl : lv_has ls 2 [(0, .ref q)] := hl
  refine lv_aload_n S.1 S.2.1 dX1_init_0 rfl (lv_at hl 0 rfl) ?_
  refine nv_obj S hl.1 (List.mem_of_getElem? (i := 1) rfl) (List.mem_of_getElem? (i := 2) rfl) (List.mem_of_getElem? (i := 3) rfl) dX1_init_1 (Nat.le_of_ble_eq_true rfl) (Nat.le_of_ble_eq_true rfl) ?_
  refine lv_aload_n S.1 S.2.1 dX1_init_4 rfl (lv_at hl 0 rfl) ?_
  refine lv_iconst (v := nI 4) S.1 S.2.1 dX1_init_5 (ofInt_nI 4) ?_
  refine nv_newq S w hao (n := 4) (C := RX5) 0 2 rfl rfl (List.mem_of_getElem? (i := 4) rfl) (by decide) (Nat.le_of_ble_eq_true rfl) (Nat.le_of_ble_eq_true rfl) dX1_init_6 (fun q1 H w => ?_)
  refine nv_putR S w hname (C := RX1) (T := TX1) (N := 3) hn_X1_init_1 tyX1_ok nmX1 0 rfl rfl 0 (by decide) (List.mem_of_getElem? (i := 5) rfl) rfl rfl rfl rfl (Nat.le_of_ble_eq_true rfl) (ws' := [(q, .inr (0, [.ref q1, vI 0, vI 0]))] ++ [(q1, .inl (Z 2, 4, .inr (.inr (.inr (.inr (fun _ => none))))))]) rfl dX1_init_9 (fun H locs w => ?_)
  refine lv_iconst (v := nI 0) S.1 S.2.1 dX1_init_12 (ofInt_nI 0) ?_
  refine lv_istore_n (lv' := [(1, vI 0), (0, .ref q)]) S.1 S.2.1 dX1_init_13 rfl hl (by decide) rfl (fun ls hl => ?_)
  refine lv_iload_n S.1 S.2.1 dX1_init_14 rfl (lv_at hl 0 rfl) ?_
  refine lv_aload_n S.1 S.2.1 dX1_init_15 rfl (lv_at hl 1 rfl) ?_
  refine nv_get S w (C := RX1) (T := TX1) (N := 3) hn_X1_init_1 0 rfl rfl 0 (by decide) (List.mem_of_getElem? (i := 5) rfl) (v := .ref q1) rfl dX1_init_16 ?_
  refine nv_alen S w 1 2 rfl rfl (n := 4) rfl dX1_init_19 ?_
  refine nv_icmp_ge (tgt := 42) S (by decide) (by decide) dX1_init_20 (by decide) (fun h9 => absurd h9 (by decide)) (fun _ => ?_)
  refine lv_aload_n S.1 S.2.1 dX1_init_23 rfl (lv_at hl 1 rfl) ?_
  refine nv_get S w (C := RX1) (T := TX1) (N := 3) hn_X1_init_1 0 rfl rfl 0 (by decide) (List.mem_of_getElem? (i := 5) rfl) (v := .ref q1) rfl dX1_init_24 ?_
  refine lv_iload_n S.1 S.2.1 dX1_init_27 rfl (lv_at hl 0 rfl) ?_
  refine nv_new S w (C := RX5) (T := TX5) (N := 2) hn_X1_init_5 tyX5_ok (List.mem_of_getElem? (i := 4) rfl) (List.mem_of_getElem? (i := 6) rfl) (List.mem_of_getElem? (i := 7) rfl) (ci := 4) rfl (fs := [.null, .null]) (fun j hj => by rcases (show j = 0 ∨ j = 1 by omega) with rfl | rfl <;> rfl) (Nat.le_of_ble_eq_true rfl) (Nat.le_of_ble_eq_true rfl) dX1_init_28 (fun q2 H w => ?_)
  refine lv_dup S.1 S.2.1 dX1_init_31 rfl ?_
  refine nv_kN (X := [(q, .inr (0, [.ref q1, vI 0, vI 0]))] ++ [(q1, .inl (Z 2, 4, .inr (.inr (.inr (.inr (fun _ => none))))))]) S w hao hl.1 (c_X5_init l D Z q2) gX1_init_X5_init_n17 rfl 2 rfl (List.mem_of_getElem? (i := 7) rfl) (List.mem_of_getElem? (i := 8) rfl) rfl (by decide +kernel) ⟨(Nat.le_of_ble_eq_true rfl), (Nat.le_of_ble_eq_true rfl)⟩ (Nat.le_of_ble_eq_true rfl) ⟨(Nat.le_of_ble_eq_true rfl), (Nat.le_of_ble_eq_true rfl)⟩ dX1_init_32 (fun a3 H locs w => ?_)
  have w := w.as (ws' := [(q, .inr (0, [.ref q1, vI 0, vI 0]))] ++ [(q1, .inl (Z 2, 4, .inr (.inr (.inr (.inr (fun _ => none))))))] ++ stB Z (adK q2 a3) S0) rfl
  refine nv_astq S w 1 2 2 4 rfl rfl rfl rfl (i := 0) (by decide) (by decide) (ws' := [(q, .inr (0, [.ref q1, vI 0, vI 0]))] ++ [(q1, .inl (Z 2, 4, .inr (.inr (.inr (.inr (va_up (fun _ => none) 0 (some q2)))))))] ++ stB Z (adK q2 a3) S0) rfl dX1_init_35 (fun H locs w => ?_)
  refine lv_iinc (v := nI 1) (lv' := [(1, vI 1), (0, .ref q)]) S.1 S.2.1 dX1_init_36 hl (k := 0) rfl (nI_incI 0 1) (by decide) rfl (fun ls hl => ?_)
  refine lv_goto (tgt := 14) S.1 S.2.1 dX1_init_39 (by decide) ?_
  refine lv_iload_n S.1 S.2.1 dX1_init_14 rfl (lv_at hl 0 rfl) ?_
  refine lv_aload_n S.1 S.2.1 dX1_init_15 rfl (lv_at hl 1 rfl) ?_
  refine nv_get S w (C := RX1) (T := TX1) (N := 3) hn_X1_init_1 0 rfl rfl 0 (by decide) (List.mem_of_getElem? (i := 5) rfl) (v := .ref q1) rfl dX1_init_16 ?_
  refine nv_alen S w 1 2 rfl rfl (n := 4) rfl dX1_init_19 ?_
  refine nv_icmp_ge (tgt := 42) S (by decide) (by decide) dX1_init_20 (by decide) (fun h9 => absurd h9 (by decide)) (fun _ => ?_)
  refine lv_aload_n S.1 S.2.1 dX1_init_23 rfl (lv_at hl 1 rfl) ?_
  refine nv_get S w (C := RX1) (T := TX1) (N := 3) hn_X1_init_1 0 rfl rfl 0 (by decide) (List.mem_of_getElem? (i := 5) rfl) (v := .ref q1) rfl dX1_init_24 ?_
  refine lv_iload_n S.1 S.2.1 dX1_init_27 rfl (lv_at hl 0 rfl) ?_
  refine nv_new S w (C := RX5) (T := TX5) (N := 2) hn_X1_init_5 tyX5_ok (List.mem_of_getElem? (i := 4) rfl) (List.mem_of_getElem? (i := 6) rfl) (List.mem_of_getElem? (i := 7) rfl) (ci := 4) rfl (fs := [.null, .null]) (fun j hj => by rcases (show j = 0 ∨ j = 1 by omega) with rfl | rfl <;> rfl) (Nat.le_of_ble_eq_true rfl) (Nat.le_of_ble_eq_true rfl) dX1_init_28 (fun q4 H w => ?_)
  refine lv_dup S.1 S.2.1 dX1_init_31 rfl ?_
  refine nv_kN (X := [(q, .inr (0, [.ref q1, vI 0, vI 0]))] ++ [(q1, .inl (Z 2, 4, .inr (.inr (.inr (.inr (va_up (fun _ => none) 0 (some q2)))))))] ++ stB Z (adK q2 a3) S0) S w hao hl.1 (c_X5_init l D Z q4) gX1_init_X5_init_n17 rfl 2 rfl (List.mem_of_getElem? (i := 7) rfl) (List.mem_of_getElem? (i := 8) rfl) rfl (by decide +kernel) ⟨(Nat.le_of_ble_eq_true rfl), (Nat.le_of_ble_eq_true rfl)⟩ (Nat.le_of_ble_eq_true rfl) ⟨(Nat.le_of_ble_eq_true rfl), (Nat.le_of_ble_eq_true rfl)⟩ dX1_init_32 (fun a5 H locs w => ?_)
  have w := w.as (ws' := [(q, .inr (0, [.ref q1, vI 0, vI 0]))] ++ [(q1, .inl (Z 2, 4, .inr (.inr (.inr (.inr (va_up (fun _ => none) 0 (some q2)))))))] ++ stB Z (adK q2 a3) S0 ++ stB Z (adK q4 a5) S0) rfl
  refine nv_astq S w 1 2 21 4 rfl rfl rfl rfl (i := 1) (by decide) (by decide) (ws' := [(q, .inr (0, [.ref q1, vI 0, vI 0]))] ++ [(q1, .inl (Z 2, 4, .inr (.inr (.inr (.inr (va_up (va_up (fun _ => none) 0 (some q2)) 1 (some q4)))))))] ++ stB Z (adK q2 a3) S0 ++ stB Z (adK q4 a5) S0) rfl dX1_init_35 (fun H locs w => ?_)
  refine lv_iinc (v := nI 2) (lv' := [(1, vI 2), (0, .ref q)]) S.1 S.2.1 dX1_init_36 hl (k := 0) rfl (nI_incI 1 1) (by decide) rfl (fun ls hl => ?_)
  refine lv_goto (tgt := 14) S.1 S.2.1 dX1_init_39 (by decide) ?_
  refine lv_iload_n S.1 S.2.1 dX1_init_14 rfl (lv_at hl 0 rfl) ?_
  refine lv_aload_n S.1 S.2.1 dX1_init_15 rfl (lv_at hl 1 rfl) ?_
  refine nv_get S w (C := RX1) (T := TX1) (N := 3) hn_X1_init_1 0 rfl rfl 0 (by decide) (List.mem_of_getElem? (i := 5) rfl) (v := .ref q1) rfl dX1_init_16 ?_
  refine nv_alen S w 1 2 rfl rfl (n := 4) rfl dX1_init_19 ?_
  refine nv_icmp_ge (tgt := 42) S (by decide) (by decide) dX1_init_20 (by decide) (fun h9 => absurd h9 (by decide)) (fun _ => ?_)
  refine lv_aload_n S.1 S.2.1 dX1_init_23 rfl (lv_at hl 1 rfl) ?_
  refine nv_get S w (C := RX1) (T := TX1) (N := 3) hn_X1_init_1 0 rfl rfl 0 (by decide) (List.mem_of_getElem? (i := 5) rfl) (v := .ref q1) rfl dX1_init_24 ?_
  refine lv_iload_n S.1 S.2.1 dX1_init_27 rfl (lv_at hl 0 rfl) ?_
  refine nv_new S w (C := RX5) (T := TX5) (N := 2) hn_X1_init_5 tyX5_ok (List.mem_of_getElem? (i := 4) rfl) (List.mem_of_getElem? (i := 6) rfl) (List.mem_of_getElem? (i := 7) rfl) (ci := 4) rfl (fs := [.null, .null]) (fun j hj => by rcases (show j = 0 ∨ j = 1 by omega) with rfl | rfl <;> rfl) (Nat.le_of_ble_eq_true rfl) (Nat.le_of_ble_eq_true rfl) dX1_init_28 (fun q6 H w => ?_)
  refine lv_dup S.1 S.2.1 dX1_init_31 rfl ?_
  refine nv_kN (X := [(q, .inr (0, [.ref q1, vI 0, vI 0]))] ++ [(q1, .inl (Z 2, 4, .inr (.inr (.inr (.inr (va_up (va_up (fun _ => none) 0 (some q2)) 1 (some q4)))))))] ++ stB Z (adK q2 a3) S0 ++ stB Z (adK q4 a5) S0) S w hao hl.1 (c_X5_init l D Z q6) gX1_init_X5_init_n17 rfl 2 rfl (List.mem_of_getElem? (i := 7) rfl) (List.mem_of_getElem? (i := 8) rfl) rfl (by decide +kernel) ⟨(Nat.le_of_ble_eq_true rfl), (Nat.le_of_ble_eq_true rfl)⟩ (Nat.le_of_ble_eq_true rfl) ⟨(Nat.le_of_ble_eq_true rfl), (Nat.le_of_ble_eq_true rfl)⟩ dX1_init_32 (fun a7 H locs w => ?_)
  have w := w.as (ws' := [(q, .inr (0, [.ref q1, vI 0, vI 0]))] ++ [(q1, .inl (Z 2, 4, .inr (.inr (.inr (.inr (va_up (va_up (fun _ => none) 0 (some q2)) 1 (some q4)))))))] ++ stB Z (adK q2 a3) S0 ++ stB Z (adK q4 a5) S0 ++ stB Z (adK q6 a7) S0) rfl
  refine nv_astq S w 1 2 40 4 rfl rfl rfl rfl (i := 2) (by decide) (by decide) (ws' := [(q, .inr (0, [.ref q1, vI 0, vI 0]))] ++ [(q1, .inl (Z 2, 4, .inr (.inr (.inr (.inr (va_up (va_up (va_up (fun _ => none) 0 (some q2)) 1 (some q4)) 2 (some q6)))))))] ++ stB Z (adK q2 a3) S0 ++ stB Z (adK q4 a5) S0 ++ stB Z (adK q6 a7) S0) rfl dX1_init_35 (fun H locs w => ?_)
  refine lv_iinc (v := nI 3) (lv' := [(1, vI 3), (0, .ref q)]) S.1 S.2.1 dX1_init_36 hl (k := 0) rfl (nI_incI 2 1) (by decide) rfl (fun ls hl => ?_)
  refine lv_goto (tgt := 14) S.1 S.2.1 dX1_init_39 (by decide) ?_
  refine lv_iload_n S.1 S.2.1 dX1_init_14 rfl (lv_at hl 0 rfl) ?_
  refine lv_aload_n S.1 S.2.1 dX1_init_15 rfl (lv_at hl 1 rfl) ?_
  refine nv_get S w (C := RX1) (T := TX1) (N := 3) hn_X1_init_1 0 rfl rfl 0 (by decide) (List.mem_of_getElem? (i := 5) rfl) (v := .ref q1) rfl dX1_init_16 ?_
  refine nv_alen S w 1 2 rfl rfl (n := 4) rfl dX1_init_19 ?_
  refine nv_icmp_ge (tgt := 42) S (by decide) (by decide) dX1_init_20 (by decide) (fun h9 => absurd h9 (by decide)) (fun _ => ?_)
  refine lv_aload_n S.1 S.2.1 dX1_init_23 rfl (lv_at hl 1 rfl) ?_
  refine nv_get S w (C := RX1) (T := TX1) (N := 3) hn_X1_init_1 0 rfl rfl 0 (by decide) (List.mem_of_getElem? (i := 5) rfl) (v := .ref q1) rfl dX1_init_24 ?_
  refine lv_iload_n S.1 S.2.1 dX1_init_27 rfl (lv_at hl 0 rfl) ?_
  refine nv_new S w (C := RX5) (T := TX5) (N := 2) hn_X1_init_5 tyX5_ok (List.mem_of_getElem? (i := 4) rfl) (List.mem_of_getElem? (i := 6) rfl) (List.mem_of_getElem? (i := 7) rfl) (ci := 4) rfl (fs := [.null, .null]) (fun j hj => by rcases (show j = 0 ∨ j = 1 by omega) with rfl | rfl <;> rfl) (Nat.le_of_ble_eq_true rfl) (Nat.le_of_ble_eq_true rfl) dX1_init_28 (fun q8 H w => ?_)
  refine lv_dup S.1 S.2.1 dX1_init_31 rfl ?_
  refine nv_kN (X := [(q, .inr (0, [.ref q1, vI 0, vI 0]))] ++ [(q1, .inl (Z 2, 4, .inr (.inr (.inr (.inr (va_up (va_up (va_up (fun _ => none) 0 (some q2)) 1 (some q4)) 2 (some q6)))))))] ++ stB Z (adK q2 a3) S0 ++ stB Z (adK q4 a5) S0 ++ stB Z (adK q6 a7) S0) S w hao hl.1 (c_X5_init l D Z q8) gX1_init_X5_init_n17 rfl 2 rfl (List.mem_of_getElem? (i := 7) rfl) (List.mem_of_getElem? (i := 8) rfl) rfl (by decide +kernel) ⟨(Nat.le_of_ble_eq_true rfl), (Nat.le_of_ble_eq_true rfl)⟩ (Nat.le_of_ble_eq_true rfl) ⟨(Nat.le_of_ble_eq_true rfl), (Nat.le_of_ble_eq_true rfl)⟩ dX1_init_32 (fun a9 H locs w => ?_)
  have w := w.as (ws' := [(q, .inr (0, [.ref q1, vI 0, vI 0]))] ++ [(q1, .inl (Z 2, 4, .inr (.inr (.inr (.inr (va_up (va_up (va_up (fun _ => none) 0 (some q2)) 1 (some q4)) 2 (some q6)))))))] ++ stB Z (adK q2 a3) S0 ++ stB Z (adK q4 a5) S0 ++ stB Z (adK q6 a7) S0 ++ stB Z (adK q8 a9) S0) rfl
  refine nv_astq S w 1 2 59 4 rfl rfl rfl rfl (i := 3) (by decide) (by decide) (ws' := [(q, .inr (0, [.ref q1, vI 0, vI 0]))] ++ [(q1, .inl (Z 2, 4, .inr (.inr (.inr (.inr (va_up (va_up (va_up (va_up (fun _ => none) 0 (some q2)) 1 (some q4)) 2 (some q6)) 3 (some q8)))))))] ++ stB Z (adK q2 a3) S0 ++ stB Z (adK q4 a5) S0 ++ stB Z (adK q6 a7) S0 ++ stB Z (adK q8 a9) S0) rfl dX1_init_35 (fun H locs w => ?_)
  refine lv_iinc (v := nI 4) (lv' := [(1, vI 4), (0, .ref q)]) S.1 S.2.1 dX1_init_36 hl (k := 0) rfl (nI_incI 3 1) (by decide) rfl (fun ls hl => ?_)
  refine lv_goto (tgt := 14) S.1 S.2.1 dX1_init_39 (by decide) ?_
  refine lv_iload_n S.1 S.2.1 dX1_init_14 rfl (lv_at hl 0 rfl) ?_
  refine lv_aload_n S.1 S.2.1 dX1_init_15 rfl (lv_at hl 1 rfl) ?_
  refine nv_get S w (C := RX1) (T := TX1) (N := 3) hn_X1_init_1 0 rfl rfl 0 (by decide) (List.mem_of_getElem? (i := 5) rfl) (v := .ref q1) rfl dX1_init_16 ?_
  refine nv_alen S w 1 2 rfl rfl (n := 4) rfl dX1_init_19 ?_
  refine nv_icmp_ge (tgt := 42) S (by decide) (by decide) dX1_init_20 (by decide) (fun _ => ?_) (fun h9 => absurd h9 (by decide))
  exact nv_kret S w hr hlocks (q1, fun r => if r = 0 then (adK q2 a3) else if r = 1 then (adK q4 a5) else if r = 2 then (adK q6 a7) else (adK q8 a9)) (by rw [up4]; rfl) (Nat.le_of_ble_eq_true rfl) (Nat.le_of_ble_eq_true rfl) dX1_init_42

theorem hn_X2_init_2 : ∀ w ∈ wsX20, w ∈ wsX2_init := by decide +kernel
set_option maxRecDepth 100000 in
set_option maxHeartbeats 4000000 in
theorem c_X2_init (l : Launch) (D : va_G) (Z : Nat → ClassId) (q : Nat) : Ck l yX2_init wsX2_init 1 12 2 132 D Z [.ref q] ([(q, .inr (1, [.null, vI 0, vI 0, vI 0, vI 0, .null]))]) (fun (a9 : Nat × Nat) => ptB Z q a9.1 a9.2 0 0 0 0 (fun _ => 0) (fun _ _ => 0)) := by
  refine ne_k (cc := cX2_init) (maxL := 1) (by decide +kernel) rfl (Nat.le_of_ble_eq_true rfl) rfl (fun p e s m args below meth c A ls (S : CallFix p m c cX2_init 1 s args wsX2_init RX2) hr hlocks hname hao hl w => ?_)
  have hl : lv_has ls 1 [(0, .ref q)] := hl
  refine lv_aload_n S.1 S.2.1 dX2_init_0 rfl (lv_at hl 0 rfl) ?_
  refine nv_obj S hl.1 (List.mem_of_getElem? (i := 1) rfl) (List.mem_of_getElem? (i := 2) rfl) (List.mem_of_getElem? (i := 3) rfl) dX2_init_1 (Nat.le_of_ble_eq_true rfl) (Nat.le_of_ble_eq_true rfl) ?_
  refine lv_aload_n S.1 S.2.1 dX2_init_4 rfl (lv_at hl 0 rfl) ?_
  refine lv_bipush (v := nI 100) S.1 S.2.1 dX2_init_5 (by decide +kernel) ?_
  refine nv_newb S w (n := 100) (List.mem_of_getElem? (i := 4) rfl) (by decide) (Nat.le_of_ble_eq_true rfl) (Nat.le_of_ble_eq_true rfl) dX2_init_7 (fun q1 H w => ?_)
  refine nv_putR S w hname (C := RX2) (T := TX2) (N := 6) hn_X2_init_2 tyX2_ok nmX2 0 rfl rfl 0 (by decide) (List.mem_of_getElem? (i := 5) rfl) rfl rfl rfl rfl (Nat.le_of_ble_eq_true rfl) (ws' := [(q, .inr (1, [.ref q1, vI 0, vI 0, vI 0, vI 0, .null]))] ++ [(q1, .inl (Z 1, 100, .inl (ar 100 (fun _ => 0))))]) rfl dX2_init_9 (fun H locs w => ?_)
  refine lv_aload_n S.1 S.2.1 dX2_init_12 rfl (lv_at hl 0 rfl) ?_
  refine lv_bipush (v := nI 32) S.1 S.2.1 dX2_init_13 (by decide +kernel) ?_
  refine nv_newi S w (n := 32) (List.mem_of_getElem? (i := 6) rfl) (by decide) (Nat.le_of_ble_eq_true rfl) (Nat.le_of_ble_eq_true rfl) dX2_init_15 (fun q2 H w => ?_)
  refine nv_putR S w hname (C := RX2) (T := TX2) (N := 6) hn_X2_init_2 tyX2_ok nmX2 0 rfl rfl 5 (by decide) (List.mem_of_getElem? (i := 7) rfl) rfl rfl rfl rfl (Nat.le_of_ble_eq_true rfl) (ws' := [(q, .inr (1, [.ref q1, vI 0, vI 0, vI 0, vI 0, .ref q2]))] ++ [(q1, .inl (Z 1, 100, .inl (ar 100 (fun _ => 0))))] ++ [(q2, .inl (Z 0, 32, .inl (ar 32 (fun _ => 0))))]) rfl dX2_init_17 (fun H locs w => ?_)
  exact nv_kret S w hr hlocks (q1, q2) rfl (Nat.le_of_ble_eq_true rfl) (Nat.le_of_ble_eq_true rfl) dX2_init_20

theorem hn_X7_init_5 : ∀ w ∈ wsX50, w ∈ wsX7_init := by decide +kernel
theorem hn_X7_init_7 : ∀ w ∈ wsX70, w ∈ wsX7_init := by decide +kernel
theorem hn_X7_init_1 : ∀ w ∈ wsX10, w ∈ wsX7_init := by decide +kernel
theorem hn_X7_init_2 : ∀ w ∈ wsX20, w ∈ wsX7_init := by decide +kernel
theorem hn_X7_init_3 : ∀ w ∈ wsX30, w ∈ wsX7_init := by decide +kernel
set_option maxRecDepth 100000 in
set_option maxHeartbeats 4000000 in
theorem c_X7_init (l : Launch) (D : va_G) (Z : Nat → ClassId) (q : Nat) : Ck l yX7_init wsX7_init 5 94 114 1631 D Z [.ref q] ([(q, .inr (6, [.null, .null, .null, .null]))]) (fun (a9 : Nat → Nat → Nat) => zzW Z (zK q a9) S0 0 0 (fun _ => S0) 0 0 0 0 (fun _ => 0) (fun _ _ => 0) P0) := by
  refine ne_k (cc := cX7_init) (maxL := 1) (by decide +kernel) rfl (Nat.le_of_ble_eq_true rfl) rfl (fun p e s m args below meth c A ls (S : CallFix p m c cX7_init 1 s args wsX7_init RX7) hr hlocks hname hao hl w => ?_)
  have hl : lv_has ls 1 [(0, .ref q)] := hl
  refine lv_aload_n S.1 S.2.1 dX7_init_0 rfl (lv_at hl 0 rfl) ?_
  refine nv_obj S hl.1 (List.mem_of_getElem? (i := 1) rfl) (List.mem_of_getElem? (i := 2) rfl) (List.mem_of_getElem? (i := 3) rfl) dX7_init_1 (Nat.le_of_ble_eq_true rfl) (Nat.le_of_ble_eq_true rfl) ?_
  refine lv_aload_n S.1 S.2.1 dX7_init_4 rfl (lv_at hl 0 rfl) ?_
  refine nv_new S w (C := RX5) (T := TX5) (N := 2) hn_X7_init_5 tyX5_ok (List.mem_of_getElem? (i := 4) rfl) (List.mem_of_getElem? (i := 5) rfl) (List.mem_of_getElem? (i := 6) rfl) (ci := 4) rfl (fs := [.null, .null]) (fun j hj => by rcases (show j = 0 ∨ j = 1 by omega) with rfl | rfl <;> rfl) (Nat.le_of_ble_eq_true rfl) (Nat.le_of_ble_eq_true rfl) dX7_init_5 (fun q1 H w => ?_)
  refine lv_dup S.1 S.2.1 dX7_init_8 rfl ?_
  refine nv_kN (X := [(q, .inr (6, [.null, .null, .null, .null]))]) S w hao hl.1 (c_X5_init l D Z q1) gX7_init_X5_init_n11 rfl 0 rfl (List.mem_of_getElem? (i := 6) rfl) (List.mem_of_getElem? (i := 20) rfl) rfl (by decide +kernel) ⟨(Nat.le_of_ble_eq_true rfl), (Nat.le_of_ble_eq_true rfl)⟩ (Nat.le_of_ble_eq_true rfl) ⟨(Nat.le_of_ble_eq_true rfl), (Nat.le_of_ble_eq_true rfl)⟩ dX7_init_9 (fun a2 H locs w => ?_)
  have w := w.as (ws' := [(q, .inr (6, [.null, .null, .null, .null]))] ++ stB Z (adK q1 a2) S0) rfl
  refine nv_putR S w hname (C := RX7) (T := TX7) (N := 4) hn_X7_init_7 tyX7_ok nmX7 0 rfl rfl 0 (by decide) (List.mem_of_getElem? (i := 7) rfl) rfl rfl rfl rfl (Nat.le_of_ble_eq_true rfl) (ws' := [(q, .inr (6, [.ref q1, .null, .null, .null]))] ++ stB Z (adK q1 a2) S0) rfl dX7_init_12 (fun H locs w => ?_)
  refine lv_aload_n S.1 S.2.1 dX7_init_15 rfl (lv_at hl 0 rfl) ?_
  refine nv_new S w (C := RX1) (T := TX1) (N := 3) hn_X7_init_1 tyX1_ok (List.mem_of_getElem? (i := 8) rfl) (List.mem_of_getElem? (i := 9) rfl) (List.mem_of_getElem? (i := 10) rfl) (ci := 0) rfl (fs := [.null, vI 0, vI 0]) (fun j hj => by rcases (show j = 0 ∨ j = 1 ∨ j = 2 by omega) with rfl | rfl | rfl <;> rfl) (Nat.le_of_ble_eq_true rfl) (Nat.le_of_ble_eq_true rfl) dX7_init_16 (fun q3 H w => ?_)
  refine lv_dup S.1 S.2.1 dX7_init_19 rfl ?_
  refine nv_k (X := [(q, .inr (6, [.ref q1, .null, .null, .null]))] ++ stB Z (adK q1 a2) S0) S w hao hl.1 (c_X1_init l D Z q3) gX7_init_X1_init rfl (List.mem_of_getElem? (i := 10) rfl) (List.mem_of_getElem? (i := 53) rfl) (List.mem_of_getElem? (i := 54) rfl) rfl (by decide +kernel) ⟨(Nat.le_of_ble_eq_true rfl), (Nat.le_of_ble_eq_true rfl)⟩ (Nat.le_of_ble_eq_true rfl) ⟨(Nat.le_of_ble_eq_true rfl), (Nat.le_of_ble_eq_true rfl)⟩ dX7_init_20 (fun a4 H locs w => ?_)
  have w := w.as (ws' := [(q, .inr (6, [.ref q1, .null, .null, .null]))] ++ stB Z (adK q1 a2) S0 ++ hiB Z q3 a4.1 a4.2 0 0 (fun _ => S0)) rfl
  refine nv_putR S w hname (C := RX7) (T := TX7) (N := 4) hn_X7_init_7 tyX7_ok nmX7 0 rfl rfl 1 (by decide) (List.mem_of_getElem? (i := 11) rfl) rfl rfl rfl rfl (Nat.le_of_ble_eq_true rfl) (ws' := [(q, .inr (6, [.ref q1, .ref q3, .null, .null]))] ++ stB Z (adK q1 a2) S0 ++ hiB Z q3 a4.1 a4.2 0 0 (fun _ => S0)) rfl dX7_init_23 (fun H locs w => ?_)
  refine lv_aload_n S.1 S.2.1 dX7_init_26 rfl (lv_at hl 0 rfl) ?_
  refine nv_new S w (C := RX2) (T := TX2) (N := 6) hn_X7_init_2 tyX2_ok (List.mem_of_getElem? (i := 12) rfl) (List.mem_of_getElem? (i := 13) rfl) (List.mem_of_getElem? (i := 14) rfl) (ci := 1) rfl (fs := [.null, vI 0, vI 0, vI 0, vI 0, .null]) (fun j hj => by rcases (show j = 0 ∨ j = 1 ∨ j = 2 ∨ j = 3 ∨ j = 4 ∨ j = 5 by omega) with rfl | rfl | rfl | rfl | rfl | rfl <;> rfl) (Nat.le_of_ble_eq_true rfl) (Nat.le_of_ble_eq_true rfl) dX7_init_27 (fun q5 H w => ?_)
  refine lv_dup S.1 S.2.1 dX7_init_30 rfl ?_
  refine nv_kN (X := [(q, .inr (6, [.ref q1, .ref q3, .null, .null]))] ++ stB Z (adK q1 a2) S0 ++ hiB Z q3 a4.1 a4.2 0 0 (fun _ => S0)) S w hao hl.1 (c_X2_init l D Z q5) gX7_init_X2_init_n25 rfl 1 rfl (List.mem_of_getElem? (i := 14) rfl) (List.mem_of_getElem? (i := 59) rfl) rfl (by decide +kernel) ⟨(Nat.le_of_ble_eq_true rfl), (Nat.le_of_ble_eq_true rfl)⟩ (Nat.le_of_ble_eq_true rfl) ⟨(Nat.le_of_ble_eq_true rfl), (Nat.le_of_ble_eq_true rfl)⟩ dX7_init_31 (fun a6 H locs w => ?_)
  have w := w.as (ws' := [(q, .inr (6, [.ref q1, .ref q3, .null, .null]))] ++ stB Z (adK q1 a2) S0 ++ hiB Z q3 a4.1 a4.2 0 0 (fun _ => S0) ++ ptB Z q5 a6.1 a6.2 0 0 0 0 (fun _ => 0) (fun _ _ => 0)) rfl
  refine nv_putR S w hname (C := RX7) (T := TX7) (N := 4) hn_X7_init_7 tyX7_ok nmX7 0 rfl rfl 2 (by decide) (List.mem_of_getElem? (i := 15) rfl) rfl rfl rfl rfl (Nat.le_of_ble_eq_true rfl) (ws' := [(q, .inr (6, [.ref q1, .ref q3, .ref q5, .null]))] ++ stB Z (adK q1 a2) S0 ++ hiB Z q3 a4.1 a4.2 0 0 (fun _ => S0) ++ ptB Z q5 a6.1 a6.2 0 0 0 0 (fun _ => 0) (fun _ _ => 0)) rfl dX7_init_34 (fun H locs w => ?_)
  refine lv_aload_n S.1 S.2.1 dX7_init_37 rfl (lv_at hl 0 rfl) ?_
  refine nv_new S w (C := RX3) (T := TX3) (N := 7) hn_X7_init_3 tyX3_ok (List.mem_of_getElem? (i := 16) rfl) (List.mem_of_getElem? (i := 17) rfl) (List.mem_of_getElem? (i := 18) rfl) (ci := 2) rfl (fs := [vI 0, vI 0, vI 0, vI 0, vI 0, vI 0, .null]) (fun j hj => by rcases (show j = 0 ∨ j = 1 ∨ j = 2 ∨ j = 3 ∨ j = 4 ∨ j = 5 ∨ j = 6 by omega) with rfl | rfl | rfl | rfl | rfl | rfl | rfl <;> rfl) (Nat.le_of_ble_eq_true rfl) (Nat.le_of_ble_eq_true rfl) dX7_init_38 (fun q7 H w => ?_)
  refine lv_dup S.1 S.2.1 dX7_init_41 rfl ?_
  refine nv_k (X := [(q, .inr (6, [.ref q1, .ref q3, .ref q5, .null]))] ++ stB Z (adK q1 a2) S0 ++ hiB Z q3 a4.1 a4.2 0 0 (fun _ => S0) ++ ptB Z q5 a6.1 a6.2 0 0 0 0 (fun _ => 0) (fun _ _ => 0)) S w hao hl.1 (c_X3_init l D Z q7) gX7_init_X3_init rfl (List.mem_of_getElem? (i := 18) rfl) (List.mem_of_getElem? (i := 65) rfl) (List.mem_of_getElem? (i := 39) rfl) rfl (by decide +kernel) ⟨(Nat.le_of_ble_eq_true rfl), (Nat.le_of_ble_eq_true rfl)⟩ (Nat.le_of_ble_eq_true rfl) ⟨(Nat.le_of_ble_eq_true rfl), (Nat.le_of_ble_eq_true rfl)⟩ dX7_init_42 (fun a8 H locs w => ?_)
  have w := w.as (ws' := [(q, .inr (6, [.ref q1, .ref q3, .ref q5, .null]))] ++ stB Z (adK q1 a2) S0 ++ hiB Z q3 a4.1 a4.2 0 0 (fun _ => S0) ++ ptB Z q5 a6.1 a6.2 0 0 0 0 (fun _ => 0) (fun _ _ => 0) ++ plB Z (adK q7 a8) P0) rfl
  refine nv_putR S w hname (C := RX7) (T := TX7) (N := 4) hn_X7_init_7 tyX7_ok nmX7 0 rfl rfl 3 (by decide) (List.mem_of_getElem? (i := 19) rfl) rfl rfl rfl rfl (Nat.le_of_ble_eq_true rfl) (ws' := [(q, .inr (6, [.ref q1, .ref q3, .ref q5, .ref q7]))] ++ stB Z (adK q1 a2) S0 ++ hiB Z q3 a4.1 a4.2 0 0 (fun _ => S0) ++ ptB Z q5 a6.1 a6.2 0 0 0 0 (fun _ => 0) (fun _ _ => 0) ++ plB Z (adK q7 a8) P0) rfl dX7_init_45 (fun H locs w => ?_)
  have w := w.perm (ws' := [(q, .inr (6, [.ref q1, .ref q3, .ref q5, .ref q7]))] ++ plB Z (adK q7 a8) P0 ++ stB Z (adK q1 a2) S0 ++ ptB Z q5 a6.1 a6.2 0 0 0 0 (fun _ => 0) (fun _ _ => 0) ++ hiB Z q3 a4.1 a4.2 0 0 (fun _ => S0)) (List.Perm.trans sw2 (List.Perm.trans (List.Perm.append_right _ sw2) (List.Perm.trans (List.Perm.append_right _ (List.Perm.append_right _ sw2)) sw2)))
  exact nv_kret S w hr hlocks (fun i => if i = 8 then (adK q7 a8) else if i = 1 then (adK q1 a2) else if i = 7 then (fun k => if k = 0 then q5 else if k = 1 then a6.1 else a6.2) else if i = 2 then (fun k => if k = 0 then q3 else a4.1) else a4.2 (i - 3)) rfl (Nat.le_of_ble_eq_true rfl) (Nat.le_of_ble_eq_true rfl) dX7_init_48
