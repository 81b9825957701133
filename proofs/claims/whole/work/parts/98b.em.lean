theorem hn_X8_empties_8 : ∀ w ∈ wsX80, w ∈ wsX8_empties := by decide +kernel
set_option maxRecDepth 100000 in
set_option maxHeartbeats 4000000 in
theorem k_X8_empties (l : Launch) (D : va_G) (Z : Nat → ClassId) (b : Nat → Nat) (X : ST) (sv sd : Nat → Nat) (sm th tl pl ro nu : Nat) (t r : Nat → Nat) (a : Nat) (ha : a < 6) {p : Program} {e : Env} {s : State} {m : MethodId} {args : Array Value} {below : List Frame} {meth : Method} {c : Code} {A : Nat → Prop} (S : CallFix p m c cX8_empties 4 s args wsX8_empties RX8) (hr : meth.sig.returnType = none) (hlocks : meth.locks = false) : ∀ (n9 : Nat), (∀ (n : Nat) (hn : n ≤ 32) (hm : 32 - n < n9), ∀ (H : Heap) (locs : List Loc) (ls : Array Slot) (hl : lv_has ls 4 [(0, .ref (b 0)), (1, vI a), (2, vI n)]) (w : Wd D Z A s (mdM Z b (emS X a n) sv sd sm th tl pl ro nu t r) H locs), W p l e (rmO 1 22) s m args below meth c H locs 0 0 (Qv below D Z A args s (mdM Z b (emS X a 32) sv sd sm th tl pl ro nu t r)) (F0 m 2 ls [])) := by
  intro n9
  induction n9 with
  | zero => intro n hn hm; exact absurd hm (Nat.not_lt_zero _)
  | succ n9 ih =>
    skip
    · intro n hn hm H locs ls hl w
      have hcx : cix a 0 0 = 32 * a := by unfold cix; omega
      refine lv_iload_n S.1 S.2.1 dX8_empties_2 rfl (lv_at hl 2 rfl) ?_
      refine lv_bipush (v := nI 32) S.1 S.2.1 dX8_empties_3 (by decide +kernel) ?_
      refine nv_icmp_ge S (by omega) (by omega) (tgt := 62) dX8_empties_5 (by decide) (fun h_1 => ?_) (fun h_1 => ?_)
      · skip
        exact nv_vret S w hr hlocks (by rw [show n = 32 by omega]) dX8_empties_62
      · skip
        refine lv_iload_n S.1 S.2.1 dX8_empties_8 rfl (lv_at hl 1 rfl) ?_
        refine lv_iconst (v := nI 0) S.1 S.2.1 dX8_empties_9 (ofInt_nI 0) ?_
        refine lv_iconst (v := nI 0) S.1 S.2.1 dX8_empties_10 (ofInt_nI 0) ?_
        refine nv_pSi (rest := []) S w hl.1 (c_X8_cellAt l D Z a 0 0 ) gX8_empties_X8_cellAt rfl hdS_X8_cellAt ⟨Nat.le_of_ble_eq_true rfl, Nat.le_of_ble_eq_true rfl⟩ rfl rfl (Nat.le_of_ble_eq_true rfl) ⟨Nat.zero_le _, Nat.zero_le _⟩ dX8_empties_11 (fun H locs w => ?_)
        refine lv_iconst (v := nI 4) S.1 S.2.1 dX8_empties_14 (ofInt_nI 4) ?_
        refine lv_iload_n S.1 S.2.1 dX8_empties_15 rfl (lv_at hl 2 rfl) ?_
        refine nv_imul S dX8_empties_16 ?_
        refine nv_iadd S dX8_empties_17 ?_
        refine lv_istore_n (lv' := [(3, vI ((85 + 4 * cix a 0 0) + (4 * n))), (0, .ref (b 0)), (1, vI a), (2, vI n)]) S.1 S.2.1 dX8_empties_18 rfl hl (by decide) rfl (fun ls hl => ?_)
        refine lv_aload_n S.1 S.2.1 dX8_empties_19 rfl (lv_at hl 1 rfl) ?_
        refine nv_get S w (C := RX8) (T := TX8) (N := 11) hn_X8_empties_8 0 rfl rfl 0 (by decide) (List.mem_of_getElem? (i := 1) rfl) (v := .ref (b 1)) rfl dX8_empties_20 ?_
        refine lv_iload_n S.1 S.2.1 dX8_empties_23 rfl (lv_at hl 0 rfl) ?_
        refine lv_iconst (v := nI 0) S.1 S.2.1 dX8_empties_24 (ofInt_nI 0) ?_
        refine nv_iadd S dX8_empties_25 ?_
        refine lv_iconst (v := nI 0) S.1 S.2.1 dX8_empties_26 (ofInt_nI 0) ?_
        refine nv_iast S w (i := (((85 + 4 * cix a 0 0) + (4 * n)) + 0)) (x := 0) (g := (enc (emS X a n))) 1 rfl (by omega) (by decide) (ws' := [(b 0, .inr (7, [.ref (b 1), .ref (b 2), .ref (b 3), vI sm, vI th, .ref (b 4), vI tl, vI pl, .ref (b 5), vI ro, vI nu])), (b 1, .inl (Z 0, 853, .inl (ar 853 (un (enc (emS X a n)) (((85 + 4 * cix a 0 0) + (4 * n)) + 0) 0)))), (b 2, .inl (Z 0, 3412, .inl (ar 3412 sv))), (b 3, .inl (Z 0, 853, .inl (ar 853 sd))), (b 4, .inl (Z 0, 100, .inl (ar 100 t))), (b 5, .inl (Z 0, 128, .inl (ar 128 r)))]) rfl dX8_empties_27 (fun H locs w => ?_)
        have w := w.as (ws' := mdM Z b (eSt (emS X a n) (32 * a + n) (un ((emS X a n).1.1 (32 * a + n)) 0 0)) sv sd sm th tl pl ro nu t r) (mdM_e (un_e1 (a := a) (n := n) (k := 0) (by omega) (by decide)))
        refine lv_aload_n S.1 S.2.1 dX8_empties_28 rfl (lv_at hl 1 rfl) ?_
        refine nv_get S w (C := RX8) (T := TX8) (N := 11) hn_X8_empties_8 0 rfl rfl 0 (by decide) (List.mem_of_getElem? (i := 1) rfl) (v := .ref (b 1)) rfl dX8_empties_29 ?_
        refine lv_iload_n S.1 S.2.1 dX8_empties_32 rfl (lv_at hl 0 rfl) ?_
        refine lv_iconst (v := nI 1) S.1 S.2.1 dX8_empties_33 (ofInt_nI 1) ?_
        refine nv_iadd S dX8_empties_34 ?_
        refine lv_bipush (v := nI 15) S.1 S.2.1 dX8_empties_35 (by decide +kernel) ?_
        refine nv_iast S w (i := (((85 + 4 * cix a 0 0) + (4 * n)) + 1)) (x := 15) (g := (enc (eSt (emS X a n) (32 * a + n) (un ((emS X a n).1.1 (32 * a + n)) 0 0)))) 1 rfl (by omega) (by decide) (ws' := [(b 0, .inr (7, [.ref (b 1), .ref (b 2), .ref (b 3), vI sm, vI th, .ref (b 4), vI tl, vI pl, .ref (b 5), vI ro, vI nu])), (b 1, .inl (Z 0, 853, .inl (ar 853 (un (enc (eSt (emS X a n) (32 * a + n) (un ((emS X a n).1.1 (32 * a + n)) 0 0))) (((85 + 4 * cix a 0 0) + (4 * n)) + 1) 15)))), (b 2, .inl (Z 0, 3412, .inl (ar 3412 sv))), (b 3, .inl (Z 0, 853, .inl (ar 853 sd))), (b 4, .inl (Z 0, 100, .inl (ar 100 t))), (b 5, .inl (Z 0, 128, .inl (ar 128 r)))]) rfl dX8_empties_37 (fun H locs w => ?_)
        have w := w.as (ws' := mdM Z b (eSt (emS X a n) (32 * a + n) (un (un ((emS X a n).1.1 (32 * a + n)) 0 0) 1 15)) sv sd sm th tl pl ro nu t r) (mdM_e (un_e2 (a := a) (n := n) (k := 1) (by omega) (by decide)))
        refine lv_aload_n S.1 S.2.1 dX8_empties_38 rfl (lv_at hl 1 rfl) ?_
        refine nv_get S w (C := RX8) (T := TX8) (N := 11) hn_X8_empties_8 0 rfl rfl 0 (by decide) (List.mem_of_getElem? (i := 1) rfl) (v := .ref (b 1)) rfl dX8_empties_39 ?_
        refine lv_iload_n S.1 S.2.1 dX8_empties_42 rfl (lv_at hl 0 rfl) ?_
        refine lv_iconst (v := nI 2) S.1 S.2.1 dX8_empties_43 (ofInt_nI 2) ?_
        refine nv_iadd S dX8_empties_44 ?_
        refine lv_iconst (v := nI 0) S.1 S.2.1 dX8_empties_45 (ofInt_nI 0) ?_
        refine nv_iast S w (i := (((85 + 4 * cix a 0 0) + (4 * n)) + 2)) (x := 0) (g := (enc (eSt (emS X a n) (32 * a + n) (un (un ((emS X a n).1.1 (32 * a + n)) 0 0) 1 15)))) 1 rfl (by omega) (by decide) (ws' := [(b 0, .inr (7, [.ref (b 1), .ref (b 2), .ref (b 3), vI sm, vI th, .ref (b 4), vI tl, vI pl, .ref (b 5), vI ro, vI nu])), (b 1, .inl (Z 0, 853, .inl (ar 853 (un (enc (eSt (emS X a n) (32 * a + n) (un (un ((emS X a n).1.1 (32 * a + n)) 0 0) 1 15))) (((85 + 4 * cix a 0 0) + (4 * n)) + 2) 0)))), (b 2, .inl (Z 0, 3412, .inl (ar 3412 sv))), (b 3, .inl (Z 0, 853, .inl (ar 853 sd))), (b 4, .inl (Z 0, 100, .inl (ar 100 t))), (b 5, .inl (Z 0, 128, .inl (ar 128 r)))]) rfl dX8_empties_46 (fun H locs w => ?_)
        have w := w.as (ws' := mdM Z b (eSt (emS X a n) (32 * a + n) (un (un (un ((emS X a n).1.1 (32 * a + n)) 0 0) 1 15) 2 0)) sv sd sm th tl pl ro nu t r) (mdM_e (un_e2 (a := a) (n := n) (k := 2) (by omega) (by decide)))
        refine lv_aload_n S.1 S.2.1 dX8_empties_47 rfl (lv_at hl 1 rfl) ?_
        refine nv_get S w (C := RX8) (T := TX8) (N := 11) hn_X8_empties_8 0 rfl rfl 0 (by decide) (List.mem_of_getElem? (i := 1) rfl) (v := .ref (b 1)) rfl dX8_empties_48 ?_
        refine lv_iload_n S.1 S.2.1 dX8_empties_51 rfl (lv_at hl 0 rfl) ?_
        refine lv_iconst (v := nI 3) S.1 S.2.1 dX8_empties_52 (ofInt_nI 3) ?_
        refine nv_iadd S dX8_empties_53 ?_
        refine lv_iconst (v := nI 0) S.1 S.2.1 dX8_empties_54 (ofInt_nI 0) ?_
        refine nv_iast S w (i := (((85 + 4 * cix a 0 0) + (4 * n)) + 3)) (x := 0) (g := (enc (eSt (emS X a n) (32 * a + n) (un (un (un ((emS X a n).1.1 (32 * a + n)) 0 0) 1 15) 2 0)))) 1 rfl (by omega) (by decide) (ws' := [(b 0, .inr (7, [.ref (b 1), .ref (b 2), .ref (b 3), vI sm, vI th, .ref (b 4), vI tl, vI pl, .ref (b 5), vI ro, vI nu])), (b 1, .inl (Z 0, 853, .inl (ar 853 (un (enc (eSt (emS X a n) (32 * a + n) (un (un (un ((emS X a n).1.1 (32 * a + n)) 0 0) 1 15) 2 0))) (((85 + 4 * cix a 0 0) + (4 * n)) + 3) 0)))), (b 2, .inl (Z 0, 3412, .inl (ar 3412 sv))), (b 3, .inl (Z 0, 853, .inl (ar 853 sd))), (b 4, .inl (Z 0, 100, .inl (ar 100 t))), (b 5, .inl (Z 0, 128, .inl (ar 128 r)))]) rfl dX8_empties_55 (fun H locs w => ?_)
        have w := w.as (ws' := mdM Z b (eSt (emS X a n) (32 * a + n) (un (un (un (un ((emS X a n).1.1 (32 * a + n)) 0 0) 1 15) 2 0) 3 0)) sv sd sm th tl pl ro nu t r) (mdM_e (un_e2 (a := a) (n := n) (k := 3) (by omega) (by decide)))
        have w := w.as (ws' := mdM Z b (emS X a (n + 1)) sv sd sm th tl pl ro nu t r) (by rw [← em_s]; rfl)
        refine lv_iinc (v := nI (n + 1)) (lv' := [(2, vI (n + 1)), (3, vI ((85 + 4 * cix a 0 0) + (4 * n))), (0, .ref (b 0)), (1, vI a)]) S.1 S.2.1 dX8_empties_56 hl (k := 3) rfl (nI_incI n 1) (by decide) rfl (fun ls hl => ?_)
        refine lv_goto (tgt := 2) S.1 S.2.1 dX8_empties_59 (by decide) ?_
        exact ih (n + 1) (by omega) (by omega) _ _ _ (lv_sub hl [2, 3, 0] rfl) (w.as rfl)
set_option maxRecDepth 100000 in
set_option maxHeartbeats 4000000 in
theorem c_X8_empties (l : Launch) (D : va_G) (Z : Nat → ClassId) (b : Nat → Nat) (X : ST) (sv sd : Nat → Nat) (sm th tl pl ro nu : Nat) (t r : Nat → Nat) (a : Nat) (ha : a < 6) : Cv l yX8_empties wsX8_empties 1 22 D Z [.ref (b 0), vI a] (mdM Z b X sv sd sm th tl pl ro nu t r)  (mdM Z b (emS X a 32) sv sd sm th tl pl ro nu t r) := by
  refine ne_v (cc := cX8_empties) (maxL := 4) (by decide +kernel) rfl (Nat.le_of_ble_eq_true rfl) (fun p e s m args below meth c A ls (S : CallFix p m c cX8_empties 4 s args wsX8_empties RX8) hr hlocks hl w => ?_)
  have hl : lv_has ls 4 [(0, .ref (b 0)), (1, vI a)] := hl
  refine lv_iconst (v := nI 0) S.1 S.2.1 dX8_empties_0 (ofInt_nI 0) ?_
  refine lv_istore_n (lv' := [(2, vI 0), (0, .ref (b 0)), (1, vI a)]) S.1 S.2.1 dX8_empties_1 rfl hl (by decide) rfl (fun ls hl => ?_)
  exact k_X8_empties l D Z b X sv sd sm th tl pl ro nu t r a ha S hr hlocks _ 0 (by omega) (Nat.lt_succ_self _) _ _ _ (lv_sub hl [1, 2, 0] rfl) (w.as (by rw [em_0]))
