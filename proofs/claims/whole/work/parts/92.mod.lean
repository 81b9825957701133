theorem hn_X8_readsRow_8 : ∀ w ∈ wsX80, w ∈ wsX8_readsRow := by decide +kernel
theorem hdV_X8_readsCell : yX8_readsCell.cls = RX8 ∧ yX8_readsCell.cls ≠ "java/lang/invoke/MethodHandle" ∧ yX8_readsCell.cls ≠ "java/lang/invoke/VarHandle" ∧ (parseMethodDescriptor yX8_readsCell.desc).map (fun d => d.parameters.length) = some 1 := by decide +kernel
set_option maxRecDepth 100000 in
set_option maxHeartbeats 4000000 in
theorem k_X8_readsRow (l : Launch) (D : va_G) (Z : Nat → ClassId) (b : Nat → Nat) (X : ST) (sv sd : Nat → Nat) (sm th tl pl ro nu : Nat) (t r : Nat → Nat) (ht : ∀ j, j < 100 → t j < 128) (htl : tl ≤ 100) (hpl : pl ≤ 800) (hro : ro < 8) {p : Program} {e : Env} {s : State} {m : MethodId} {args : Array Value} {below : List Frame} {meth : Method} {c : Code} {A : Nat → Prop} (S : CallFix p m c cX8_readsRow 3 s args wsX8_readsRow RX8) (hr : meth.sig.returnType = (some .boolean)) (hlocks : meth.locks = false) : ∀ (n9 : Nat), (∀ (d g j v : Nat) (f : Nat → Nat) (hd4 : d < 4) (hg1 : g ≤ 1) (hj : j ≤ 810 + 8 * d) (er : (rqr (cx t tl) ro 4 0 pl nu r) = rqk (cx t tl) ro (3 - d) d g j v f) (hm : 4 - d < n9), ∀ (H : Heap) (locs : List Loc) (ls : Array Slot) (hl : lv_has ls 3 [(0, .ref (b 0)), (1, vI d), (2, vI g)]) (w : Wd D Z A s (mdM Z b X sv sd sm th tl j ro v t f) H locs), W p l e (rmO 3 68) s m args below meth c H locs 0 0 (Qi below D Z A args s (nI (rqr (cx t tl) ro 4 0 pl nu r).1) (mdM Z b X sv sd sm th tl ((rqr (cx t tl) ro 4 0 pl nu r).2.1) (ro + (rqr (cx t tl) ro 4 0 pl nu r).1) ((rqr (cx t tl) ro 4 0 pl nu r).2.2.1) t ((rqr (cx t tl) ro 4 0 pl nu r).2.2.2))) (F0 m 14 ls [])) := by
  intro n9
  have hb0 := (rce_b (c := cx t tl) pl).1
  induction n9 with
  | zero => intro d g j v f hd4 hg1 hj er hm; exact absurd hm (Nat.not_lt_zero _)
  | succ n9 ih =>
    skip
    · intro d g j v f hd4 hg1 hj er hm H locs ls hl w
      have hb9 := (rce_b (c := cx t tl) (j + 1)).1
      have hc0 := cx_le (i := j) ht htl
      refine lv_iload_n S.1 S.2.1 dX8_readsRow_14 rfl (lv_at hl 2 rfl) ?_
      refine nv_if_eq S (by omega) (tgt := 54) dX8_readsRow_15 (by decide) (fun h_1 => ?_) (fun h_1 => ?_)
      · skip
        refine lv_aload_n S.1 S.2.1 dX8_readsRow_54 rfl (lv_at hl 0 rfl) ?_
        refine lv_dup S.1 S.2.1 dX8_readsRow_55 rfl ?_
        refine nv_get S w (C := RX8) (T := TX8) (N := 11) hn_X8_readsRow_8 0 rfl rfl 9 (by decide) (List.mem_of_getElem? (i := 1) rfl) (v := vI ro) rfl dX8_readsRow_56 ?_
        refine lv_iload_n S.1 S.2.1 dX8_readsRow_59 rfl (lv_at hl 2 rfl) ?_
        refine nv_if_eq S (by omega) (tgt := 67) dX8_readsRow_60 (by decide) (fun h_2 => ?_) (fun h_2 => ?_)
        · skip
          refine lv_iconst (v := nI 0) S.1 S.2.1 dX8_readsRow_67 (ofInt_nI 0) ?_
          refine nv_iadd S dX8_readsRow_68 ?_
          refine nv_put S w (C := RX8) (T := TX8) (N := 11) hn_X8_readsRow_8 tyX8_ok nmX8 0 rfl rfl 9 (by decide) (List.mem_of_getElem? (i := 1) rfl) rfl rfl (Nat.le_of_ble_eq_true rfl) (ws' := [(b 0, .inr (7, [.ref (b 1), .ref (b 2), .ref (b 3), vI sm, vI th, .ref (b 4), vI tl, vI j, .ref (b 5), vI (ro + 0), vI v])), (b 1, .inl (Z 0, 853, .inl (ar 853 (enc X)))), (b 2, .inl (Z 0, 3412, .inl (ar 3412 sv))), (b 3, .inl (Z 0, 853, .inl (ar 853 sd))), (b 4, .inl (Z 0, 100, .inl (ar 100 t))), (b 5, .inl (Z 0, 128, .inl (ar 128 f)))]) rfl dX8_readsRow_69 (fun H locs w => ?_)
          refine lv_iload_n S.1 S.2.1 dX8_readsRow_72 rfl (lv_at hl 2 rfl) ?_
          exact nv_iret S w hr hlocks (nI_bool (by omega)) (by have hg9 : g = 0 := h_1; subst hg9; rw [er, rqk_0 (c := cx t tl)]) (by have hg9 : g = 0 := h_1; subst hg9; rw [er, rqk_0 (c := cx t tl)]; try rfl) dX8_readsRow_73
        · skip
          exfalso; omega
      · skip
        refine lv_iload_n S.1 S.2.1 dX8_readsRow_18 rfl (lv_at hl 1 rfl) ?_
        refine lv_iconst (v := nI 3) S.1 S.2.1 dX8_readsRow_19 (ofInt_nI 3) ?_
        refine nv_icmp_ge S (by omega) (by omega) (tgt := 54) dX8_readsRow_20 (by decide) (fun h_3 => ?_) (fun h_3 => ?_)
        · skip
          refine lv_aload_n S.1 S.2.1 dX8_readsRow_54 rfl (lv_at hl 0 rfl) ?_
          refine lv_dup S.1 S.2.1 dX8_readsRow_55 rfl ?_
          refine nv_get S w (C := RX8) (T := TX8) (N := 11) hn_X8_readsRow_8 0 rfl rfl 9 (by decide) (List.mem_of_getElem? (i := 1) rfl) (v := vI ro) rfl dX8_readsRow_56 ?_
          refine lv_iload_n S.1 S.2.1 dX8_readsRow_59 rfl (lv_at hl 2 rfl) ?_
          refine nv_if_eq S (by omega) (tgt := 67) dX8_readsRow_60 (by decide) (fun h_4 => ?_) (fun h_4 => ?_)
          · skip
            exfalso; omega
          · skip
            refine lv_iconst (v := nI 1) S.1 S.2.1 dX8_readsRow_63 (ofInt_nI 1) ?_
            refine lv_goto (tgt := 68) S.1 S.2.1 dX8_readsRow_64 (by decide) ?_
            refine nv_iadd S dX8_readsRow_68 ?_
            refine nv_put S w (C := RX8) (T := TX8) (N := 11) hn_X8_readsRow_8 tyX8_ok nmX8 0 rfl rfl 9 (by decide) (List.mem_of_getElem? (i := 1) rfl) rfl rfl (Nat.le_of_ble_eq_true rfl) (ws' := [(b 0, .inr (7, [.ref (b 1), .ref (b 2), .ref (b 3), vI sm, vI th, .ref (b 4), vI tl, vI j, .ref (b 5), vI (ro + 1), vI v])), (b 1, .inl (Z 0, 853, .inl (ar 853 (enc X)))), (b 2, .inl (Z 0, 3412, .inl (ar 3412 sv))), (b 3, .inl (Z 0, 853, .inl (ar 853 sd))), (b 4, .inl (Z 0, 100, .inl (ar 100 t))), (b 5, .inl (Z 0, 128, .inl (ar 128 f)))]) rfl dX8_readsRow_69 (fun H locs w => ?_)
            refine lv_iload_n S.1 S.2.1 dX8_readsRow_72 rfl (lv_at hl 2 rfl) ?_
            exact nv_iret S w hr hlocks (nI_bool (by omega)) (by have hg9 : g = 1 := (by omega); subst hg9; rw [er, rqk_1 (c := cx t tl) (by decide) (fun z9 => by omega)]) (by have hg9 : g = 1 := (by omega); subst hg9; rw [er, rqk_1 (c := cx t tl) (by decide) (fun z9 => by omega)]; try rfl) dX8_readsRow_73
        · skip
          refine lv_aload_n S.1 S.2.1 dX8_readsRow_23 rfl (lv_at hl 0 rfl) ?_
          refine lv_bipush (v := nI 44) S.1 S.2.1 dX8_readsRow_24 (by decide +kernel) ?_
          refine nv_cVi (rest := []) (ws' := mdM Z b X sv sd sm th tl (j + bP (cx t tl j = 44 + 1)) ro v t f) S w hl.1 (c_X8_passes l D Z b X sv sd sm th tl j ro v t f 44 ht (by omega) (by omega) (by omega)) [0, 1, 2, 3, 4, 5] rfl rfl rfl rfl gX8_readsRow_X8_passes rfl hdV_X8_passes ⟨Nat.le_of_ble_eq_true rfl, Nat.le_of_ble_eq_true rfl⟩ (q0 := 0) rfl rfl rfl rfl (Nat.le_of_ble_eq_true rfl) ⟨Nat.zero_le _, Nat.zero_le _⟩ dX8_readsRow_26 (fun H locs w => ?_)
          refine nv_if_eqB S (tgt := 54) dX8_readsRow_29 (by decide) (fun h_5 => ?_) (fun h_5 => ?_)
          · skip
            have w := w.as (ws' := mdM Z b X sv sd sm th tl j ro v t f) (by rw [bP_f h_5]; try rfl)
            refine lv_aload_n S.1 S.2.1 dX8_readsRow_54 rfl (lv_at hl 0 rfl) ?_
            refine lv_dup S.1 S.2.1 dX8_readsRow_55 rfl ?_
            refine nv_get S w (C := RX8) (T := TX8) (N := 11) hn_X8_readsRow_8 0 rfl rfl 9 (by decide) (List.mem_of_getElem? (i := 1) rfl) (v := vI ro) rfl dX8_readsRow_56 ?_
            refine lv_iload_n S.1 S.2.1 dX8_readsRow_59 rfl (lv_at hl 2 rfl) ?_
            refine nv_if_eq S (by omega) (tgt := 67) dX8_readsRow_60 (by decide) (fun h_6 => ?_) (fun h_6 => ?_)
            · skip
              exfalso; omega
            · skip
              refine lv_iconst (v := nI 1) S.1 S.2.1 dX8_readsRow_63 (ofInt_nI 1) ?_
              refine lv_goto (tgt := 68) S.1 S.2.1 dX8_readsRow_64 (by decide) ?_
              refine nv_iadd S dX8_readsRow_68 ?_
              refine nv_put S w (C := RX8) (T := TX8) (N := 11) hn_X8_readsRow_8 tyX8_ok nmX8 0 rfl rfl 9 (by decide) (List.mem_of_getElem? (i := 1) rfl) rfl rfl (Nat.le_of_ble_eq_true rfl) (ws' := [(b 0, .inr (7, [.ref (b 1), .ref (b 2), .ref (b 3), vI sm, vI th, .ref (b 4), vI tl, vI j, .ref (b 5), vI (ro + 1), vI v])), (b 1, .inl (Z 0, 853, .inl (ar 853 (enc X)))), (b 2, .inl (Z 0, 3412, .inl (ar 3412 sv))), (b 3, .inl (Z 0, 853, .inl (ar 853 sd))), (b 4, .inl (Z 0, 100, .inl (ar 100 t))), (b 5, .inl (Z 0, 128, .inl (ar 128 f)))]) rfl dX8_readsRow_69 (fun H locs w => ?_)
              refine lv_iload_n S.1 S.2.1 dX8_readsRow_72 rfl (lv_at hl 2 rfl) ?_
              exact nv_iret S w hr hlocks (nI_bool (by omega)) (by have hg9 : g = 1 := (by omega); subst hg9; rw [er, rqk_1 (c := cx t tl) (by decide) (fun z9 => h_5 z9.1)]) (by have hg9 : g = 1 := (by omega); subst hg9; rw [er, rqk_1 (c := cx t tl) (by decide) (fun z9 => h_5 z9.1)]; try rfl) dX8_readsRow_73
          · skip
            have w := w.as (ws' := mdM Z b X sv sd sm th tl (j + 1) ro v t f) (by rw [bP_t h_5]; try rfl)
            refine lv_iinc (v := nI (d + 1)) (lv' := [(1, vI (d + 1)), (0, .ref (b 0)), (2, vI g)]) S.1 S.2.1 dX8_readsRow_32 hl (k := 1) rfl (nI_incI d 1) (by decide) rfl (fun ls hl => ?_)
            refine lv_aload_n S.1 S.2.1 dX8_readsRow_35 rfl (lv_at hl 1 rfl) ?_
            refine lv_bipush (v := nI 16) S.1 S.2.1 dX8_readsRow_36 (by decide +kernel) ?_
            refine lv_aload_n S.1 S.2.1 dX8_readsRow_38 rfl (lv_at hl 1 rfl) ?_
            refine nv_get S w (C := RX8) (T := TX8) (N := 11) hn_X8_readsRow_8 0 rfl rfl 9 (by decide) (List.mem_of_getElem? (i := 1) rfl) (v := vI ro) rfl dX8_readsRow_39 ?_
            refine nv_imul S dX8_readsRow_42 ?_
            refine lv_iconst (v := nI 4) S.1 S.2.1 dX8_readsRow_43 (ofInt_nI 4) ?_
            refine lv_iload_n S.1 S.2.1 dX8_readsRow_44 rfl (lv_at hl 0 rfl) ?_
            refine nv_imul S dX8_readsRow_45 ?_
            refine nv_iadd S dX8_readsRow_46 ?_
            refine nv_cVi (rest := []) (ws' := mdM Z b X sv sd sm th tl ((rce (cx t tl) (j + 1)).2.1) ro (nuC (cx t tl) (j + 1) v) t (rdC (cx t tl) (j + 1) ((16 * ro) + (4 * (d + 1))) f)) S w hl.1 (c_X8_readsCell l D Z b X sv sd sm th tl (j + 1) ro v t f ((16 * ro) + (4 * (d + 1))) ht (by omega) (by omega) (by omega)) [0, 1, 2, 3, 4, 5] rfl rfl rfl rfl gX8_readsRow_X8_readsCell rfl hdV_X8_readsCell ⟨Nat.le_of_ble_eq_true rfl, Nat.le_of_ble_eq_true rfl⟩ (q0 := 0) rfl rfl rfl rfl (Nat.le_of_ble_eq_true rfl) ⟨Nat.zero_le _, Nat.zero_le _⟩ dX8_readsRow_47 (fun H locs w => ?_)
            refine lv_istore_n (lv' := [(2, vI (bP ((rce (cx t tl) (j + 1)).1 ≠ 0))), (1, vI (d + 1)), (0, .ref (b 0))]) S.1 S.2.1 dX8_readsRow_50 rfl hl (by decide) rfl (fun ls hl => ?_)
            refine lv_goto (tgt := 14) S.1 S.2.1 dX8_readsRow_51 (by decide) ?_
            exact ih (d + 1) (bP ((rce (cx t tl) (j + 1)).1 ≠ 0)) ((rce (cx t tl) (j + 1)).2.1) (nuC (cx t tl) (j + 1) v) (rdC (cx t tl) (j + 1) ((16 * ro) + (4 * (d + 1))) f) (by omega) (bP_le _) (by omega) (by rw [er, show 3 - d = (3 - (d + 1)) + 1 by omega]; exact rqk_go (c := cx t tl) h_1 h_5 h_3) (by omega) _ _ _ (lv_sub hl [2, 1, 0] rfl) w
set_option maxRecDepth 100000 in
set_option maxHeartbeats 4000000 in
theorem c_X8_readsRow (l : Launch) (D : va_G) (Z : Nat → ClassId) (b : Nat → Nat) (X : ST) (sv sd : Nat → Nat) (sm th tl pl ro nu : Nat) (t r : Nat → Nat) (ht : ∀ j, j < 100 → t j < 128) (htl : tl ≤ 100) (hpl : pl ≤ 800) (hro : ro < 8) : Ci l yX8_readsRow wsX8_readsRow 3 68 D Z [.ref (b 0)] (mdM Z b X sv sd sm th tl pl ro nu t r) (nI (rqr (cx t tl) ro 4 0 pl nu r).1) (mdM Z b X sv sd sm th tl ((rqr (cx t tl) ro 4 0 pl nu r).2.1) (ro + (rqr (cx t tl) ro 4 0 pl nu r).1) ((rqr (cx t tl) ro 4 0 pl nu r).2.2.1) t ((rqr (cx t tl) ro 4 0 pl nu r).2.2.2)) := by
  refine ne_i (cc := cX8_readsRow) (maxL := 3) (by decide +kernel) rfl (Nat.le_of_ble_eq_true rfl) (fun p e s m args below meth c A ls (S : CallFix p m c cX8_readsRow 3 s args wsX8_readsRow RX8) hr hlocks hl w => ?_)
  have hb0 := (rce_b (c := cx t tl) pl).1
  have hl : lv_has ls 3 [(0, .ref (b 0))] := hl
  refine lv_iconst (v := nI 0) S.1 S.2.1 dX8_readsRow_0 (ofInt_nI 0) ?_
  refine lv_istore_n (lv' := [(1, vI 0), (0, .ref (b 0))]) S.1 S.2.1 dX8_readsRow_1 rfl hl (by decide) rfl (fun ls hl => ?_)
  refine lv_aload_n S.1 S.2.1 dX8_readsRow_2 rfl (lv_at hl 1 rfl) ?_
  refine lv_bipush (v := nI 16) S.1 S.2.1 dX8_readsRow_3 (by decide +kernel) ?_
  refine lv_aload_n S.1 S.2.1 dX8_readsRow_5 rfl (lv_at hl 1 rfl) ?_
  refine nv_get S w (C := RX8) (T := TX8) (N := 11) hn_X8_readsRow_8 0 rfl rfl 9 (by decide) (List.mem_of_getElem? (i := 1) rfl) (v := vI ro) rfl dX8_readsRow_6 ?_
  refine nv_imul S dX8_readsRow_9 ?_
  refine nv_cVi (rest := []) (ws' := mdM Z b X sv sd sm th tl ((rce (cx t tl) pl).2.1) ro (nuC (cx t tl) pl nu) t (rdC (cx t tl) pl (16 * ro) r)) S w hl.1 (c_X8_readsCell l D Z b X sv sd sm th tl pl ro nu t r (16 * ro) ht (by omega) (by omega) (by omega)) [0, 1, 2, 3, 4, 5] rfl rfl rfl rfl gX8_readsRow_X8_readsCell rfl hdV_X8_readsCell ⟨Nat.le_of_ble_eq_true rfl, Nat.le_of_ble_eq_true rfl⟩ (q0 := 0) rfl rfl rfl rfl (Nat.le_of_ble_eq_true rfl) ⟨Nat.zero_le _, Nat.zero_le _⟩ dX8_readsRow_10 (fun H locs w => ?_)
  refine lv_istore_n (lv' := [(2, vI (bP ((rce (cx t tl) pl).1 ≠ 0))), (1, vI 0), (0, .ref (b 0))]) S.1 S.2.1 dX8_readsRow_13 rfl hl (by decide) rfl (fun ls hl => ?_)
  exact k_X8_readsRow l D Z b X sv sd sm th tl pl ro nu t r ht htl hpl hro S hr hlocks _ 0 (bP ((rce (cx t tl) pl).1 ≠ 0)) ((rce (cx t tl) pl).2.1) (nuC (cx t tl) pl nu) (rdC (cx t tl) pl (16 * ro) r) (by omega) (bP_le _) (by omega) (rqr_s) (Nat.lt_succ_self _) _ _ _ (lv_sub hl [2, 1, 0] rfl) w

theorem hn_X8_readsText_8 : ∀ w ∈ wsX80, w ∈ wsX8_readsText := by decide +kernel
theorem hdV_X8_readsRow : yX8_readsRow.cls = RX8 ∧ yX8_readsRow.cls ≠ "java/lang/invoke/MethodHandle" ∧ yX8_readsRow.cls ≠ "java/lang/invoke/VarHandle" ∧ (parseMethodDescriptor yX8_readsRow.desc).map (fun d => d.parameters.length) = some 0 := by decide +kernel
set_option maxRecDepth 100000 in
set_option maxHeartbeats 4000000 in
theorem k_X8_readsText_b (l : Launch) (D : va_G) (Z : Nat → ClassId) (b : Nat → Nat) (X : ST) (sv sd : Nat → Nat) (sm th tl pl ro nu : Nat) (t r : Nat → Nat) (ht : ∀ j, j < 100 → t j < 128) (htl : tl ≤ 100) {p : Program} {e : Env} {s : State} {m : MethodId} {args : Array Value} {below : List Frame} {meth : Method} {c : Code} {A : Nat → Prop} (S : CallFix p m c cX8_readsText 2 s args wsX8_readsText RX8) (hr : meth.sig.returnType = (some .boolean)) (hlocks : meth.locks = false) : ∀ (n9 : Nat), (∀ (g x j v : Nat) (f : Nat → Nat) (hg1 : g ≤ 1) (hx8 : x ≤ 8) (hj1 : j ≤ 80 + 40 * x) (hj2 : g = 0 ∨ j ≤ 40 * x) (her : (rqt (cx t tl) tl nu r) = rqz tl (rqg (cx t tl) (8 - x) x g j v f)) (hm : 3 * (8 - x) + g < n9), ∀ (H : Heap) (locs : List Loc) (ls : Array Slot) (hl : lv_has ls 2 [(0, .ref (b 0)), (1, vI g)]) (w : Wd D Z A s (mdM Z b X sv sd sm th tl j x v t f) H locs), W p l e (rmO 4 90) s m args below meth c H locs 0 0 (Qi below D Z A args s (nI (rqt (cx t tl) tl nu r).1) (mdM Z b X sv sd sm th tl ((rqt (cx t tl) tl nu r).2.1) ((rqt (cx t tl) tl nu r).2.2.1) ((rqt (cx t tl) tl nu r).2.2.2.1) t ((rqt (cx t tl) tl nu r).2.2.2.2))) (F0 m 95 ls [])) := by
  intro n9
  have hc0 := cx_le (i := 0) ht htl
  have hc1 := cx_le (i := 1) ht htl
  have hq0 := rqr_b (c := cx t tl) 0 4 0 2 nu (rE r 128)
  have hq1 := rqr_1 (c := cx t tl) 0 4 0 2 nu (rE r 128)
  induction n9 with
  | zero => intro g x j v f hg1 hx8 hj1 hj2 her hm; exact absurd hm (Nat.not_lt_zero _)
  | succ n9 ih =>
    skip
    · intro g x j v f hg1 hx8 hj1 hj2 her hm H locs ls hl w
      have hq2 := rqr_b (c := cx t tl) x 4 0 (j + 1) v f
      have hq3 := rqr_1 (c := cx t tl) x 4 0 (j + 1) v f
      have hc2 := cx_le (i := j) ht htl
      refine lv_iload_n S.1 S.2.1 dX8_readsText_95 rfl (lv_at hl 1 rfl) ?_
      refine nv_if_eq S (by omega) (tgt := 125) dX8_readsText_96 (by decide) (fun h_1 => ?_) (fun h_1 => ?_)
      · skip
        refine lv_iload_n S.1 S.2.1 dX8_readsText_125 rfl (lv_at hl 1 rfl) ?_
        refine nv_if_eq S (by omega) (tgt := 144) dX8_readsText_126 (by decide) (fun h_2 => ?_) (fun h_2 => ?_)
        · skip
          refine lv_iconst (v := nI 0) S.1 S.2.1 dX8_readsText_144 (ofInt_nI 0) ?_
          exact nv_iret S w hr hlocks (nI_bool (by decide)) (by have hg9 : g = 0 := h_1; subst hg9; rw [her, rqz_0]) (by have hg9 : g = 0 := h_1; subst hg9; rw [her, rqz_0]; try rfl) dX8_readsText_145
        · skip
          exfalso; omega
      · skip
        refine lv_aload_n S.1 S.2.1 dX8_readsText_99 rfl (lv_at hl 0 rfl) ?_
        refine nv_get S w (C := RX8) (T := TX8) (N := 11) hn_X8_readsText_8 0 rfl rfl 9 (by decide) (List.mem_of_getElem? (i := 2) rfl) (v := vI x) rfl dX8_readsText_100 ?_
        refine lv_bipush (v := nI 8) S.1 S.2.1 dX8_readsText_103 (by decide +kernel) ?_
        refine nv_icmp_ge S (by omega) (by omega) (tgt := 125) dX8_readsText_105 (by decide) (fun h_3 => ?_) (fun h_3 => ?_)
        · skip
          refine lv_iload_n S.1 S.2.1 dX8_readsText_125 rfl (lv_at hl 1 rfl) ?_
          refine nv_if_eq S (by omega) (tgt := 144) dX8_readsText_126 (by decide) (fun h_4 => ?_) (fun h_4 => ?_)
          · skip
            exfalso; omega
          · skip
            refine lv_aload_n S.1 S.2.1 dX8_readsText_129 rfl (lv_at hl 0 rfl) ?_
            refine nv_get S w (C := RX8) (T := TX8) (N := 11) hn_X8_readsText_8 0 rfl rfl 7 (by decide) (List.mem_of_getElem? (i := 1) rfl) (v := vI j) rfl dX8_readsText_130 ?_
            refine lv_aload_n S.1 S.2.1 dX8_readsText_133 rfl (lv_at hl 0 rfl) ?_
            refine nv_get S w (C := RX8) (T := TX8) (N := 11) hn_X8_readsText_8 0 rfl rfl 6 (by decide) (List.mem_of_getElem? (i := 6) rfl) (v := vI tl) rfl dX8_readsText_134 ?_
            refine nv_icmp_ne S (by omega) (by omega) (tgt := 144) dX8_readsText_137 (by decide) (fun h_5 => ?_) (fun h_5 => ?_)
            · skip
              refine lv_iconst (v := nI 0) S.1 S.2.1 dX8_readsText_144 (ofInt_nI 0) ?_
              exact nv_iret S w hr hlocks (nI_bool (by decide)) (by rw [her, rqz_1 (c := cx t tl) h_1 (fun z9 => by omega), bP_f h_5]) (by rw [her, rqz_1 (c := cx t tl) h_1 (fun z9 => by omega)]; try rfl) dX8_readsText_145
            · skip
              refine lv_iconst (v := nI 1) S.1 S.2.1 dX8_readsText_140 (ofInt_nI 1) ?_
              refine lv_goto (tgt := 145) S.1 S.2.1 dX8_readsText_141 (by decide) ?_
              exact nv_iret S w hr hlocks (nI_bool (by decide)) (by rw [her, rqz_1 (c := cx t tl) h_1 (fun z9 => by omega), bP_t h_5]) (by rw [her, rqz_1 (c := cx t tl) h_1 (fun z9 => by omega)]; try rfl) dX8_readsText_145
        · skip
          refine lv_aload_n S.1 S.2.1 dX8_readsText_108 rfl (lv_at hl 0 rfl) ?_
          refine lv_bipush (v := nI 47) S.1 S.2.1 dX8_readsText_109 (by decide +kernel) ?_
          refine nv_cVi (rest := []) (ws' := mdM Z b X sv sd sm th tl (j + bP (cx t tl j = 47 + 1)) x v t f) S w hl.1 (c_X8_passes l D Z b X sv sd sm th tl j x v t f 47 ht (by omega) (by omega) (by omega)) [0, 1, 2, 3, 4, 5] rfl rfl rfl rfl gX8_readsText_X8_passes rfl hdV_X8_passes ⟨Nat.le_of_ble_eq_true rfl, Nat.le_of_ble_eq_true rfl⟩ (q0 := 0) rfl rfl rfl rfl (Nat.le_of_ble_eq_true rfl) ⟨Nat.zero_le _, Nat.zero_le _⟩ dX8_readsText_111 (fun H locs w => ?_)
          refine nv_if_eqB S (tgt := 125) dX8_readsText_114 (by decide) (fun h_6 => ?_) (fun h_6 => ?_)
          · skip
            have w := w.as (ws' := mdM Z b X sv sd sm th tl j x v t f) (by rw [bP_f h_6]; try rfl)
            refine lv_iload_n S.1 S.2.1 dX8_readsText_125 rfl (lv_at hl 1 rfl) ?_
            refine nv_if_eq S (by omega) (tgt := 144) dX8_readsText_126 (by decide) (fun h_7 => ?_) (fun h_7 => ?_)
            · skip
              exfalso; omega
            · skip
              refine lv_aload_n S.1 S.2.1 dX8_readsText_129 rfl (lv_at hl 0 rfl) ?_
              refine nv_get S w (C := RX8) (T := TX8) (N := 11) hn_X8_readsText_8 0 rfl rfl 7 (by decide) (List.mem_of_getElem? (i := 1) rfl) (v := vI j) rfl dX8_readsText_130 ?_
              refine lv_aload_n S.1 S.2.1 dX8_readsText_133 rfl (lv_at hl 0 rfl) ?_
              refine nv_get S w (C := RX8) (T := TX8) (N := 11) hn_X8_readsText_8 0 rfl rfl 6 (by decide) (List.mem_of_getElem? (i := 6) rfl) (v := vI tl) rfl dX8_readsText_134 ?_
              refine nv_icmp_ne S (by omega) (by omega) (tgt := 144) dX8_readsText_137 (by decide) (fun h_8 => ?_) (fun h_8 => ?_)
              · skip
                refine lv_iconst (v := nI 0) S.1 S.2.1 dX8_readsText_144 (ofInt_nI 0) ?_
                exact nv_iret S w hr hlocks (nI_bool (by decide)) (by rw [her, rqz_1 (c := cx t tl) h_1 (fun z9 => h_6 z9.2), bP_f h_8]) (by rw [her, rqz_1 (c := cx t tl) h_1 (fun z9 => h_6 z9.2)]; try rfl) dX8_readsText_145
              · skip
                refine lv_iconst (v := nI 1) S.1 S.2.1 dX8_readsText_140 (ofInt_nI 1) ?_
                refine lv_goto (tgt := 145) S.1 S.2.1 dX8_readsText_141 (by decide) ?_
                exact nv_iret S w hr hlocks (nI_bool (by decide)) (by rw [her, rqz_1 (c := cx t tl) h_1 (fun z9 => h_6 z9.2), bP_t h_8]) (by rw [her, rqz_1 (c := cx t tl) h_1 (fun z9 => h_6 z9.2)]; try rfl) dX8_readsText_145
          · skip
            have w := w.as (ws' := mdM Z b X sv sd sm th tl (j + 1) x v t f) (by rw [bP_t h_6]; try rfl)
            refine lv_aload_n S.1 S.2.1 dX8_readsText_117 rfl (lv_at hl 0 rfl) ?_
            refine nv_cVi (rest := []) (ws' := mdM Z b X sv sd sm th tl ((rqr (cx t tl) x 4 0 (j + 1) v f).2.1) (x + (rqr (cx t tl) x 4 0 (j + 1) v f).1) ((rqr (cx t tl) x 4 0 (j + 1) v f).2.2.1) t ((rqr (cx t tl) x 4 0 (j + 1) v f).2.2.2)) S w hl.1 (c_X8_readsRow l D Z b X sv sd sm th tl (j + 1) x v t f ht (by omega) (by omega) (by omega)) [0, 1, 2, 3, 4, 5] rfl rfl rfl rfl gX8_readsText_X8_readsRow rfl hdV_X8_readsRow ⟨Nat.le_of_ble_eq_true rfl, Nat.le_of_ble_eq_true rfl⟩ (q0 := 0) rfl rfl rfl rfl (Nat.le_of_ble_eq_true rfl) ⟨Nat.zero_le _, Nat.zero_le _⟩ dX8_readsText_118 (fun H locs w => ?_)
            refine lv_istore_n (lv' := [(1, vI ((rqr (cx t tl) x 4 0 (j + 1) v f).1)), (0, .ref (b 0))]) S.1 S.2.1 dX8_readsText_121 rfl hl (by decide) rfl (fun ls hl => ?_)
            refine lv_goto (tgt := 95) S.1 S.2.1 dX8_readsText_122 (by decide) ?_
            exact ih ((rqr (cx t tl) x 4 0 (j + 1) v f).1) (x + (rqr (cx t tl) x 4 0 (j + 1) v f).1) ((rqr (cx t tl) x 4 0 (j + 1) v f).2.1) ((rqr (cx t tl) x 4 0 (j + 1) v f).2.2.1) ((rqr (cx t tl) x 4 0 (j + 1) v f).2.2.2) (by omega) (by omega) (by omega) (by omega) (by rw [her]; exact rqz_go (c := cx t tl) h_1 h_3 h_6) (by omega) _ _ _ (lv_sub hl [1, 0] rfl) w
set_option maxRecDepth 100000 in
set_option maxHeartbeats 4000000 in
theorem k_X8_readsText_a (l : Launch) (D : va_G) (Z : Nat → ClassId) (b : Nat → Nat) (X : ST) (sv sd : Nat → Nat) (sm th tl pl ro nu : Nat) (t r : Nat → Nat) (ht : ∀ j, j < 100 → t j < 128) (htl : tl ≤ 100) {p : Program} {e : Env} {s : State} {m : MethodId} {args : Array Value} {below : List Frame} {meth : Method} {c : Code} {A : Nat → Prop} (S : CallFix p m c cX8_readsText 2 s args wsX8_readsText RX8) (hr : meth.sig.returnType = (some .boolean)) (hlocks : meth.locks = false) : ∀ (n9 : Nat), (∀ (i : Nat) (hi9 : i ≤ 128) (hm : 128 - i < n9), ∀ (H : Heap) (locs : List Loc) (ls : Array Slot) (hl : lv_has ls 2 [(0, .ref (b 0)), (1, vI i)]) (w : Wd D Z A s (mdM Z b X sv sd sm th tl 0 0 nu t (rE r i)) H locs), W p l e (rmO 4 90) s m args below meth c H locs 0 0 (Qi below D Z A args s (nI (rqt (cx t tl) tl nu r).1) (mdM Z b X sv sd sm th tl ((rqt (cx t tl) tl nu r).2.1) ((rqt (cx t tl) tl nu r).2.2.1) ((rqt (cx t tl) tl nu r).2.2.2.1) t ((rqt (cx t tl) tl nu r).2.2.2.2))) (F0 m 12 ls [])) := by
  intro n9
  have hc0 := cx_le (i := 0) ht htl
  have hc1 := cx_le (i := 1) ht htl
  have hq0 := rqr_b (c := cx t tl) 0 4 0 2 nu (rE r 128)
  have hq1 := rqr_1 (c := cx t tl) 0 4 0 2 nu (rE r 128)
  induction n9 with
  | zero => intro i hi9 hm; exact absurd hm (Nat.not_lt_zero _)
  | succ n9 ih =>
    skip
    · intro i hi9 hm H locs ls hl w
      refine lv_iload_n S.1 S.2.1 dX8_readsText_12 rfl (lv_at hl 1 rfl) ?_
      refine lv_sipush (v := nI 128) S.1 S.2.1 dX8_readsText_13 (by decide +kernel) ?_
      refine nv_icmp_ge S (by omega) (by omega) (tgt := 44) dX8_readsText_16 (by decide) (fun h_9 => ?_) (fun h_9 => ?_)
      · skip
        have w := w.as (ws' := mdM Z b X sv sd sm th tl 0 0 nu t (rE r 128)) (by rw [show i = 128 by omega])
        refine lv_aload_n S.1 S.2.1 dX8_readsText_44 rfl (lv_at hl 0 rfl) ?_
        refine nv_rVi (rest := []) S w hl.1 (c_X8_here l D Z b X sv sd sm th tl 0 0 nu t (rE r 128) ht (by omega) (by omega)) [0, 1, 2, 3, 4, 5] rfl rfl gX8_readsText_X8_here rfl hdV_X8_here ⟨Nat.le_of_ble_eq_true rfl, Nat.le_of_ble_eq_true rfl⟩ (q0 := 0) rfl rfl rfl rfl (Nat.le_of_ble_eq_true rfl) ⟨Nat.zero_le _, Nat.zero_le _⟩ dX8_readsText_45 (fun H locs w => ?_)
        refine lv_i2l (v := (nI (cx t tl 0) - 1).toInt64) S.1 S.2.1 dX8_readsText_48 rfl ?_
        refine lv_ldc2 (v := 48) S.1 S.2.1 S.2.2.2.1 (S.2.2.2.2 _ (by decide +kernel)) dX8_readsText_49 ?_
        refine lv_ldc2 (v := 53) S.1 S.2.1 S.2.2.2.1 (S.2.2.2.2 _ (by decide +kernel)) dX8_readsText_52 ?_
        refine nv_pSi (rest := []) S w hl.1 (c_X8_inS l D Z (cx t tl 0) 48 53 (by omega) (by omega) (by omega)) gX8_readsText_X8_in rfl hdS_X8_in ⟨Nat.le_of_ble_eq_true rfl, Nat.le_of_ble_eq_true rfl⟩ rfl rfl (Nat.le_of_ble_eq_true rfl) ⟨Nat.zero_le _, Nat.zero_le _⟩ dX8_readsText_55 (fun H locs w => ?_)
        refine nv_if_neB S (tgt := 63) dX8_readsText_58 (by decide) (fun h_10 => ?_) (fun h_10 => ?_)
        · skip
          refine lv_aload_n S.1 S.2.1 dX8_readsText_63 rfl (lv_at hl 0 rfl) ?_
          refine lv_dup S.1 S.2.1 dX8_readsText_64 rfl ?_
          refine nv_get S w (C := RX8) (T := TX8) (N := 11) hn_X8_readsText_8 0 rfl rfl 7 (by decide) (List.mem_of_getElem? (i := 1) rfl) (v := vI 0) rfl dX8_readsText_65 ?_
          refine lv_iconst (v := nI 1) S.1 S.2.1 dX8_readsText_68 (ofInt_nI 1) ?_
          refine nv_iadd S dX8_readsText_69 ?_
          refine W.eq (g2 := F0 m 70 ls [vI 1, .ref (b 0)]) rfl ?_
          refine nv_put S w (C := RX8) (T := TX8) (N := 11) hn_X8_readsText_8 tyX8_ok nmX8 0 rfl rfl 7 (by decide) (List.mem_of_getElem? (i := 1) rfl) rfl rfl (Nat.le_of_ble_eq_true rfl) (ws' := [(b 0, .inr (7, [.ref (b 1), .ref (b 2), .ref (b 3), vI sm, vI th, .ref (b 4), vI tl, vI 1, .ref (b 5), vI 0, vI nu])), (b 1, .inl (Z 0, 853, .inl (ar 853 (enc X)))), (b 2, .inl (Z 0, 3412, .inl (ar 3412 sv))), (b 3, .inl (Z 0, 853, .inl (ar 853 sd))), (b 4, .inl (Z 0, 100, .inl (ar 100 t))), (b 5, .inl (Z 0, 128, .inl (ar 128 (rE r 128))))]) rfl dX8_readsText_70 (fun H locs w => ?_)
          have w := w.as (ws' := mdM Z b X sv sd sm th tl 1 0 nu t (rE r 128)) rfl
          refine lv_aload_n S.1 S.2.1 dX8_readsText_73 rfl (lv_at hl 0 rfl) ?_
          refine lv_bipush (v := nI 58) S.1 S.2.1 dX8_readsText_74 (by decide +kernel) ?_
          refine nv_cVi (rest := []) (ws' := mdM Z b X sv sd sm th tl (1 + bP (cx t tl 1 = 58 + 1)) 0 nu t (rE r 128)) S w hl.1 (c_X8_passes l D Z b X sv sd sm th tl 1 0 nu t (rE r 128) 58 ht (by omega) (by omega) (by omega)) [0, 1, 2, 3, 4, 5] rfl rfl rfl rfl gX8_readsText_X8_passes rfl hdV_X8_passes ⟨Nat.le_of_ble_eq_true rfl, Nat.le_of_ble_eq_true rfl⟩ (q0 := 0) rfl rfl rfl rfl (Nat.le_of_ble_eq_true rfl) ⟨Nat.zero_le _, Nat.zero_le _⟩ dX8_readsText_76 (fun H locs w => ?_)
          refine nv_if_eqB S (tgt := 93) dX8_readsText_79 (by decide) (fun h_11 => ?_) (fun h_11 => ?_)
          · skip
            have w := w.as (ws' := mdM Z b X sv sd sm th tl 1 0 nu t (rE r 128)) (by rw [bP_f h_11]; try rfl)
            refine lv_iconst (v := nI 0) S.1 S.2.1 dX8_readsText_93 (ofInt_nI 0) ?_
            refine lv_istore_n (lv' := [(1, vI 0), (0, .ref (b 0))]) S.1 S.2.1 dX8_readsText_94 rfl hl (by decide) rfl (fun ls hl => ?_)
            exact k_X8_readsText_b l D Z b X sv sd sm th tl pl ro nu t r ht htl S hr hlocks _ 0 0 1 nu (rE r 128) (by omega) (by omega) (by omega) (by omega) (by rw [rqt_b (c := cx t tl) (show 49 ≤ cx t tl 0 ∧ cx t tl 0 ≤ 54 by omega) h_11]) (Nat.lt_succ_self _) _ _ _ (lv_sub hl [1, 0] rfl) w
          · skip
            have w := w.as (ws' := mdM Z b X sv sd sm th tl (1 + 1) 0 nu t (rE r 128)) (by rw [bP_t h_11]; try rfl)
            have w := w.as (ws' := mdM Z b X sv sd sm th tl 2 0 nu t (rE r 128)) rfl
            refine lv_aload_n S.1 S.2.1 dX8_readsText_82 rfl (lv_at hl 0 rfl) ?_
            refine nv_cVi (rest := []) (ws' := mdM Z b X sv sd sm th tl ((rqr (cx t tl) 0 4 0 2 nu (rE r 128)).2.1) (0 + (rqr (cx t tl) 0 4 0 2 nu (rE r 128)).1) ((rqr (cx t tl) 0 4 0 2 nu (rE r 128)).2.2.1) t ((rqr (cx t tl) 0 4 0 2 nu (rE r 128)).2.2.2)) S w hl.1 (c_X8_readsRow l D Z b X sv sd sm th tl 2 0 nu t (rE r 128) ht (by omega) (by omega) (by omega)) [0, 1, 2, 3, 4, 5] rfl rfl rfl rfl gX8_readsText_X8_readsRow rfl hdV_X8_readsRow ⟨Nat.le_of_ble_eq_true rfl, Nat.le_of_ble_eq_true rfl⟩ (q0 := 0) rfl rfl rfl rfl (Nat.le_of_ble_eq_true rfl) ⟨Nat.zero_le _, Nat.zero_le _⟩ dX8_readsText_83 (fun H locs w => ?_)
            refine nv_if_eq S (by omega) (tgt := 93) dX8_readsText_86 (by decide) (fun h_12 => ?_) (fun h_12 => ?_)
            · skip
              refine lv_iconst (v := nI 0) S.1 S.2.1 dX8_readsText_93 (ofInt_nI 0) ?_
              refine lv_istore_n (lv' := [(1, vI 0), (0, .ref (b 0))]) S.1 S.2.1 dX8_readsText_94 rfl hl (by decide) rfl (fun ls hl => ?_)
              exact k_X8_readsText_b l D Z b X sv sd sm th tl pl ro nu t r ht htl S hr hlocks _ 0 (0 + (rqr (cx t tl) 0 4 0 2 nu (rE r 128)).1) ((rqr (cx t tl) 0 4 0 2 nu (rE r 128)).2.1) ((rqr (cx t tl) 0 4 0 2 nu (rE r 128)).2.2.1) ((rqr (cx t tl) 0 4 0 2 nu (rE r 128)).2.2.2) (by omega) (by omega) (by omega) (by omega) (by have hq : (rqr (cx t tl) 0 4 0 2 nu (rE r 128)).1 = 0 := (by omega); rw [rqt_c (c := cx t tl) (show 49 ≤ cx t tl 0 ∧ cx t tl 0 ≤ 54 by omega) h_11, hq]) (Nat.lt_succ_self _) _ _ _ (lv_sub hl [1, 0] rfl) w
            · skip
              refine lv_iconst (v := nI 1) S.1 S.2.1 dX8_readsText_89 (ofInt_nI 1) ?_
              refine lv_goto (tgt := 94) S.1 S.2.1 dX8_readsText_90 (by decide) ?_
              refine lv_istore_n (lv' := [(1, vI 1), (0, .ref (b 0))]) S.1 S.2.1 dX8_readsText_94 rfl hl (by decide) rfl (fun ls hl => ?_)
              exact k_X8_readsText_b l D Z b X sv sd sm th tl pl ro nu t r ht htl S hr hlocks _ 1 (0 + (rqr (cx t tl) 0 4 0 2 nu (rE r 128)).1) ((rqr (cx t tl) 0 4 0 2 nu (rE r 128)).2.1) ((rqr (cx t tl) 0 4 0 2 nu (rE r 128)).2.2.1) ((rqr (cx t tl) 0 4 0 2 nu (rE r 128)).2.2.2) (by omega) (by omega) (by omega) (by omega) (by have hq : (rqr (cx t tl) 0 4 0 2 nu (rE r 128)).1 = 1 := (by omega); rw [rqt_c (c := cx t tl) (show 49 ≤ cx t tl 0 ∧ cx t tl 0 ≤ 54 by omega) h_11, hq]) (Nat.lt_succ_self _) _ _ _ (lv_sub hl [1, 0] rfl) w
        · skip
          refine lv_iconst (v := nI 0) S.1 S.2.1 dX8_readsText_61 (ofInt_nI 0) ?_
          exact nv_iret S w hr hlocks (nI_bool (by decide)) (by rw [rqt_a (c := cx t tl) (show ¬ (49 ≤ cx t tl 0 ∧ cx t tl 0 ≤ 54) by omega)]) (by rw [rqt_a (c := cx t tl) (show ¬ (49 ≤ cx t tl 0 ∧ cx t tl 0 ≤ 54) by omega)]; try rfl) dX8_readsText_62
      · skip
        refine lv_aload_n S.1 S.2.1 dX8_readsText_19 rfl (lv_at hl 0 rfl) ?_
        refine nv_get S w (C := RX8) (T := TX8) (N := 11) hn_X8_readsText_8 0 rfl rfl 8 (by decide) (List.mem_of_getElem? (i := 3) rfl) (v := .ref (b 5)) rfl dX8_readsText_20 ?_
        refine lv_iload_n S.1 S.2.1 dX8_readsText_23 rfl (lv_at hl 1 rfl) ?_
        refine lv_iload_n S.1 S.2.1 dX8_readsText_24 rfl (lv_at hl 1 rfl) ?_
        refine lv_iconst (v := nI 4) S.1 S.2.1 dX8_readsText_25 (ofInt_nI 4) ?_
        refine nv_irem S (by omega) (by omega) (by omega) dX8_readsText_26 ?_
        refine lv_iconst (v := nI 1) S.1 S.2.1 dX8_readsText_27 (ofInt_nI 1) ?_
        refine nv_icmp_ne S (by omega) (by omega) (tgt := 36) dX8_readsText_28 (by decide) (fun h_13 => ?_) (fun h_13 => ?_)
        · skip
          refine lv_iconst (v := nI 0) S.1 S.2.1 dX8_readsText_36 (ofInt_nI 0) ?_
          refine nv_iast S w (i := i) (x := 0) (g := (rE r i)) 5 rfl (by omega) (by decide) (ws' := [(b 0, .inr (7, [.ref (b 1), .ref (b 2), .ref (b 3), vI sm, vI th, .ref (b 4), vI tl, vI 0, .ref (b 5), vI 0, vI nu])), (b 1, .inl (Z 0, 853, .inl (ar 853 (enc X)))), (b 2, .inl (Z 0, 3412, .inl (ar 3412 sv))), (b 3, .inl (Z 0, 853, .inl (ar 853 sd))), (b 4, .inl (Z 0, 100, .inl (ar 100 t))), (b 5, .inl (Z 0, 128, .inl (ar 128 (un (rE r i) i 0))))]) rfl dX8_readsText_37 (fun H locs w => ?_)
          refine lv_iinc (v := nI (i + 1)) (lv' := [(1, vI (i + 1)), (0, .ref (b 0))]) S.1 S.2.1 dX8_readsText_38 hl (k := 1) rfl (nI_incI i 1) (by decide) rfl (fun ls hl => ?_)
          refine lv_goto (tgt := 12) S.1 S.2.1 dX8_readsText_41 (by decide) ?_
          exact ih (i + 1) (by omega) (by omega) _ _ _ (lv_sub hl [1, 0] rfl) (w.as (by rw [← rE_s (x := 0) (by rw [if_neg h_13])]; rfl))
        · skip
          refine lv_bipush (v := nI 15) S.1 S.2.1 dX8_readsText_31 (by decide +kernel) ?_
          refine lv_goto (tgt := 37) S.1 S.2.1 dX8_readsText_33 (by decide) ?_
          refine nv_iast S w (i := i) (x := 15) (g := (rE r i)) 5 rfl (by omega) (by decide) (ws' := [(b 0, .inr (7, [.ref (b 1), .ref (b 2), .ref (b 3), vI sm, vI th, .ref (b 4), vI tl, vI 0, .ref (b 5), vI 0, vI nu])), (b 1, .inl (Z 0, 853, .inl (ar 853 (enc X)))), (b 2, .inl (Z 0, 3412, .inl (ar 3412 sv))), (b 3, .inl (Z 0, 853, .inl (ar 853 sd))), (b 4, .inl (Z 0, 100, .inl (ar 100 t))), (b 5, .inl (Z 0, 128, .inl (ar 128 (un (rE r i) i 15))))]) rfl dX8_readsText_37 (fun H locs w => ?_)
          refine lv_iinc (v := nI (i + 1)) (lv' := [(1, vI (i + 1)), (0, .ref (b 0))]) S.1 S.2.1 dX8_readsText_38 hl (k := 1) rfl (nI_incI i 1) (by decide) rfl (fun ls hl => ?_)
          refine lv_goto (tgt := 12) S.1 S.2.1 dX8_readsText_41 (by decide) ?_
          exact ih (i + 1) (by omega) (by omega) _ _ _ (lv_sub hl [1, 0] rfl) (w.as (by rw [← rE_s (x := 15) (by rw [if_pos h_13])]; rfl))
set_option maxRecDepth 100000 in
set_option maxHeartbeats 4000000 in
theorem c_X8_readsText (l : Launch) (D : va_G) (Z : Nat → ClassId) (b : Nat → Nat) (X : ST) (sv sd : Nat → Nat) (sm th tl pl ro nu : Nat) (t r : Nat → Nat) (ht : ∀ j, j < 100 → t j < 128) (htl : tl ≤ 100) : Ci l yX8_readsText wsX8_readsText 4 90 D Z [.ref (b 0)] (mdM Z b X sv sd sm th tl pl ro nu t r) (nI (rqt (cx t tl) tl nu r).1) (mdM Z b X sv sd sm th tl ((rqt (cx t tl) tl nu r).2.1) ((rqt (cx t tl) tl nu r).2.2.1) ((rqt (cx t tl) tl nu r).2.2.2.1) t ((rqt (cx t tl) tl nu r).2.2.2.2)) := by
  refine ne_i (cc := cX8_readsText) (maxL := 2) (by decide +kernel) rfl (Nat.le_of_ble_eq_true rfl) (fun p e s m args below meth c A ls (S : CallFix p m c cX8_readsText 2 s args wsX8_readsText RX8) hr hlocks hl w => ?_)
  have hc0 := cx_le (i := 0) ht htl
  have hc1 := cx_le (i := 1) ht htl
  have hq0 := rqr_b (c := cx t tl) 0 4 0 2 nu (rE r 128)
  have hq1 := rqr_1 (c := cx t tl) 0 4 0 2 nu (rE r 128)
  have hl : lv_has ls 2 [(0, .ref (b 0))] := hl
  refine lv_aload_n S.1 S.2.1 dX8_readsText_0 rfl (lv_at hl 0 rfl) ?_
  refine lv_iconst (v := nI 0) S.1 S.2.1 dX8_readsText_1 (ofInt_nI 0) ?_
  refine nv_put S w (C := RX8) (T := TX8) (N := 11) hn_X8_readsText_8 tyX8_ok nmX8 0 rfl rfl 7 (by decide) (List.mem_of_getElem? (i := 1) rfl) rfl rfl (Nat.le_of_ble_eq_true rfl) (ws' := [(b 0, .inr (7, [.ref (b 1), .ref (b 2), .ref (b 3), vI sm, vI th, .ref (b 4), vI tl, vI 0, .ref (b 5), vI ro, vI nu])), (b 1, .inl (Z 0, 853, .inl (ar 853 (enc X)))), (b 2, .inl (Z 0, 3412, .inl (ar 3412 sv))), (b 3, .inl (Z 0, 853, .inl (ar 853 sd))), (b 4, .inl (Z 0, 100, .inl (ar 100 t))), (b 5, .inl (Z 0, 128, .inl (ar 128 r)))]) rfl dX8_readsText_2 (fun H locs w => ?_)
  refine lv_aload_n S.1 S.2.1 dX8_readsText_5 rfl (lv_at hl 0 rfl) ?_
  refine lv_iconst (v := nI 0) S.1 S.2.1 dX8_readsText_6 (ofInt_nI 0) ?_
  refine nv_put S w (C := RX8) (T := TX8) (N := 11) hn_X8_readsText_8 tyX8_ok nmX8 0 rfl rfl 9 (by decide) (List.mem_of_getElem? (i := 2) rfl) rfl rfl (Nat.le_of_ble_eq_true rfl) (ws' := [(b 0, .inr (7, [.ref (b 1), .ref (b 2), .ref (b 3), vI sm, vI th, .ref (b 4), vI tl, vI 0, .ref (b 5), vI 0, vI nu])), (b 1, .inl (Z 0, 853, .inl (ar 853 (enc X)))), (b 2, .inl (Z 0, 3412, .inl (ar 3412 sv))), (b 3, .inl (Z 0, 853, .inl (ar 853 sd))), (b 4, .inl (Z 0, 100, .inl (ar 100 t))), (b 5, .inl (Z 0, 128, .inl (ar 128 r)))]) rfl dX8_readsText_7 (fun H locs w => ?_)
  refine lv_iconst (v := nI 0) S.1 S.2.1 dX8_readsText_10 (ofInt_nI 0) ?_
  refine lv_istore_n (lv' := [(1, vI 0), (0, .ref (b 0))]) S.1 S.2.1 dX8_readsText_11 rfl hl (by decide) rfl (fun ls hl => ?_)
  exact k_X8_readsText_a l D Z b X sv sd sm th tl pl ro nu t r ht htl S hr hlocks _ 0 (by omega) (Nat.lt_succ_self _) _ _ _ (lv_sub hl [1, 0] rfl) (w.as (by rw [rE_0]; rfl))
