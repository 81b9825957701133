theorem enc_pat {X : ST} {f : Nat → Nat} {p n : Nat} {k : Nat → Nat → Nat} (hp : p < 6) (h : RK f k) (j : Nat) : un (cpA f (enc X) (85 + 4 * cix p 0 0) 128) (15 + p) n j = enc (stPat X p n k) j := by
  have hc : 85 + 4 * cix p 0 0 = 85 + 128 * p := by unfold cix; omega
  rw [hc]
  by_cases h1 : j = 15 + p
  · rw [h1, un_eq, enc_r hp]
    show n = un X.1.2.1 p n p
    rw [un_eq]
  · rw [un_ne h1]
    unfold cpA
    by_cases h2 : 85 + 128 * p ≤ j ∧ j < 85 + 128 * p + 128
    · rw [if_pos h2]
      obtain ⟨m, q, hq, hm, hj⟩ : ∃ m q, q < 4 ∧ m < 32 ∧ j = 85 + 4 * (32 * p + m) + q := ⟨(j - 85) / 4 - 32 * p, (j - 85) % 4, by omega, by omega, by omega⟩
      rw [hj, enc_c hq, show 85 + 4 * (32 * p + m) + q - (85 + 128 * p) = 4 * m + q by omega, h m q hm hq]
      show k m q = (if 32 * p ≤ 32 * p + m ∧ 32 * p + m < 32 * p + 32 then k (32 * p + m - 32 * p) else X.1.1 (32 * p + m)) q
      rw [if_pos (by omega), show 32 * p + m - 32 * p = m by omega]
    · rw [if_neg h2]
      by_cases h3 : j < 85
      · unfold enc
        repeat' split
        all_goals first
          | rfl
          | (show _ = un X.1.2.1 p n (j - 15); rw [un_ne (by omega)])
          | (exfalso; omega)
      · unfold enc
        rw [if_neg (by omega), if_neg (by omega), if_neg (by omega), if_neg (by omega), if_neg (by omega), if_neg (by omega), if_neg (by omega), if_neg (by omega), if_neg (by omega), if_neg (by omega)]
        show _ = (if 32 * p ≤ (j - 85) / 4 ∧ (j - 85) / 4 < 32 * p + 32 then k ((j - 85) / 4 - 32 * p) else X.1.1 ((j - 85) / 4)) ((j - 85) % 4)
        rw [if_neg (by omega)]
theorem rqt_d {c : Nat → Nat} {n v : Nat} {r : Nat → Nat} (h : (rqt c n v r).1 ≠ 0) : 49 ≤ c 0 ∧ c 0 ≤ 54 := by
  by_cases h0 : 49 ≤ c 0 ∧ c 0 ≤ 54
  · exact h0
  · rw [rqt_a h0] at h; exact absurd rfl h

theorem hn_X8_parse_8 : ∀ w ∈ wsX80, w ∈ wsX8_parse := by decide +kernel
theorem hdV_X8_readsText : yX8_readsText.cls = RX8 ∧ yX8_readsText.cls ≠ "java/lang/invoke/MethodHandle" ∧ yX8_readsText.cls ≠ "java/lang/invoke/VarHandle" ∧ (parseMethodDescriptor yX8_readsText.desc).map (fun d => d.parameters.length) = some 0 := by decide +kernel
set_option maxRecDepth 100000 in
set_option maxHeartbeats 4000000 in
theorem k_X8_parse (l : Launch) (D : va_G) (Z : Nat → ClassId) (b : Nat → Nat) (X : ST) (sv sd : Nat → Nat) (sm th tl pl ro nu : Nat) (t r : Nat → Nat) (pa rr : Nat) (ht : ∀ j, j < 100 → t j < 128) (htl : tl ≤ 100) (hsm : sm ≤ 4) {p : Program} {e : Env} {s : State} {m : MethodId} {args : Array Value} {below : List Frame} {meth : Method} {c : Code} {A : Nat → Prop} (S : CallFix p m c cX8_parse 3 s args wsX8_parse RX8) (hr : meth.sig.returnType = (some .int)) (hlocks : meth.locks = false) : ∀ (n9 : Nat), (∀ (i : Nat) (hi9 : i ≤ 128) (hd0 : (rtd (cx t tl) pa rr).1 ≠ 0) (h49 : 49 ≤ cx t tl 0 ∧ cx t tl 0 ≤ 54) (hm : 128 - i < n9), ∀ (H : Heap) (locs : List Loc) (ls : Array Slot) (hl : lv_has ls 3 [(0, .ref (b 0)), (1, vI (cx t tl 0 - 49)), (2, vI i)]) (w : Wd D Z A s ([(b 0, .inr (7, [.ref (b 1), .ref (b 2), .ref (b 3), vI (svN sm + 1), vI th, .ref (b 4), vI tl, vI ((rqt (cx t tl) tl nu r).2.1), .ref (b 5), vI ((rqt (cx t tl) tl nu r).2.2.1), vI ((rqt (cx t tl) tl nu r).2.2.2.1)])), (b 1, .inl (Z 0, 853, .inl (ar 853 (cpA ((rqt (cx t tl) tl nu r).2.2.2.2) (enc X) (85 + 4 * cix (cx t tl 0 - 49) 0 0) i)))), (b 2, .inl (Z 0, 3412, .inl (ar 3412 (svS sv sm X)))), (b 3, .inl (Z 0, 853, .inl (ar 853 sd))), (b 4, .inl (Z 0, 100, .inl (ar 100 t))), (b 5, .inl (Z 0, 128, .inl (ar 128 ((rqt (cx t tl) tl nu r).2.2.2.2))))]) H locs), W p l e (rmO 5 111) s m args below meth c H locs 0 0 (Qi below D Z A args s (prA (rtd (cx t tl) pa rr)) (mdM Z b (ifz (rtd (cx t tl) pa rr).1  X (stPat X (rtd (cx t tl) pa rr).2.2.1 (rtd (cx t tl) pa rr).2.2.2.1 (rtd (cx t tl) pa rr).2.2.2.2)) (ifz (rtd (cx t tl) pa rr).1  sv (svS sv sm X)) sd (ifz (rtd (cx t tl) pa rr).1  sm (svN sm + 1)) 0 tl ((rqt (cx t tl) tl nu r).2.1) ((rqt (cx t tl) tl nu r).2.2.1) ((rqt (cx t tl) tl nu r).2.2.2.1) t ((rqt (cx t tl) tl nu r).2.2.2.2))) (F0 m 35 ls [])) := by
  intro n9
  have hqt := rqt_1 (t := t) (n := tl) (v := nu) (pa := pa) (ro := rr) (r := r)
  have hr1 := rtd_1 (c := cx t tl) (pa := pa) (ro := rr)
  have hqt1 := hqt.1
  induction n9 with
  | zero => intro i hi9 hd0 h49 hm; exact absurd hm (Nat.not_lt_zero _)
  | succ n9 ih =>
    skip
    · intro i hi9 hd0 h49 hm H locs ls hl w
      have hok := rtd_ok hd0
      have hcx : cix (cx t tl 0 - 49) 0 0 = 32 * (cx t tl 0 - 49) := by unfold cix; omega
      refine lv_iload_n S.1 S.2.1 dX8_parse_35 rfl (lv_at hl 2 rfl) ?_
      refine lv_sipush (v := nI 128) S.1 S.2.1 dX8_parse_36 (by decide +kernel) ?_
      refine nv_icmp_ge S (by omega) (by omega) (tgt := 67) dX8_parse_39 (by decide) (fun h_1 => ?_) (fun h_1 => ?_)
      · skip
        refine lv_aload_n S.1 S.2.1 dX8_parse_67 rfl (lv_at hl 0 rfl) ?_
        refine nv_get S w (C := RX8) (T := TX8) (N := 11) hn_X8_parse_8 0 rfl rfl 0 (by decide) (List.mem_of_getElem? (i := 3) rfl) (v := .ref (b 1)) rfl dX8_parse_68 ?_
        refine lv_bipush (v := nI 15) S.1 S.2.1 dX8_parse_71 (by decide +kernel) ?_
        refine lv_iload_n S.1 S.2.1 dX8_parse_73 rfl (lv_at hl 1 rfl) ?_
        refine nv_iadd S dX8_parse_74 ?_
        refine lv_aload_n S.1 S.2.1 dX8_parse_75 rfl (lv_at hl 0 rfl) ?_
        refine nv_get S w (C := RX8) (T := TX8) (N := 11) hn_X8_parse_8 0 rfl rfl 9 (by decide) (List.mem_of_getElem? (i := 5) rfl) (v := vI ((rqt (cx t tl) tl nu r).2.2.1)) rfl dX8_parse_76 ?_
        refine nv_iast S w (i := (15 + (cx t tl 0 - 49))) (x := ((rqt (cx t tl) tl nu r).2.2.1)) (g := (cpA ((rqt (cx t tl) tl nu r).2.2.2.2) (enc X) (85 + 4 * cix (cx t tl 0 - 49) 0 0) i)) 1 rfl (by omega) (by decide) (ws' := [(b 0, .inr (7, [.ref (b 1), .ref (b 2), .ref (b 3), vI (svN sm + 1), vI th, .ref (b 4), vI tl, vI ((rqt (cx t tl) tl nu r).2.1), .ref (b 5), vI ((rqt (cx t tl) tl nu r).2.2.1), vI ((rqt (cx t tl) tl nu r).2.2.2.1)])), (b 1, .inl (Z 0, 853, .inl (ar 853 (un (cpA ((rqt (cx t tl) tl nu r).2.2.2.2) (enc X) (85 + 4 * cix (cx t tl 0 - 49) 0 0) i) (15 + (cx t tl 0 - 49)) ((rqt (cx t tl) tl nu r).2.2.1))))), (b 2, .inl (Z 0, 3412, .inl (ar 3412 (svS sv sm X)))), (b 3, .inl (Z 0, 853, .inl (ar 853 sd))), (b 4, .inl (Z 0, 100, .inl (ar 100 t))), (b 5, .inl (Z 0, 128, .inl (ar 128 ((rqt (cx t tl) tl nu r).2.2.2.2))))]) rfl dX8_parse_79 (fun H locs w => ?_)
        have w := w.as (ws' := mdM Z b (stPat X (cx t tl 0 - 49) (rtd (cx t tl) pa rr).2.2.2.1 (rtd (cx t tl) pa rr).2.2.2.2) (svS sv sm X) sd (svN sm + 1) th tl ((rqt (cx t tl) tl nu r).2.1) ((rqt (cx t tl) tl nu r).2.2.1) ((rqt (cx t tl) tl nu r).2.2.2.1) t ((rqt (cx t tl) tl nu r).2.2.2.2)) (mdM_f (fun j _ => by rw [show i = 128 by omega, (hqt.2.2 hd0).1]; exact enc_pat (by omega) (hqt.2.2 hd0).2 j) (fun j _ => rfl) (fun j _ => rfl))
        refine lv_aload_n S.1 S.2.1 dX8_parse_80 rfl (lv_at hl 0 rfl) ?_
        refine lv_iload_n S.1 S.2.1 dX8_parse_81 rfl (lv_at hl 1 rfl) ?_
        refine nv_cVi (rest := []) (ws' := mdM Z b (stPat X (cx t tl 0 - 49) (rtd (cx t tl) pa rr).2.2.2.1 (rtd (cx t tl) pa rr).2.2.2.2) (svS sv sm X) sd (svN sm + 1) 0 tl ((rqt (cx t tl) tl nu r).2.1) ((rqt (cx t tl) tl nu r).2.2.1) ((rqt (cx t tl) tl nu r).2.2.2.1) t ((rqt (cx t tl) tl nu r).2.2.2.2)) S w hl.1 (c_X8_fine l D Z b (stPat X (cx t tl 0 - 49) (rtd (cx t tl) pa rr).2.2.2.1 (rtd (cx t tl) pa rr).2.2.2.2) (svS sv sm X) sd (svN sm + 1) th tl ((rqt (cx t tl) tl nu r).2.1) ((rqt (cx t tl) tl nu r).2.2.1) ((rqt (cx t tl) tl nu r).2.2.2.1) t ((rqt (cx t tl) tl nu r).2.2.2.2) (nI (cx t tl 0 - 49)) ) [0, 1, 2, 3, 4, 5] rfl rfl rfl rfl gX8_parse_X8_fine rfl hdV_X8_fine ⟨Nat.le_of_ble_eq_true rfl, Nat.le_of_ble_eq_true rfl⟩ (q0 := 0) rfl rfl rfl rfl (Nat.le_of_ble_eq_true rfl) ⟨Nat.zero_le _, Nat.zero_le _⟩ dX8_parse_82 (fun H locs w => ?_)
        exact nv_iret S w hr hlocks rfl (by unfold prA; rw [if_neg hd0, hok.1]) (by simp only [ifz_s hd0, hok.1]) dX8_parse_85
      · skip
        refine lv_aload_n S.1 S.2.1 dX8_parse_42 rfl (lv_at hl 0 rfl) ?_
        refine nv_get S w (C := RX8) (T := TX8) (N := 11) hn_X8_parse_8 0 rfl rfl 0 (by decide) (List.mem_of_getElem? (i := 3) rfl) (v := .ref (b 1)) rfl dX8_parse_43 ?_
        refine lv_iload_n S.1 S.2.1 dX8_parse_46 rfl (lv_at hl 1 rfl) ?_
        refine lv_iconst (v := nI 0) S.1 S.2.1 dX8_parse_47 (ofInt_nI 0) ?_
        refine lv_iconst (v := nI 0) S.1 S.2.1 dX8_parse_48 (ofInt_nI 0) ?_
        refine nv_pSi (rest := [.ref (b 1)]) S w hl.1 (c_X8_cellAt l D Z (cx t tl 0 - 49) 0 0 ) gX8_parse_X8_cellAt rfl hdS_X8_cellAt ⟨Nat.le_of_ble_eq_true rfl, Nat.le_of_ble_eq_true rfl⟩ rfl rfl (Nat.le_of_ble_eq_true rfl) ⟨Nat.zero_le _, Nat.zero_le _⟩ dX8_parse_49 (fun H locs w => ?_)
        refine lv_iload_n S.1 S.2.1 dX8_parse_52 rfl (lv_at hl 2 rfl) ?_
        refine nv_iadd S dX8_parse_53 ?_
        refine lv_aload_n S.1 S.2.1 dX8_parse_54 rfl (lv_at hl 0 rfl) ?_
        refine nv_get S w (C := RX8) (T := TX8) (N := 11) hn_X8_parse_8 0 rfl rfl 8 (by decide) (List.mem_of_getElem? (i := 4) rfl) (v := .ref (b 5)) rfl dX8_parse_55 ?_
        refine lv_iload_n S.1 S.2.1 dX8_parse_58 rfl (lv_at hl 2 rfl) ?_
        refine nv_iald S w (i := i) (g := ((rqt (cx t tl) tl nu r).2.2.2.2)) 5 rfl (by omega) (by decide) dX8_parse_59 ?_
        refine nv_iast S w (i := ((85 + 4 * cix (cx t tl 0 - 49) 0 0) + i)) (x := (((rqt (cx t tl) tl nu r).2.2.2.2) i)) (g := (cpA ((rqt (cx t tl) tl nu r).2.2.2.2) (enc X) (85 + 4 * cix (cx t tl 0 - 49) 0 0) i)) 1 rfl (by omega) (by decide) (ws' := [(b 0, .inr (7, [.ref (b 1), .ref (b 2), .ref (b 3), vI (svN sm + 1), vI th, .ref (b 4), vI tl, vI ((rqt (cx t tl) tl nu r).2.1), .ref (b 5), vI ((rqt (cx t tl) tl nu r).2.2.1), vI ((rqt (cx t tl) tl nu r).2.2.2.1)])), (b 1, .inl (Z 0, 853, .inl (ar 853 (un (cpA ((rqt (cx t tl) tl nu r).2.2.2.2) (enc X) (85 + 4 * cix (cx t tl 0 - 49) 0 0) i) ((85 + 4 * cix (cx t tl 0 - 49) 0 0) + i) (((rqt (cx t tl) tl nu r).2.2.2.2) i))))), (b 2, .inl (Z 0, 3412, .inl (ar 3412 (svS sv sm X)))), (b 3, .inl (Z 0, 853, .inl (ar 853 sd))), (b 4, .inl (Z 0, 100, .inl (ar 100 t))), (b 5, .inl (Z 0, 128, .inl (ar 128 ((rqt (cx t tl) tl nu r).2.2.2.2))))]) rfl dX8_parse_60 (fun H locs w => ?_)
        refine lv_iinc (v := nI (i + 1)) (lv' := [(2, vI (i + 1)), (0, .ref (b 0)), (1, vI (cx t tl 0 - 49))]) S.1 S.2.1 dX8_parse_61 hl (k := 2) rfl (nI_incI i 1) (by decide) rfl (fun ls hl => ?_)
        refine lv_goto (tgt := 35) S.1 S.2.1 dX8_parse_64 (by decide) ?_
        exact ih (i + 1) (by omega) hd0 h49 (by omega) _ _ _ (lv_sub hl [1, 2, 0] rfl) (w.as (by rw [cpA_s]))
set_option maxRecDepth 100000 in
set_option maxHeartbeats 4000000 in
theorem c_X8_parse (l : Launch) (D : va_G) (Z : Nat → ClassId) (b : Nat → Nat) (X : ST) (sv sd : Nat → Nat) (sm th tl pl ro nu : Nat) (t r : Nat → Nat) (pa rr : Nat) (ht : ∀ j, j < 100 → t j < 128) (htl : tl ≤ 100) (hsm : sm ≤ 4) : Ci l yX8_parse wsX8_parse 5 111 D Z [.ref (b 0)] (mdM Z b X sv sd sm th tl pl ro nu t r) (prA (rtd (cx t tl) pa rr)) (mdM Z b (ifz (rtd (cx t tl) pa rr).1  X (stPat X (rtd (cx t tl) pa rr).2.2.1 (rtd (cx t tl) pa rr).2.2.2.1 (rtd (cx t tl) pa rr).2.2.2.2)) (ifz (rtd (cx t tl) pa rr).1  sv (svS sv sm X)) sd (ifz (rtd (cx t tl) pa rr).1  sm (svN sm + 1)) 0 tl ((rqt (cx t tl) tl nu r).2.1) ((rqt (cx t tl) tl nu r).2.2.1) ((rqt (cx t tl) tl nu r).2.2.2.1) t ((rqt (cx t tl) tl nu r).2.2.2.2)) := by
  refine ne_i (cc := cX8_parse) (maxL := 3) (by decide +kernel) rfl (Nat.le_of_ble_eq_true rfl) (fun p e s m args below meth c A ls (S : CallFix p m c cX8_parse 3 s args wsX8_parse RX8) hr hlocks hl w => ?_)
  have hqt := rqt_1 (t := t) (n := tl) (v := nu) (pa := pa) (ro := rr) (r := r)
  have hr1 := rtd_1 (c := cx t tl) (pa := pa) (ro := rr)
  have hqt1 := hqt.1
  have hl : lv_has ls 3 [(0, .ref (b 0))] := hl
  refine lv_aload_n S.1 S.2.1 dX8_parse_0 rfl (lv_at hl 0 rfl) ?_
  refine nv_cVi (rest := []) (ws' := mdM Z b X sv sd sm th tl ((rqt (cx t tl) tl nu r).2.1) ((rqt (cx t tl) tl nu r).2.2.1) ((rqt (cx t tl) tl nu r).2.2.2.1) t ((rqt (cx t tl) tl nu r).2.2.2.2)) S w hl.1 (c_X8_readsText l D Z b X sv sd sm th tl pl ro nu t r ht (by omega)) [0, 1, 2, 3, 4, 5] rfl rfl rfl rfl gX8_parse_X8_readsText rfl hdV_X8_readsText ⟨Nat.le_of_ble_eq_true rfl, Nat.le_of_ble_eq_true rfl⟩ (q0 := 0) rfl rfl rfl rfl (Nat.le_of_ble_eq_true rfl) ⟨Nat.zero_le _, Nat.zero_le _⟩ dX8_parse_1 (fun H locs w => ?_)
  refine nv_if_ne S (by omega) (tgt := 19) dX8_parse_4 (by decide) (fun h_2 => ?_) (fun h_2 => ?_)
  · skip
    have hd0 : (rtd (cx t tl) pa rr).1 ≠ 0 := by rw [← hqt.1]; exact h_2
    have h49 := rqt_d (c := cx t tl) h_2
    have htl0 := @cx_pos t tl 0 (by omega)
    have ht0 : t 0 = cx t tl 0 - 1 := by unfold cx; rw [if_pos htl0]; omega
    refine lv_aload_n S.1 S.2.1 dX8_parse_19 rfl (lv_at hl 0 rfl) ?_
    refine nv_cVv (rest := []) (ws' := mdM Z b X (svS sv sm X) sd (svN sm + 1) th tl ((rqt (cx t tl) tl nu r).2.1) ((rqt (cx t tl) tl nu r).2.2.1) ((rqt (cx t tl) tl nu r).2.2.2.1) t ((rqt (cx t tl) tl nu r).2.2.2.2)) S w hl.1 (c_X8_save l D Z b X sv sd sm th tl ((rqt (cx t tl) tl nu r).2.1) ((rqt (cx t tl) tl nu r).2.2.1) ((rqt (cx t tl) tl nu r).2.2.2.1) t ((rqt (cx t tl) tl nu r).2.2.2.2) (by omega)) [0, 1, 2, 3, 4, 5] rfl rfl rfl rfl gX8_parse_X8_save rfl hdV_X8_save ⟨Nat.le_of_ble_eq_true rfl, Nat.le_of_ble_eq_true rfl⟩ (q0 := 0) rfl rfl rfl rfl (Nat.le_of_ble_eq_true rfl) ⟨Nat.zero_le _, Nat.zero_le _⟩ dX8_parse_20 (fun H locs w => ?_)
    refine lv_aload_n S.1 S.2.1 dX8_parse_23 rfl (lv_at hl 0 rfl) ?_
    refine nv_get S w (C := RX8) (T := TX8) (N := 11) hn_X8_parse_8 0 rfl rfl 5 (by decide) (List.mem_of_getElem? (i := 2) rfl) (v := .ref (b 4)) rfl dX8_parse_24 ?_
    refine lv_iconst (v := nI 0) S.1 S.2.1 dX8_parse_27 (ofInt_nI 0) ?_
    refine nv_iald S w (i := 0) (g := t) 4 rfl (by omega) (by decide) dX8_parse_28 ?_
    refine W.eq (g2 := F0 m 29 ls [vI (cx t tl 0 - 1)]) (by rw [ht0]) ?_
    refine lv_bipush (v := nI 48) S.1 S.2.1 dX8_parse_29 (by decide +kernel) ?_
    refine nv_isub S (by omega) dX8_parse_31 ?_
    refine W.eq (g2 := F0 m 32 ls [vI (cx t tl 0 - 49)]) (by rw [show cx t tl 0 - 1 - 48 = cx t tl 0 - 49 by omega]) ?_
    refine lv_istore_n (lv' := [(1, vI (cx t tl 0 - 49)), (0, .ref (b 0))]) S.1 S.2.1 dX8_parse_32 rfl hl (by decide) rfl (fun ls hl => ?_)
    refine lv_iconst (v := nI 0) S.1 S.2.1 dX8_parse_33 (ofInt_nI 0) ?_
    refine lv_istore_n (lv' := [(2, vI 0), (1, vI (cx t tl 0 - 49)), (0, .ref (b 0))]) S.1 S.2.1 dX8_parse_34 rfl hl (by decide) rfl (fun ls hl => ?_)
    exact k_X8_parse l D Z b X sv sd sm th tl pl ro nu t r pa rr ht htl hsm S hr hlocks _ 0 (by omega) hd0 h49 (Nat.lt_succ_self _) _ _ _ (lv_sub hl [2, 1, 0] rfl) (w.as (by rw [cpA_0]; rfl))
  · skip
    have hd0 : (rtd (cx t tl) pa rr).1 = 0 := by rw [← hqt.1]; exact h_2
    refine lv_aload_n S.1 S.2.1 dX8_parse_7 rfl (lv_at hl 0 rfl) ?_
    refine lv_bipush (v := -10) S.1 S.2.1 dX8_parse_8 (by decide +kernel) ?_
    refine lv_aload_n S.1 S.2.1 dX8_parse_10 rfl (lv_at hl 0 rfl) ?_
    refine nv_get S w (C := RX8) (T := TX8) (N := 11) hn_X8_parse_8 0 rfl rfl 7 (by decide) (List.mem_of_getElem? (i := 1) rfl) (v := vI ((rqt (cx t tl) tl nu r).2.1)) rfl dX8_parse_11 ?_
    refine lv_isub S.1 S.2.1 dX8_parse_14 ?_
    refine nv_cVi (rest := []) (ws' := mdM Z b X sv sd sm 0 tl ((rqt (cx t tl) tl nu r).2.1) ((rqt (cx t tl) tl nu r).2.2.1) ((rqt (cx t tl) tl nu r).2.2.2.1) t ((rqt (cx t tl) tl nu r).2.2.2.2)) S w hl.1 (c_X8_fine l D Z b X sv sd sm th tl ((rqt (cx t tl) tl nu r).2.1) ((rqt (cx t tl) tl nu r).2.2.1) ((rqt (cx t tl) tl nu r).2.2.2.1) t ((rqt (cx t tl) tl nu r).2.2.2.2) ((-10) - (nI ((rqt (cx t tl) tl nu r).2.1))) ) [0, 1, 2, 3, 4, 5] rfl rfl rfl rfl gX8_parse_X8_fine rfl hdV_X8_fine ⟨Nat.le_of_ble_eq_true rfl, Nat.le_of_ble_eq_true rfl⟩ (q0 := 0) rfl rfl rfl rfl (Nat.le_of_ble_eq_true rfl) ⟨Nat.zero_le _, Nat.zero_le _⟩ dX8_parse_15 (fun H locs w => ?_)
    exact nv_iret S w hr hlocks rfl (by unfold prA; rw [if_pos hd0, ← hqt.2.1]; try rfl) (by simp only [ifz_0 hd0]) dX8_parse_18
