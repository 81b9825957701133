def t1I (G : SG) (P : PG) (i : Nat) : PG := if P.1 2 = 0 then rdP G P i else goP (P.1 2) P i
theorem rdP_2 {G : SG} {P : PG} : ∀ n, (rdP G P n).1 2 = P.1 2
  | 0 => rfl
  | n + 1 => by
    have ih := rdP_2 (G := G) (P := P) n
    show (rdS G n (rdP G P n)).1 2 = _
    unfold rdS
    dsimp only
    split
    · rw [un_ne (by decide)]; exact ih
    · exact ih
theorem t2P_5 {G : SG} {P : PG} : (t2P G P).1 5 = P.1 5 := by
  have h5 := (t1P_4 (G := G) (P := P)).2
  unfold t2P
  simp [un_at, h5]

theorem hn_X8_tick_8 : ∀ w ∈ wsX80, w ∈ wsX8_tick := by decide +kernel
theorem hdV_X8_endsRow : yX8_endsRow.cls = RX8 ∧ yX8_endsRow.cls ≠ "java/lang/invoke/MethodHandle" ∧ yX8_endsRow.cls ≠ "java/lang/invoke/VarHandle" ∧ (parseMethodDescriptor yX8_endsRow.desc).map (fun d => d.parameters.length) = some 1 := by decide +kernel
theorem hdV_X8_hears : yX8_hears.cls = RX8 ∧ yX8_hears.cls ≠ "java/lang/invoke/MethodHandle" ∧ yX8_hears.cls ≠ "java/lang/invoke/VarHandle" ∧ (parseMethodDescriptor yX8_hears.desc).map (fun d => d.parameters.length) = some 1 := by decide +kernel
theorem hdV_X8_reads : yX8_reads.cls = RX8 ∧ yX8_reads.cls ≠ "java/lang/invoke/MethodHandle" ∧ yX8_reads.cls ≠ "java/lang/invoke/VarHandle" ∧ (parseMethodDescriptor yX8_reads.desc).map (fun d => d.parameters.length) = some 1 := by decide +kernel
theorem hdV_X8_goesOn : yX8_goesOn.cls = RX8 ∧ yX8_goesOn.cls ≠ "java/lang/invoke/MethodHandle" ∧ yX8_goesOn.cls ≠ "java/lang/invoke/VarHandle" ∧ (parseMethodDescriptor yX8_goesOn.desc).map (fun d => d.parameters.length) = some 1 := by decide +kernel
set_option maxRecDepth 100000 in
set_option maxHeartbeats 4000000 in
theorem k_X8_tick_c (l : Launch) (D : va_G) (Z : Nat → ClassId) (b : Nat → Nat) (X : ST) (sv sd : Nat → Nat) (sm th tl pl ro nu : Nat) (t r : Nat → Nat) (hs : SB X.1) (hp : PB X.1 X.2) {p : Program} {e : Env} {s : State} {m : MethodId} {args : Array Value} {below : List Frame} {meth : Method} {c : Code} {A : Nat → Prop} (S : CallFix p m c cX8_tick 3 s args wsX8_tick RX8) (hr : meth.sig.returnType = (some .boolean)) (hlocks : meth.locks = false) : ∀ (n9 : Nat), (∀ (i : Nat) (hi4 : i ≤ 4) (hc : (t2P X.1 X.2).1 3 ≤ (t2P X.1 X.2).1 2) (hm : 4 - i < n9), ∀ (H : Heap) (locs : List Loc) (ls : Array Slot) (hl : lv_has ls 3 [(0, .ref (b 0)), (1, vI 0), (2, vI i)]) (w : Wd D Z A s (mdM Z b (X.1, enP X.1.2.1 (t2P X.1 X.2) i) sv sd sm th tl pl ro nu t r) H locs), W p l e (rmO 4 90) s m args below meth c H locs 0 0 (Qi below D Z A args s (nI (bP ((tkP X.1 X.2).1 5 = X.2.1 5 + 1))) (mdM Z b (X.1, tkP X.1 X.2) sv sd sm th tl pl ro nu t r)) (F0 m 92 ls [])) := by
  intro n9
  have ht1 := t1P_PB hs hp
  have ht2 := t2P_PB hs hp
  obtain ⟨hp0, hp1, hp2, hp3, hp4, hvs⟩ := id hp
  have hg8 : ∀ i, i < 6 → X.1.2.1 i ≤ 8 := fun i hi => (hs.2.1 i hi).2
  have hpl := hs.2.2.2.1
  have ha1 := ht1.2.2.1
  obtain ⟨hq0, hq1, hq2, hq3, hq4, hq5⟩ := id ht2
  have hord := hs.2.2.2.2 ((t2P X.1 X.2).1 0) (by omega)
  have hrw := hs.2.1 _ (show X.1.2.2.1 ((t2P X.1 X.2).1 0) < 6 by omega)
  induction n9 with
  | zero => intro i hi4 hc hm; exact absurd hm (Nat.not_lt_zero _)
  | succ n9 ih =>
    skip
    · intro i hi4 hc hm H locs ls hl w
      refine lv_iload_n S.1 S.2.1 dX8_tick_92 rfl (lv_at hl 2 rfl) ?_
      refine lv_iconst (v := nI 4) S.1 S.2.1 dX8_tick_93 (ofInt_nI 4) ?_
      refine nv_icmp_ge S (by omega) (by omega) (tgt := 108) dX8_tick_94 (by decide) (fun h_1 => ?_) (fun h_1 => ?_)
      · skip
        have w := w.as (ws' := mdM Z b (X.1, ((t2P X.1 X.2).1, (enP X.1.2.1 (t2P X.1 X.2) 4).2)) sv sd sm th tl pl ro nu t r) (by rw [show i = 4 by omega, show enP X.1.2.1 (t2P X.1 X.2) 4 = ((t2P X.1 X.2).1, (enP X.1.2.1 (t2P X.1 X.2) 4).2) from Prod.ext (enP_1 4) rfl])
        refine lv_aload_n S.1 S.2.1 dX8_tick_108 rfl (lv_at hl 0 rfl) ?_
        refine nv_get S w (C := RX8) (T := TX8) (N := 11) hn_X8_tick_8 0 rfl rfl 0 (by decide) (List.mem_of_getElem? (i := 1) rfl) (v := .ref (b 1)) rfl dX8_tick_109 ?_
        refine lv_iconst (v := nI 2) S.1 S.2.1 dX8_tick_112 (ofInt_nI 2) ?_
        refine lv_iconst (v := nI 0) S.1 S.2.1 dX8_tick_113 (ofInt_nI 0) ?_
        refine nv_iast S w (i := 2) (x := 0) (g := (enc (X.1, ((t2P X.1 X.2).1, (enP X.1.2.1 (t2P X.1 X.2) 4).2)))) 1 rfl (by omega) (by decide) (ws' := [(b 0, .inr (7, [.ref (b 1), .ref (b 2), .ref (b 3), vI sm, vI th, .ref (b 4), vI tl, vI pl, .ref (b 5), vI ro, vI nu])), (b 1, .inl (Z 0, 853, .inl (ar 853 (un (enc (X.1, ((t2P X.1 X.2).1, (enP X.1.2.1 (t2P X.1 X.2) 4).2))) 2 0)))), (b 2, .inl (Z 0, 3412, .inl (ar 3412 sv))), (b 3, .inl (Z 0, 853, .inl (ar 853 sd))), (b 4, .inl (Z 0, 100, .inl (ar 100 t))), (b 5, .inl (Z 0, 128, .inl (ar 128 r)))]) rfl dX8_tick_114 (fun H locs w => ?_)
        have w := w.as (ws' := mdM Z b (X.1, (un (t2P X.1 X.2).1 2 0, (enP X.1.2.1 (t2P X.1 X.2) 4).2)) sv sd sm th tl pl ro nu t r) (mdM_e (un_g (by decide)))
        refine lv_aload_n S.1 S.2.1 dX8_tick_115 rfl (lv_at hl 0 rfl) ?_
        refine nv_get S w (C := RX8) (T := TX8) (N := 11) hn_X8_tick_8 0 rfl rfl 0 (by decide) (List.mem_of_getElem? (i := 1) rfl) (v := .ref (b 1)) rfl dX8_tick_116 ?_
        refine lv_iconst (v := nI 1) S.1 S.2.1 dX8_tick_119 (ofInt_nI 1) ?_
        refine lv_dup2_11 S.1 S.2.1 dX8_tick_120 rfl rfl ?_
        refine nv_iald S w (i := 1) (g := (enc (X.1, (un (t2P X.1 X.2).1 2 0, (enP X.1.2.1 (t2P X.1 X.2) 4).2)))) 1 rfl (by omega) (by decide) dX8_tick_121 ?_
        refine W.eq (g2 := F0 m 122 ls [vI ((t2P X.1 X.2).1 1), vI 1, .ref (b 1)]) rfl ?_
        refine lv_iconst (v := nI 1) S.1 S.2.1 dX8_tick_122 (ofInt_nI 1) ?_
        refine nv_iadd S dX8_tick_123 ?_
        refine nv_iast S w (i := 1) (x := (((t2P X.1 X.2).1 1) + 1)) (g := (enc (X.1, (un (t2P X.1 X.2).1 2 0, (enP X.1.2.1 (t2P X.1 X.2) 4).2)))) 1 rfl (by omega) (by decide) (ws' := [(b 0, .inr (7, [.ref (b 1), .ref (b 2), .ref (b 3), vI sm, vI th, .ref (b 4), vI tl, vI pl, .ref (b 5), vI ro, vI nu])), (b 1, .inl (Z 0, 853, .inl (ar 853 (un (enc (X.1, (un (t2P X.1 X.2).1 2 0, (enP X.1.2.1 (t2P X.1 X.2) 4).2))) 1 (((t2P X.1 X.2).1 1) + 1))))), (b 2, .inl (Z 0, 3412, .inl (ar 3412 sv))), (b 3, .inl (Z 0, 853, .inl (ar 853 sd))), (b 4, .inl (Z 0, 100, .inl (ar 100 t))), (b 5, .inl (Z 0, 128, .inl (ar 128 r)))]) rfl dX8_tick_124 (fun H locs w => ?_)
        have w := w.as (ws' := mdM Z b (X.1, (un (un (t2P X.1 X.2).1 2 0) 1 ((t2P X.1 X.2).1 1 + 1), (enP X.1.2.1 (t2P X.1 X.2) 4).2)) sv sd sm th tl pl ro nu t r) (mdM_e (un_g (by decide)))
        refine lv_aload_n S.1 S.2.1 dX8_tick_125 rfl (lv_at hl 0 rfl) ?_
        refine nv_get S w (C := RX8) (T := TX8) (N := 11) hn_X8_tick_8 0 rfl rfl 0 (by decide) (List.mem_of_getElem? (i := 1) rfl) (v := .ref (b 1)) rfl dX8_tick_126 ?_
        refine lv_iconst (v := nI 1) S.1 S.2.1 dX8_tick_129 (ofInt_nI 1) ?_
        refine nv_iald S w (i := 1) (g := (enc (X.1, (un (un (t2P X.1 X.2).1 2 0) 1 ((t2P X.1 X.2).1 1 + 1), (enP X.1.2.1 (t2P X.1 X.2) 4).2)))) 1 rfl (by omega) (by decide) dX8_tick_130 ?_
        refine W.eq (g2 := F0 m 131 ls [vI ((t2P X.1 X.2).1 1 + 1)]) rfl ?_
        refine lv_aload_n S.1 S.2.1 dX8_tick_131 rfl (lv_at hl 0 rfl) ?_
        refine nv_get S w (C := RX8) (T := TX8) (N := 11) hn_X8_tick_8 0 rfl rfl 0 (by decide) (List.mem_of_getElem? (i := 1) rfl) (v := .ref (b 1)) rfl dX8_tick_132 ?_
        refine lv_bipush (v := nI 15) S.1 S.2.1 dX8_tick_135 (by decide +kernel) ?_
        refine lv_aload_n S.1 S.2.1 dX8_tick_137 rfl (lv_at hl 0 rfl) ?_
        refine nv_rVi (rest := [vI 15, .ref (b 1), vI ((t2P X.1 X.2).1 1 + 1)]) S w hl.1 (c_X8_patternAtPlace l D Z b (X.1, (un (un (t2P X.1 X.2).1 2 0) 1 ((t2P X.1 X.2).1 1 + 1), (enP X.1.2.1 (t2P X.1 X.2) 4).2)) sv sd sm th tl pl ro nu t r (by show (t2P X.1 X.2).1 0 < 8; omega)) [0, 1, 2, 3, 4, 5] rfl rfl gX8_tick_X8_patternAtPlace rfl hdV_X8_patternAtPlace ⟨Nat.le_of_ble_eq_true rfl, Nat.le_of_ble_eq_true rfl⟩ (q0 := 0) rfl rfl rfl rfl (Nat.le_of_ble_eq_true rfl) ⟨Nat.zero_le _, Nat.zero_le _⟩ dX8_tick_138 (fun H locs w => ?_)
        refine W.eq (g2 := F0 m 141 ls [vI (X.1.2.2.1 ((t2P X.1 X.2).1 0)), vI 15, .ref (b 1), vI ((t2P X.1 X.2).1 1 + 1)]) rfl ?_
        refine nv_iadd S dX8_tick_141 ?_
        refine nv_iald S w (i := (15 + (X.1.2.2.1 ((t2P X.1 X.2).1 0)))) (g := (enc (X.1, (un (un (t2P X.1 X.2).1 2 0) 1 ((t2P X.1 X.2).1 1 + 1), (enP X.1.2.1 (t2P X.1 X.2) 4).2)))) 1 rfl (by omega) (by decide) dX8_tick_142 ?_
        refine W.eq (g2 := F0 m 143 ls [vI (X.1.2.1 (X.1.2.2.1 ((t2P X.1 X.2).1 0))), vI ((t2P X.1 X.2).1 1 + 1)]) (by rw [enc_r (by omega)]) ?_
        refine nv_icmp_lt S (by omega) (by omega) (tgt := 223) dX8_tick_143 (by decide) (fun h_2 => ?_) (fun h_2 => ?_)
        · skip
          refine lv_iload_n S.1 S.2.1 dX8_tick_223 rfl (lv_at hl 1 rfl) ?_
          exact nv_iret S w hr hlocks (nI_bool (by decide)) (by rw [show tkP X.1 X.2 = (un (un (t2P X.1 X.2).1 2 0) 1 ((t2P X.1 X.2).1 1 + 1), (enP X.1.2.1 (t2P X.1 X.2) 4).2) from by unfold tkP; rw [if_pos hc]; unfold erP; rw [if_neg (by omega)], bP_f (by show ¬ ((t2P X.1 X.2).1 5 = _); rw [t2P_5]; omega)]) (by rw [show tkP X.1 X.2 = (un (un (t2P X.1 X.2).1 2 0) 1 ((t2P X.1 X.2).1 1 + 1), (enP X.1.2.1 (t2P X.1 X.2) 4).2) from by unfold tkP; rw [if_pos hc]; unfold erP; rw [if_neg (by omega)]]) dX8_tick_224
        · skip
          refine lv_aload_n S.1 S.2.1 dX8_tick_146 rfl (lv_at hl 0 rfl) ?_
          refine nv_get S w (C := RX8) (T := TX8) (N := 11) hn_X8_tick_8 0 rfl rfl 0 (by decide) (List.mem_of_getElem? (i := 1) rfl) (v := .ref (b 1)) rfl dX8_tick_147 ?_
          refine lv_iconst (v := nI 1) S.1 S.2.1 dX8_tick_150 (ofInt_nI 1) ?_
          refine lv_iconst (v := nI 0) S.1 S.2.1 dX8_tick_151 (ofInt_nI 0) ?_
          refine nv_iast S w (i := 1) (x := 0) (g := (enc (X.1, (un (un (t2P X.1 X.2).1 2 0) 1 ((t2P X.1 X.2).1 1 + 1), (enP X.1.2.1 (t2P X.1 X.2) 4).2)))) 1 rfl (by omega) (by decide) (ws' := [(b 0, .inr (7, [.ref (b 1), .ref (b 2), .ref (b 3), vI sm, vI th, .ref (b 4), vI tl, vI pl, .ref (b 5), vI ro, vI nu])), (b 1, .inl (Z 0, 853, .inl (ar 853 (un (enc (X.1, (un (un (t2P X.1 X.2).1 2 0) 1 ((t2P X.1 X.2).1 1 + 1), (enP X.1.2.1 (t2P X.1 X.2) 4).2))) 1 0)))), (b 2, .inl (Z 0, 3412, .inl (ar 3412 sv))), (b 3, .inl (Z 0, 853, .inl (ar 853 sd))), (b 4, .inl (Z 0, 100, .inl (ar 100 t))), (b 5, .inl (Z 0, 128, .inl (ar 128 r)))]) rfl dX8_tick_152 (fun H locs w => ?_)
          have w := w.as (ws' := mdM Z b (X.1, ((un (un (t2P X.1 X.2).1 2 0) 1 0), (enP X.1.2.1 (t2P X.1 X.2) 4).2)) sv sd sm th tl pl ro nu t r) (mdM_e ((un_g (by decide)).trans (congrArg (fun f9 => enc (X.1, (f9, (enP X.1.2.1 (t2P X.1 X.2) 4).2))) un_un)))
          refine lv_aload_n S.1 S.2.1 dX8_tick_153 rfl (lv_at hl 0 rfl) ?_
          refine nv_get S w (C := RX8) (T := TX8) (N := 11) hn_X8_tick_8 0 rfl rfl 0 (by decide) (List.mem_of_getElem? (i := 1) rfl) (v := .ref (b 1)) rfl dX8_tick_154 ?_
          refine lv_iconst (v := nI 0) S.1 S.2.1 dX8_tick_157 (ofInt_nI 0) ?_
          refine lv_dup2_11 S.1 S.2.1 dX8_tick_158 rfl rfl ?_
          refine nv_iald S w (i := 0) (g := (enc (X.1, ((un (un (t2P X.1 X.2).1 2 0) 1 0), (enP X.1.2.1 (t2P X.1 X.2) 4).2)))) 1 rfl (by omega) (by decide) dX8_tick_159 ?_
          refine W.eq (g2 := F0 m 160 ls [vI ((t2P X.1 X.2).1 0), vI 0, .ref (b 1)]) rfl ?_
          refine lv_iconst (v := nI 1) S.1 S.2.1 dX8_tick_160 (ofInt_nI 1) ?_
          refine nv_iadd S dX8_tick_161 ?_
          refine nv_iast S w (i := 0) (x := (((t2P X.1 X.2).1 0) + 1)) (g := (enc (X.1, ((un (un (t2P X.1 X.2).1 2 0) 1 0), (enP X.1.2.1 (t2P X.1 X.2) 4).2)))) 1 rfl (by omega) (by decide) (ws' := [(b 0, .inr (7, [.ref (b 1), .ref (b 2), .ref (b 3), vI sm, vI th, .ref (b 4), vI tl, vI pl, .ref (b 5), vI ro, vI nu])), (b 1, .inl (Z 0, 853, .inl (ar 853 (un (enc (X.1, ((un (un (t2P X.1 X.2).1 2 0) 1 0), (enP X.1.2.1 (t2P X.1 X.2) 4).2))) 0 (((t2P X.1 X.2).1 0) + 1))))), (b 2, .inl (Z 0, 3412, .inl (ar 3412 sv))), (b 3, .inl (Z 0, 853, .inl (ar 853 sd))), (b 4, .inl (Z 0, 100, .inl (ar 100 t))), (b 5, .inl (Z 0, 128, .inl (ar 128 r)))]) rfl dX8_tick_162 (fun H locs w => ?_)
          have w := w.as (ws' := mdM Z b (X.1, (un (un (un (t2P X.1 X.2).1 2 0) 1 0) 0 ((t2P X.1 X.2).1 0 + 1), (enP X.1.2.1 (t2P X.1 X.2) 4).2)) sv sd sm th tl pl ro nu t r) (mdM_e (un_g (by decide)))
          refine lv_aload_n S.1 S.2.1 dX8_tick_163 rfl (lv_at hl 0 rfl) ?_
          refine nv_get S w (C := RX8) (T := TX8) (N := 11) hn_X8_tick_8 0 rfl rfl 0 (by decide) (List.mem_of_getElem? (i := 1) rfl) (v := .ref (b 1)) rfl dX8_tick_164 ?_
          refine lv_iconst (v := nI 0) S.1 S.2.1 dX8_tick_167 (ofInt_nI 0) ?_
          refine nv_iald S w (i := 0) (g := (enc (X.1, (un (un (un (t2P X.1 X.2).1 2 0) 1 0) 0 ((t2P X.1 X.2).1 0 + 1), (enP X.1.2.1 (t2P X.1 X.2) 4).2)))) 1 rfl (by omega) (by decide) dX8_tick_168 ?_
          refine W.eq (g2 := F0 m 169 ls [vI ((t2P X.1 X.2).1 0 + 1)]) rfl ?_
          refine lv_aload_n S.1 S.2.1 dX8_tick_169 rfl (lv_at hl 0 rfl) ?_
          refine nv_get S w (C := RX8) (T := TX8) (N := 11) hn_X8_tick_8 0 rfl rfl 0 (by decide) (List.mem_of_getElem? (i := 1) rfl) (v := .ref (b 1)) rfl dX8_tick_170 ?_
          refine lv_bipush (v := nI 6) S.1 S.2.1 dX8_tick_173 (by decide +kernel) ?_
          refine nv_iald S w (i := 6) (g := (enc (X.1, (un (un (un (t2P X.1 X.2).1 2 0) 1 0) 0 ((t2P X.1 X.2).1 0 + 1), (enP X.1.2.1 (t2P X.1 X.2) 4).2)))) 1 rfl (by omega) (by decide) dX8_tick_175 ?_
          refine W.eq (g2 := F0 m 176 ls [vI X.1.2.2.2, vI ((t2P X.1 X.2).1 0 + 1)]) rfl ?_
          refine nv_icmp_ne S (by omega) (by omega) (tgt := 183) dX8_tick_176 (by decide) (fun h_3 => ?_) (fun h_3 => ?_)
          · skip
            refine lv_iconst (v := nI 0) S.1 S.2.1 dX8_tick_183 (ofInt_nI 0) ?_
            refine lv_istore_n (lv' := [(1, vI 0), (0, .ref (b 0)), (2, vI i)]) S.1 S.2.1 dX8_tick_184 rfl hl (by decide) rfl (fun ls hl => ?_)
            refine lv_aload_n S.1 S.2.1 dX8_tick_185 rfl (lv_at hl 1 rfl) ?_
            refine nv_get S w (C := RX8) (T := TX8) (N := 11) hn_X8_tick_8 0 rfl rfl 0 (by decide) (List.mem_of_getElem? (i := 1) rfl) (v := .ref (b 1)) rfl dX8_tick_186 ?_
            refine lv_iconst (v := nI 0) S.1 S.2.1 dX8_tick_189 (ofInt_nI 0) ?_
            refine lv_iload_n S.1 S.2.1 dX8_tick_190 rfl (lv_at hl 0 rfl) ?_
            refine lv_if_eq (tgt := 198) S.1 S.2.1 dX8_tick_191 (by decide) (fun _ => ?_) (fun h9 => absurd (by decide) h9)
            refine lv_aload_n S.1 S.2.1 dX8_tick_198 rfl (lv_at hl 1 rfl) ?_
            refine nv_get S w (C := RX8) (T := TX8) (N := 11) hn_X8_tick_8 0 rfl rfl 0 (by decide) (List.mem_of_getElem? (i := 1) rfl) (v := .ref (b 1)) rfl dX8_tick_199 ?_
            refine lv_iconst (v := nI 0) S.1 S.2.1 dX8_tick_202 (ofInt_nI 0) ?_
            refine nv_iald S w (i := 0) (g := (enc (X.1, (un (un (un (t2P X.1 X.2).1 2 0) 1 0) 0 ((t2P X.1 X.2).1 0 + 1), (enP X.1.2.1 (t2P X.1 X.2) 4).2)))) 1 rfl (by omega) (by decide) dX8_tick_203 ?_
            refine W.eq (g2 := F0 m 204 ls [vI ((t2P X.1 X.2).1 0 + 1), vI 0, .ref (b 1)]) rfl ?_
            refine nv_iast S w (i := 0) (x := ((t2P X.1 X.2).1 0 + 1)) (g := (enc (X.1, (un (un (un (t2P X.1 X.2).1 2 0) 1 0) 0 ((t2P X.1 X.2).1 0 + 1), (enP X.1.2.1 (t2P X.1 X.2) 4).2)))) 1 rfl (by omega) (by decide) (ws' := [(b 0, .inr (7, [.ref (b 1), .ref (b 2), .ref (b 3), vI sm, vI th, .ref (b 4), vI tl, vI pl, .ref (b 5), vI ro, vI nu])), (b 1, .inl (Z 0, 853, .inl (ar 853 (un (enc (X.1, (un (un (un (t2P X.1 X.2).1 2 0) 1 0) 0 ((t2P X.1 X.2).1 0 + 1), (enP X.1.2.1 (t2P X.1 X.2) 4).2))) 0 ((t2P X.1 X.2).1 0 + 1))))), (b 2, .inl (Z 0, 3412, .inl (ar 3412 sv))), (b 3, .inl (Z 0, 853, .inl (ar 853 sd))), (b 4, .inl (Z 0, 100, .inl (ar 100 t))), (b 5, .inl (Z 0, 128, .inl (ar 128 r)))]) rfl dX8_tick_204 (fun H locs w => ?_)
            have w := w.as (ws' := mdM Z b (X.1, (un (un (un (t2P X.1 X.2).1 2 0) 1 0) 0 ((t2P X.1 X.2).1 0 + 1), (enP X.1.2.1 (t2P X.1 X.2) 4).2)) sv sd sm th tl pl ro nu t r) (mdM_e ((un_g (by decide)).trans (congrArg (fun f9 => enc (X.1, (f9, (enP X.1.2.1 (t2P X.1 X.2) 4).2))) un_un)))
            refine lv_aload_n S.1 S.2.1 dX8_tick_205 rfl (lv_at hl 1 rfl) ?_
            refine nv_get S w (C := RX8) (T := TX8) (N := 11) hn_X8_tick_8 0 rfl rfl 0 (by decide) (List.mem_of_getElem? (i := 1) rfl) (v := .ref (b 1)) rfl dX8_tick_206 ?_
            refine lv_iconst (v := nI 5) S.1 S.2.1 dX8_tick_209 (ofInt_nI 5) ?_
            refine lv_dup2_11 S.1 S.2.1 dX8_tick_210 rfl rfl ?_
            refine nv_iald S w (i := 5) (g := (enc (X.1, (un (un (un (t2P X.1 X.2).1 2 0) 1 0) 0 ((t2P X.1 X.2).1 0 + 1), (enP X.1.2.1 (t2P X.1 X.2) 4).2)))) 1 rfl (by omega) (by decide) dX8_tick_211 ?_
            refine W.eq (g2 := F0 m 212 ls [vI ((t2P X.1 X.2).1 5), vI 5, .ref (b 1)]) rfl ?_
            refine lv_iload_n S.1 S.2.1 dX8_tick_212 rfl (lv_at hl 0 rfl) ?_
            refine lv_if_eq (tgt := 220) S.1 S.2.1 dX8_tick_213 (by decide) (fun _ => ?_) (fun h9 => absurd (by decide) h9)
            refine lv_iconst (v := nI 0) S.1 S.2.1 dX8_tick_220 (ofInt_nI 0) ?_
            refine nv_iadd S dX8_tick_221 ?_
            refine nv_iast S w (i := 5) (x := (((t2P X.1 X.2).1 5) + 0)) (g := (enc (X.1, (un (un (un (t2P X.1 X.2).1 2 0) 1 0) 0 ((t2P X.1 X.2).1 0 + 1), (enP X.1.2.1 (t2P X.1 X.2) 4).2)))) 1 rfl (by omega) (by decide) (ws' := [(b 0, .inr (7, [.ref (b 1), .ref (b 2), .ref (b 3), vI sm, vI th, .ref (b 4), vI tl, vI pl, .ref (b 5), vI ro, vI nu])), (b 1, .inl (Z 0, 853, .inl (ar 853 (un (enc (X.1, (un (un (un (t2P X.1 X.2).1 2 0) 1 0) 0 ((t2P X.1 X.2).1 0 + 1), (enP X.1.2.1 (t2P X.1 X.2) 4).2))) 5 (((t2P X.1 X.2).1 5) + 0))))), (b 2, .inl (Z 0, 3412, .inl (ar 3412 sv))), (b 3, .inl (Z 0, 853, .inl (ar 853 sd))), (b 4, .inl (Z 0, 100, .inl (ar 100 t))), (b 5, .inl (Z 0, 128, .inl (ar 128 r)))]) rfl dX8_tick_222 (fun H locs w => ?_)
            have w := w.as (ws' := mdM Z b (X.1, (un (un (un (t2P X.1 X.2).1 2 0) 1 0) 0 ((t2P X.1 X.2).1 0 + 1), (enP X.1.2.1 (t2P X.1 X.2) 4).2)) sv sd sm th tl pl ro nu t r) (mdM_e ((un_g (by decide)).trans (congrArg (fun f9 => enc (X.1, (f9, (enP X.1.2.1 (t2P X.1 X.2) 4).2))) un_same)))
            refine lv_iload_n S.1 S.2.1 dX8_tick_223 rfl (lv_at hl 0 rfl) ?_
            exact nv_iret S w hr hlocks (nI_bool (by decide)) (by rw [show tkP X.1 X.2 = (un (un (un (t2P X.1 X.2).1 2 0) 1 0) 0 ((t2P X.1 X.2).1 0 + 1), (enP X.1.2.1 (t2P X.1 X.2) 4).2) from by unfold tkP; rw [if_pos hc]; unfold erP; rw [if_pos (by omega)]; unfold npP; rw [if_neg (by show ¬ (X.1.2.2.2 ≤ (t2P X.1 X.2).1 0 + 1); omega)]; rfl, bP_f (by show ¬ ((t2P X.1 X.2).1 5 = _); rw [t2P_5]; omega)]) (by rw [show tkP X.1 X.2 = (un (un (un (t2P X.1 X.2).1 2 0) 1 0) 0 ((t2P X.1 X.2).1 0 + 1), (enP X.1.2.1 (t2P X.1 X.2) 4).2) from by unfold tkP; rw [if_pos hc]; unfold erP; rw [if_pos (by omega)]; unfold npP; rw [if_neg (by show ¬ (X.1.2.2.2 ≤ (t2P X.1 X.2).1 0 + 1); omega)]; rfl]) dX8_tick_224
          · skip
            refine lv_iconst (v := nI 1) S.1 S.2.1 dX8_tick_179 (ofInt_nI 1) ?_
            refine lv_goto (tgt := 184) S.1 S.2.1 dX8_tick_180 (by decide) ?_
            refine lv_istore_n (lv' := [(1, vI 1), (0, .ref (b 0)), (2, vI i)]) S.1 S.2.1 dX8_tick_184 rfl hl (by decide) rfl (fun ls hl => ?_)
            refine lv_aload_n S.1 S.2.1 dX8_tick_185 rfl (lv_at hl 1 rfl) ?_
            refine nv_get S w (C := RX8) (T := TX8) (N := 11) hn_X8_tick_8 0 rfl rfl 0 (by decide) (List.mem_of_getElem? (i := 1) rfl) (v := .ref (b 1)) rfl dX8_tick_186 ?_
            refine lv_iconst (v := nI 0) S.1 S.2.1 dX8_tick_189 (ofInt_nI 0) ?_
            refine lv_iload_n S.1 S.2.1 dX8_tick_190 rfl (lv_at hl 0 rfl) ?_
            refine lv_if_eq (tgt := 198) S.1 S.2.1 dX8_tick_191 (by decide) (fun h9 => absurd h9 (by decide)) (fun _ => ?_)
            refine lv_iconst (v := nI 0) S.1 S.2.1 dX8_tick_194 (ofInt_nI 0) ?_
            refine lv_goto (tgt := 204) S.1 S.2.1 dX8_tick_195 (by decide) ?_
            refine nv_iast S w (i := 0) (x := 0) (g := (enc (X.1, (un (un (un (t2P X.1 X.2).1 2 0) 1 0) 0 ((t2P X.1 X.2).1 0 + 1), (enP X.1.2.1 (t2P X.1 X.2) 4).2)))) 1 rfl (by omega) (by decide) (ws' := [(b 0, .inr (7, [.ref (b 1), .ref (b 2), .ref (b 3), vI sm, vI th, .ref (b 4), vI tl, vI pl, .ref (b 5), vI ro, vI nu])), (b 1, .inl (Z 0, 853, .inl (ar 853 (un (enc (X.1, (un (un (un (t2P X.1 X.2).1 2 0) 1 0) 0 ((t2P X.1 X.2).1 0 + 1), (enP X.1.2.1 (t2P X.1 X.2) 4).2))) 0 0)))), (b 2, .inl (Z 0, 3412, .inl (ar 3412 sv))), (b 3, .inl (Z 0, 853, .inl (ar 853 sd))), (b 4, .inl (Z 0, 100, .inl (ar 100 t))), (b 5, .inl (Z 0, 128, .inl (ar 128 r)))]) rfl dX8_tick_204 (fun H locs w => ?_)
            have w := w.as (ws' := mdM Z b (X.1, (un (un (un (t2P X.1 X.2).1 2 0) 1 0) 0 0, (enP X.1.2.1 (t2P X.1 X.2) 4).2)) sv sd sm th tl pl ro nu t r) (mdM_e ((un_g (by decide)).trans (congrArg (fun f9 => enc (X.1, (f9, (enP X.1.2.1 (t2P X.1 X.2) 4).2))) un_un)))
            refine lv_aload_n S.1 S.2.1 dX8_tick_205 rfl (lv_at hl 1 rfl) ?_
            refine nv_get S w (C := RX8) (T := TX8) (N := 11) hn_X8_tick_8 0 rfl rfl 0 (by decide) (List.mem_of_getElem? (i := 1) rfl) (v := .ref (b 1)) rfl dX8_tick_206 ?_
            refine lv_iconst (v := nI 5) S.1 S.2.1 dX8_tick_209 (ofInt_nI 5) ?_
            refine lv_dup2_11 S.1 S.2.1 dX8_tick_210 rfl rfl ?_
            refine nv_iald S w (i := 5) (g := (enc (X.1, (un (un (un (t2P X.1 X.2).1 2 0) 1 0) 0 0, (enP X.1.2.1 (t2P X.1 X.2) 4).2)))) 1 rfl (by omega) (by decide) dX8_tick_211 ?_
            refine W.eq (g2 := F0 m 212 ls [vI ((t2P X.1 X.2).1 5), vI 5, .ref (b 1)]) rfl ?_
            refine lv_iload_n S.1 S.2.1 dX8_tick_212 rfl (lv_at hl 0 rfl) ?_
            refine lv_if_eq (tgt := 220) S.1 S.2.1 dX8_tick_213 (by decide) (fun h9 => absurd h9 (by decide)) (fun _ => ?_)
            refine lv_iconst (v := nI 1) S.1 S.2.1 dX8_tick_216 (ofInt_nI 1) ?_
            refine lv_goto (tgt := 221) S.1 S.2.1 dX8_tick_217 (by decide) ?_
            refine nv_iadd S dX8_tick_221 ?_
            refine nv_iast S w (i := 5) (x := (((t2P X.1 X.2).1 5) + 1)) (g := (enc (X.1, (un (un (un (t2P X.1 X.2).1 2 0) 1 0) 0 0, (enP X.1.2.1 (t2P X.1 X.2) 4).2)))) 1 rfl (by omega) (by decide) (ws' := [(b 0, .inr (7, [.ref (b 1), .ref (b 2), .ref (b 3), vI sm, vI th, .ref (b 4), vI tl, vI pl, .ref (b 5), vI ro, vI nu])), (b 1, .inl (Z 0, 853, .inl (ar 853 (un (enc (X.1, (un (un (un (t2P X.1 X.2).1 2 0) 1 0) 0 0, (enP X.1.2.1 (t2P X.1 X.2) 4).2))) 5 (((t2P X.1 X.2).1 5) + 1))))), (b 2, .inl (Z 0, 3412, .inl (ar 3412 sv))), (b 3, .inl (Z 0, 853, .inl (ar 853 sd))), (b 4, .inl (Z 0, 100, .inl (ar 100 t))), (b 5, .inl (Z 0, 128, .inl (ar 128 r)))]) rfl dX8_tick_222 (fun H locs w => ?_)
            have w := w.as (ws' := mdM Z b (X.1, (un (un (un (un (t2P X.1 X.2).1 2 0) 1 0) 0 0) 5 ((t2P X.1 X.2).1 5 + 1), (enP X.1.2.1 (t2P X.1 X.2) 4).2)) sv sd sm th tl pl ro nu t r) (mdM_e (un_g (by decide)))
            refine lv_iload_n S.1 S.2.1 dX8_tick_223 rfl (lv_at hl 0 rfl) ?_
            exact nv_iret S w hr hlocks (nI_bool (by decide)) (by rw [show tkP X.1 X.2 = (un (un (un (un (t2P X.1 X.2).1 2 0) 1 0) 0 0) 5 ((t2P X.1 X.2).1 5 + 1), (enP X.1.2.1 (t2P X.1 X.2) 4).2) from by unfold tkP; rw [if_pos hc]; unfold erP; rw [if_pos (by omega)]; unfold npP; rw [if_pos (by show X.1.2.2.2 ≤ (t2P X.1 X.2).1 0 + 1; omega)]; rfl, bP_t (by show (t2P X.1 X.2).1 5 + 1 = _; rw [t2P_5])]) (by rw [show tkP X.1 X.2 = (un (un (un (un (t2P X.1 X.2).1 2 0) 1 0) 0 0) 5 ((t2P X.1 X.2).1 5 + 1), (enP X.1.2.1 (t2P X.1 X.2) 4).2) from by unfold tkP; rw [if_pos hc]; unfold erP; rw [if_pos (by omega)]; unfold npP; rw [if_pos (by show X.1.2.2.2 ≤ (t2P X.1 X.2).1 0 + 1; omega)]; rfl]) dX8_tick_224
      · skip
        refine lv_aload_n S.1 S.2.1 dX8_tick_97 rfl (lv_at hl 0 rfl) ?_
        refine lv_iload_n S.1 S.2.1 dX8_tick_98 rfl (lv_at hl 2 rfl) ?_
        refine nv_cVv (rest := []) (ws' := mdM Z b (vX (X.1, enP X.1.2.1 (t2P X.1 X.2) i) i (endV (X.1, enP X.1.2.1 (t2P X.1 X.2) i).1.2.1 ((X.1, enP X.1.2.1 (t2P X.1 X.2) i).2.2 i))) sv sd sm th tl pl ro nu t r) S w hl.1 (c_X8_endsRow l D Z b (X.1, enP X.1.2.1 (t2P X.1 X.2) i) sv sd sm th tl pl ro nu t r i (by omega) (enP_VS hq5 hg8 i (by omega) i (by omega)).1 (enP_VS hq5 hg8 i (by omega) i (by omega)).2 hs) [0, 1, 2, 3, 4, 5] rfl rfl rfl rfl gX8_tick_X8_endsRow rfl hdV_X8_endsRow ⟨Nat.le_of_ble_eq_true rfl, Nat.le_of_ble_eq_true rfl⟩ (q0 := 0) rfl rfl rfl rfl (Nat.le_of_ble_eq_true rfl) ⟨Nat.zero_le _, Nat.zero_le _⟩ dX8_tick_99 (fun H locs w => ?_)
        refine lv_iinc (v := nI (i + 1)) (lv' := [(2, vI (i + 1)), (0, .ref (b 0)), (1, vI 0)]) S.1 S.2.1 dX8_tick_102 hl (k := 2) rfl (nI_incI i 1) (by decide) rfl (fun ls hl => ?_)
        refine lv_goto (tgt := 92) S.1 S.2.1 dX8_tick_105 (by decide) ?_
        exact ih (i + 1) (by omega) (by omega) (by omega) _ _ _ (lv_sub hl [1, 2, 0] rfl) (w.as rfl)
set_option maxRecDepth 100000 in
set_option maxHeartbeats 4000000 in
theorem k_X8_tick_b (l : Launch) (D : va_G) (Z : Nat → ClassId) (b : Nat → Nat) (X : ST) (sv sd : Nat → Nat) (sm th tl pl ro nu : Nat) (t r : Nat → Nat) (hs : SB X.1) (hp : PB X.1 X.2) {p : Program} {e : Env} {s : State} {m : MethodId} {args : Array Value} {below : List Frame} {meth : Method} {c : Code} {A : Nat → Prop} (S : CallFix p m c cX8_tick 3 s args wsX8_tick RX8) (hr : meth.sig.returnType = (some .boolean)) (hlocks : meth.locks = false) : ∀ (n9 : Nat), (∀ (i : Nat) (hi4 : i ≤ 4) (hm : 4 - i < n9), ∀ (H : Heap) (locs : List Loc) (ls : Array Slot) (hl : lv_has ls 3 [(0, .ref (b 0)), (1, vI 0), (2, vI i)]) (w : Wd D Z A s (mdM Z b (X.1, hrP (t1P X.1 X.2) i) sv sd sm th tl pl ro nu t r) H locs), W p l e (rmO 4 90) s m args below meth c H locs 0 0 (Qi below D Z A args s (nI (bP ((tkP X.1 X.2).1 5 = X.2.1 5 + 1))) (mdM Z b (X.1, tkP X.1 X.2) sv sd sm th tl pl ro nu t r)) (F0 m 39 ls [])) := by
  intro n9
  have ht1 := t1P_PB hs hp
  have ht2 := t2P_PB hs hp
  obtain ⟨hp0, hp1, hp2, hp3, hp4, hvs⟩ := id hp
  have hg8 : ∀ i, i < 6 → X.1.2.1 i ≤ 8 := fun i hi => (hs.2.1 i hi).2
  have hpl := hs.2.2.2.1
  have ha1 := ht1.2.2.1
  obtain ⟨hq0, hq1, hq2, hq3, hq4, hq5⟩ := id ht2
  have hord := hs.2.2.2.2 ((t2P X.1 X.2).1 0) (by omega)
  have hrw := hs.2.1 _ (show X.1.2.2.1 ((t2P X.1 X.2).1 0) < 6 by omega)
  induction n9 with
  | zero => intro i hi4 hm; exact absurd hm (Nat.not_lt_zero _)
  | succ n9 ih =>
    skip
    · intro i hi4 hm H locs ls hl w
      refine lv_iload_n S.1 S.2.1 dX8_tick_39 rfl (lv_at hl 2 rfl) ?_
      refine lv_iconst (v := nI 4) S.1 S.2.1 dX8_tick_40 (ofInt_nI 4) ?_
      refine nv_icmp_ge S (by omega) (by omega) (tgt := 55) dX8_tick_41 (by decide) (fun h_8 => ?_) (fun h_8 => ?_)
      · skip
        have w := w.as (ws' := mdM Z b (X.1, ((t1P X.1 X.2).1, (hrP (t1P X.1 X.2) 4).2)) sv sd sm th tl pl ro nu t r) (by rw [show i = 4 by omega, show hrP (t1P X.1 X.2) 4 = ((t1P X.1 X.2).1, (hrP (t1P X.1 X.2) 4).2) from Prod.ext (hrP_1 4) rfl])
        refine lv_aload_n S.1 S.2.1 dX8_tick_55 rfl (lv_at hl 0 rfl) ?_
        refine nv_get S w (C := RX8) (T := TX8) (N := 11) hn_X8_tick_8 0 rfl rfl 0 (by decide) (List.mem_of_getElem? (i := 1) rfl) (v := .ref (b 1)) rfl dX8_tick_56 ?_
        refine lv_iconst (v := nI 2) S.1 S.2.1 dX8_tick_59 (ofInt_nI 2) ?_
        refine lv_dup2_11 S.1 S.2.1 dX8_tick_60 rfl rfl ?_
        refine nv_iald S w (i := 2) (g := (enc (X.1, ((t1P X.1 X.2).1, (hrP (t1P X.1 X.2) 4).2)))) 1 rfl (by omega) (by decide) dX8_tick_61 ?_
        refine W.eq (g2 := F0 m 62 ls [vI ((t1P X.1 X.2).1 2), vI 2, .ref (b 1)]) rfl ?_
        refine lv_iconst (v := nI 1) S.1 S.2.1 dX8_tick_62 (ofInt_nI 1) ?_
        refine nv_iadd S dX8_tick_63 ?_
        refine nv_iast S w (i := 2) (x := (((t1P X.1 X.2).1 2) + 1)) (g := (enc (X.1, ((t1P X.1 X.2).1, (hrP (t1P X.1 X.2) 4).2)))) 1 rfl (by omega) (by decide) (ws' := [(b 0, .inr (7, [.ref (b 1), .ref (b 2), .ref (b 3), vI sm, vI th, .ref (b 4), vI tl, vI pl, .ref (b 5), vI ro, vI nu])), (b 1, .inl (Z 0, 853, .inl (ar 853 (un (enc (X.1, ((t1P X.1 X.2).1, (hrP (t1P X.1 X.2) 4).2))) 2 (((t1P X.1 X.2).1 2) + 1))))), (b 2, .inl (Z 0, 3412, .inl (ar 3412 sv))), (b 3, .inl (Z 0, 853, .inl (ar 853 sd))), (b 4, .inl (Z 0, 100, .inl (ar 100 t))), (b 5, .inl (Z 0, 128, .inl (ar 128 r)))]) rfl dX8_tick_64 (fun H locs w => ?_)
        have w := w.as (ws' := mdM Z b (X.1, (un (t1P X.1 X.2).1 2 ((t1P X.1 X.2).1 2 + 1), (hrP (t1P X.1 X.2) 4).2)) sv sd sm th tl pl ro nu t r) (mdM_e (un_g (by decide)))
        refine lv_aload_n S.1 S.2.1 dX8_tick_65 rfl (lv_at hl 0 rfl) ?_
        refine nv_get S w (C := RX8) (T := TX8) (N := 11) hn_X8_tick_8 0 rfl rfl 0 (by decide) (List.mem_of_getElem? (i := 1) rfl) (v := .ref (b 1)) rfl dX8_tick_66 ?_
        refine lv_iconst (v := nI 4) S.1 S.2.1 dX8_tick_69 (ofInt_nI 4) ?_
        refine lv_dup2_11 S.1 S.2.1 dX8_tick_70 rfl rfl ?_
        refine nv_iald S w (i := 4) (g := (enc (X.1, (un (t1P X.1 X.2).1 2 ((t1P X.1 X.2).1 2 + 1), (hrP (t1P X.1 X.2) 4).2)))) 1 rfl (by omega) (by decide) dX8_tick_71 ?_
        refine W.eq (g2 := F0 m 72 ls [vI ((t1P X.1 X.2).1 4), vI 4, .ref (b 1)]) rfl ?_
        refine lv_iconst (v := nI 1) S.1 S.2.1 dX8_tick_72 (ofInt_nI 1) ?_
        refine nv_iadd S dX8_tick_73 ?_
        refine nv_iast S w (i := 4) (x := (((t1P X.1 X.2).1 4) + 1)) (g := (enc (X.1, (un (t1P X.1 X.2).1 2 ((t1P X.1 X.2).1 2 + 1), (hrP (t1P X.1 X.2) 4).2)))) 1 rfl (by omega) (by decide) (ws' := [(b 0, .inr (7, [.ref (b 1), .ref (b 2), .ref (b 3), vI sm, vI th, .ref (b 4), vI tl, vI pl, .ref (b 5), vI ro, vI nu])), (b 1, .inl (Z 0, 853, .inl (ar 853 (un (enc (X.1, (un (t1P X.1 X.2).1 2 ((t1P X.1 X.2).1 2 + 1), (hrP (t1P X.1 X.2) 4).2))) 4 (((t1P X.1 X.2).1 4) + 1))))), (b 2, .inl (Z 0, 3412, .inl (ar 3412 sv))), (b 3, .inl (Z 0, 853, .inl (ar 853 sd))), (b 4, .inl (Z 0, 100, .inl (ar 100 t))), (b 5, .inl (Z 0, 128, .inl (ar 128 r)))]) rfl dX8_tick_74 (fun H locs w => ?_)
        have w := w.as (ws' := mdM Z b (X.1, t2P X.1 X.2) sv sd sm th tl pl ro nu t r) (mdM_e ((un_g (by decide)).trans (congrArg (fun f9 => enc (X.1, (f9, (hrP (t1P X.1 X.2) 4).2))) (un_swap (by decide)))))
        refine lv_aload_n S.1 S.2.1 dX8_tick_75 rfl (lv_at hl 0 rfl) ?_
        refine nv_get S w (C := RX8) (T := TX8) (N := 11) hn_X8_tick_8 0 rfl rfl 0 (by decide) (List.mem_of_getElem? (i := 1) rfl) (v := .ref (b 1)) rfl dX8_tick_76 ?_
        refine lv_iconst (v := nI 2) S.1 S.2.1 dX8_tick_79 (ofInt_nI 2) ?_
        refine nv_iald S w (i := 2) (g := (enc (X.1, t2P X.1 X.2))) 1 rfl (by omega) (by decide) dX8_tick_80 ?_
        refine W.eq (g2 := F0 m 81 ls [vI ((t2P X.1 X.2).1 2)]) rfl ?_
        refine lv_aload_n S.1 S.2.1 dX8_tick_81 rfl (lv_at hl 0 rfl) ?_
        refine nv_get S w (C := RX8) (T := TX8) (N := 11) hn_X8_tick_8 0 rfl rfl 0 (by decide) (List.mem_of_getElem? (i := 1) rfl) (v := .ref (b 1)) rfl dX8_tick_82 ?_
        refine lv_iconst (v := nI 3) S.1 S.2.1 dX8_tick_85 (ofInt_nI 3) ?_
        refine nv_iald S w (i := 3) (g := (enc (X.1, t2P X.1 X.2))) 1 rfl (by omega) (by decide) dX8_tick_86 ?_
        refine W.eq (g2 := F0 m 87 ls [vI ((t2P X.1 X.2).1 3), vI ((t2P X.1 X.2).1 2)]) rfl ?_
        refine nv_icmp_lt S (by omega) (by omega) (tgt := 223) dX8_tick_87 (by decide) (fun h_9 => ?_) (fun h_9 => ?_)
        · skip
          refine lv_iload_n S.1 S.2.1 dX8_tick_223 rfl (lv_at hl 1 rfl) ?_
          exact nv_iret S w hr hlocks (nI_bool (by decide)) (by rw [bP_f (by rw [show tkP X.1 X.2 = t2P X.1 X.2 from if_neg (by omega), t2P_5]; omega)]) (by rw [show tkP X.1 X.2 = t2P X.1 X.2 from if_neg (by omega)]) dX8_tick_224
        · skip
          refine lv_iconst (v := nI 0) S.1 S.2.1 dX8_tick_90 (ofInt_nI 0) ?_
          refine lv_istore_n (lv' := [(2, vI 0), (0, .ref (b 0)), (1, vI 0)]) S.1 S.2.1 dX8_tick_91 rfl hl (by decide) rfl (fun ls hl => ?_)
          exact k_X8_tick_c l D Z b X sv sd sm th tl pl ro nu t r hs hp S hr hlocks _ 0 (by omega) (by omega) (Nat.lt_succ_self _) _ _ _ (lv_sub hl [1, 2, 0] rfl) (w.as rfl)
      · skip
        refine lv_aload_n S.1 S.2.1 dX8_tick_44 rfl (lv_at hl 0 rfl) ?_
        refine lv_iload_n S.1 S.2.1 dX8_tick_45 rfl (lv_at hl 2 rfl) ?_
        refine nv_cVv (rest := []) (ws' := mdM Z b (vX (X.1, hrP (t1P X.1 X.2) i) i (hearV ((X.1, hrP (t1P X.1 X.2) i).2.2 i))) sv sd sm th tl pl ro nu t r) S w hl.1 (c_X8_hears l D Z b (X.1, hrP (t1P X.1 X.2) i) sv sd sm th tl pl ro nu t r i (by omega) (hrP_VS ht1.2.2.2.2.2 i (by omega) i (by omega)).1) [0, 1, 2, 3, 4, 5] rfl rfl rfl rfl gX8_tick_X8_hears rfl hdV_X8_hears ⟨Nat.le_of_ble_eq_true rfl, Nat.le_of_ble_eq_true rfl⟩ (q0 := 0) rfl rfl rfl rfl (Nat.le_of_ble_eq_true rfl) ⟨Nat.zero_le _, Nat.zero_le _⟩ dX8_tick_46 (fun H locs w => ?_)
        refine lv_iinc (v := nI (i + 1)) (lv' := [(2, vI (i + 1)), (0, .ref (b 0)), (1, vI 0)]) S.1 S.2.1 dX8_tick_49 hl (k := 2) rfl (nI_incI i 1) (by decide) rfl (fun ls hl => ?_)
        refine lv_goto (tgt := 39) S.1 S.2.1 dX8_tick_52 (by decide) ?_
        exact ih (i + 1) (by omega) (by omega) _ _ _ (lv_sub hl [1, 2, 0] rfl) (w.as rfl)
set_option maxRecDepth 100000 in
set_option maxHeartbeats 4000000 in
theorem k_X8_tick_a (l : Launch) (D : va_G) (Z : Nat → ClassId) (b : Nat → Nat) (X : ST) (sv sd : Nat → Nat) (sm th tl pl ro nu : Nat) (t r : Nat → Nat) (hs : SB X.1) (hp : PB X.1 X.2) {p : Program} {e : Env} {s : State} {m : MethodId} {args : Array Value} {below : List Frame} {meth : Method} {c : Code} {A : Nat → Prop} (S : CallFix p m c cX8_tick 3 s args wsX8_tick RX8) (hr : meth.sig.returnType = (some .boolean)) (hlocks : meth.locks = false) : ∀ (n9 : Nat), (∀ (i : Nat) (hi4 : i ≤ 4) (hm : 4 - i < n9), ∀ (H : Heap) (locs : List Loc) (ls : Array Slot) (hl : lv_has ls 3 [(0, .ref (b 0)), (1, vI 0), (2, vI i)]) (w : Wd D Z A s (mdM Z b (X.1, t1I X.1 X.2 i) sv sd sm th tl pl ro nu t r) H locs), W p l e (rmO 4 90) s m args below meth c H locs 0 0 (Qi below D Z A args s (nI (bP ((tkP X.1 X.2).1 5 = X.2.1 5 + 1))) (mdM Z b (X.1, tkP X.1 X.2) sv sd sm th tl pl ro nu t r)) (F0 m 4 ls [])) := by
  intro n9
  have ht1 := t1P_PB hs hp
  have ht2 := t2P_PB hs hp
  obtain ⟨hp0, hp1, hp2, hp3, hp4, hvs⟩ := id hp
  have hg8 : ∀ i, i < 6 → X.1.2.1 i ≤ 8 := fun i hi => (hs.2.1 i hi).2
  have hpl := hs.2.2.2.1
  have ha1 := ht1.2.2.1
  obtain ⟨hq0, hq1, hq2, hq3, hq4, hq5⟩ := id ht2
  have hord := hs.2.2.2.2 ((t2P X.1 X.2).1 0) (by omega)
  have hrw := hs.2.1 _ (show X.1.2.2.1 ((t2P X.1 X.2).1 0) < 6 by omega)
  induction n9 with
  | zero => intro i hi4 hm; exact absurd hm (Nat.not_lt_zero _)
  | succ n9 ih =>
    skip
    · intro i hi4 hm H locs ls hl w
      refine lv_iload_n S.1 S.2.1 dX8_tick_4 rfl (lv_at hl 2 rfl) ?_
      refine lv_iconst (v := nI 4) S.1 S.2.1 dX8_tick_5 (ofInt_nI 4) ?_
      refine nv_icmp_ge S (by omega) (by omega) (tgt := 37) dX8_tick_6 (by decide) (fun h_10 => ?_) (fun h_10 => ?_)
      · skip
        refine lv_iconst (v := nI 0) S.1 S.2.1 dX8_tick_37 (ofInt_nI 0) ?_
        refine lv_istore_n (lv' := [(2, vI 0), (0, .ref (b 0)), (1, vI 0)]) S.1 S.2.1 dX8_tick_38 rfl hl (by decide) rfl (fun ls hl => ?_)
        exact k_X8_tick_b l D Z b X sv sd sm th tl pl ro nu t r hs hp S hr hlocks _ 0 (by omega) (Nat.lt_succ_self _) _ _ _ (lv_sub hl [1, 2, 0] rfl) (w.as (by rw [show i = 4 by omega]; rfl))
      · skip
        by_cases hz : X.2.1 2 = 0
        · skip
          have w := w.as (ws' := mdM Z b (X.1, rdP X.1 X.2 i) sv sd sm th tl pl ro nu t r) (by rw [show t1I X.1 X.2 i = rdP X.1 X.2 i from if_pos hz])
          refine lv_aload_n S.1 S.2.1 dX8_tick_9 rfl (lv_at hl 0 rfl) ?_
          refine nv_get S w (C := RX8) (T := TX8) (N := 11) hn_X8_tick_8 0 rfl rfl 0 (by decide) (List.mem_of_getElem? (i := 1) rfl) (v := .ref (b 1)) rfl dX8_tick_10 ?_
          refine lv_iconst (v := nI 2) S.1 S.2.1 dX8_tick_13 (ofInt_nI 2) ?_
          refine nv_iald S w (i := 2) (g := (enc (X.1, rdP X.1 X.2 i))) 1 rfl (by omega) (by decide) dX8_tick_14 ?_
          refine W.eq (g2 := F0 m 15 ls [vI (X.2.1 2)]) (by rw [enc_g (by decide)]; first | (show F0 m _ ls [vI ((rdP X.1 X.2 i).1 2)] = _; rw [rdP_2]) | (show F0 m _ ls [vI ((goP (X.2.1 2) X.2 i).1 2)] = _; rw [goP_1])) ?_
          refine nv_if_ne S (by omega) (tgt := 26) dX8_tick_15 (by decide) (fun h_11 => ?_) (fun h_11 => ?_)
          · skip
            exact absurd hz h_11
          · skip
            refine lv_aload_n S.1 S.2.1 dX8_tick_18 rfl (lv_at hl 0 rfl) ?_
            refine lv_iload_n S.1 S.2.1 dX8_tick_19 rfl (lv_at hl 2 rfl) ?_
            refine nv_cVv (rest := []) (ws' := mdM Z b ((X.1, rdP X.1 X.2 i).1, rdS (X.1, rdP X.1 X.2 i).1 i (X.1, rdP X.1 X.2 i).2) sv sd sm th tl pl ro nu t r) S w hl.1 (c_X8_reads l D Z b (X.1, rdP X.1 X.2 i) sv sd sm th tl pl ro nu t r i (by omega) hs (rdP_PB hs hp i (by omega))) [0, 1, 2, 3, 4, 5] rfl rfl rfl rfl gX8_tick_X8_reads rfl hdV_X8_reads ⟨Nat.le_of_ble_eq_true rfl, Nat.le_of_ble_eq_true rfl⟩ (q0 := 0) rfl rfl rfl rfl (Nat.le_of_ble_eq_true rfl) ⟨Nat.zero_le _, Nat.zero_le _⟩ dX8_tick_20 (fun H locs w => ?_)
            refine lv_goto (tgt := 31) S.1 S.2.1 dX8_tick_23 (by decide) ?_
            refine lv_iinc (v := nI (i + 1)) (lv' := [(2, vI (i + 1)), (0, .ref (b 0)), (1, vI 0)]) S.1 S.2.1 dX8_tick_31 hl (k := 2) rfl (nI_incI i 1) (by decide) rfl (fun ls hl => ?_)
            refine lv_goto (tgt := 4) S.1 S.2.1 dX8_tick_34 (by decide) ?_
            exact ih (i + 1) (by omega) (by omega) _ _ _ (lv_sub hl [1, 2, 0] rfl) (w.as (by rw [show t1I X.1 X.2 (i + 1) = rdP X.1 X.2 (i + 1) from if_pos hz]; rfl))
        · skip
          have w := w.as (ws' := mdM Z b (X.1, goP (X.2.1 2) X.2 i) sv sd sm th tl pl ro nu t r) (by rw [show t1I X.1 X.2 i = goP (X.2.1 2) X.2 i from if_neg hz])
          refine lv_aload_n S.1 S.2.1 dX8_tick_9 rfl (lv_at hl 0 rfl) ?_
          refine nv_get S w (C := RX8) (T := TX8) (N := 11) hn_X8_tick_8 0 rfl rfl 0 (by decide) (List.mem_of_getElem? (i := 1) rfl) (v := .ref (b 1)) rfl dX8_tick_10 ?_
          refine lv_iconst (v := nI 2) S.1 S.2.1 dX8_tick_13 (ofInt_nI 2) ?_
          refine nv_iald S w (i := 2) (g := (enc (X.1, goP (X.2.1 2) X.2 i))) 1 rfl (by omega) (by decide) dX8_tick_14 ?_
          refine W.eq (g2 := F0 m 15 ls [vI (X.2.1 2)]) (by rw [enc_g (by decide)]; first | (show F0 m _ ls [vI ((rdP X.1 X.2 i).1 2)] = _; rw [rdP_2]) | (show F0 m _ ls [vI ((goP (X.2.1 2) X.2 i).1 2)] = _; rw [goP_1])) ?_
          refine nv_if_ne S (by omega) (tgt := 26) dX8_tick_15 (by decide) (fun h_12 => ?_) (fun h_12 => ?_)
          · skip
            refine lv_aload_n S.1 S.2.1 dX8_tick_26 rfl (lv_at hl 0 rfl) ?_
            refine lv_iload_n S.1 S.2.1 dX8_tick_27 rfl (lv_at hl 2 rfl) ?_
            refine nv_cVv (rest := []) (ws' := mdM Z b (vX (X.1, goP (X.2.1 2) X.2 i) i (goV ((X.1, goP (X.2.1 2) X.2 i).2.2 i) ((X.1, goP (X.2.1 2) X.2 i).2.1 2))) sv sd sm th tl pl ro nu t r) S w hl.1 (c_X8_goesOn l D Z b (X.1, goP (X.2.1 2) X.2 i) sv sd sm th tl pl ro nu t r i (by omega) (goP_VS hvs i (by omega) i (by omega)).1 (by show (goP (X.2.1 2) X.2 i).1 2 < 2 ^ 31; rw [goP_1]; omega)) [0, 1, 2, 3, 4, 5] rfl rfl rfl rfl gX8_tick_X8_goesOn rfl hdV_X8_goesOn ⟨Nat.le_of_ble_eq_true rfl, Nat.le_of_ble_eq_true rfl⟩ (q0 := 0) rfl rfl rfl rfl (Nat.le_of_ble_eq_true rfl) ⟨Nat.zero_le _, Nat.zero_le _⟩ dX8_tick_28 (fun H locs w => ?_)
            refine lv_iinc (v := nI (i + 1)) (lv' := [(2, vI (i + 1)), (0, .ref (b 0)), (1, vI 0)]) S.1 S.2.1 dX8_tick_31 hl (k := 2) rfl (nI_incI i 1) (by decide) rfl (fun ls hl => ?_)
            refine lv_goto (tgt := 4) S.1 S.2.1 dX8_tick_34 (by decide) ?_
            exact ih (i + 1) (by omega) (by omega) _ _ _ (lv_sub hl [1, 2, 0] rfl) (w.as (by rw [show t1I X.1 X.2 (i + 1) = goP (X.2.1 2) X.2 (i + 1) from if_neg hz]; show mdM Z b (X.1, ((goP (X.2.1 2) X.2 i).1, uv (goP (X.2.1 2) X.2 i).2 i (goV ((goP (X.2.1 2) X.2 i).2 i) ((goP (X.2.1 2) X.2 i).1 2)))) _ _ _ _ _ _ _ _ _ _ = _; rw [show (goP (X.2.1 2) X.2 i).1 2 = X.2.1 2 by rw [goP_1]]; rfl))
          · skip
            exact absurd h_12 hz
set_option maxRecDepth 100000 in
set_option maxHeartbeats 4000000 in
theorem c_X8_tick (l : Launch) (D : va_G) (Z : Nat → ClassId) (b : Nat → Nat) (X : ST) (sv sd : Nat → Nat) (sm th tl pl ro nu : Nat) (t r : Nat → Nat) (hs : SB X.1) (hp : PB X.1 X.2) : Ci l yX8_tick wsX8_tick 4 90 D Z [.ref (b 0)] (mdM Z b X sv sd sm th tl pl ro nu t r) (nI (bP ((tkP X.1 X.2).1 5 = X.2.1 5 + 1))) (mdM Z b (X.1, tkP X.1 X.2) sv sd sm th tl pl ro nu t r) := by
  refine ne_i (cc := cX8_tick) (maxL := 3) (by decide +kernel) rfl (Nat.le_of_ble_eq_true rfl) (fun p e s m args below meth c A ls (S : CallFix p m c cX8_tick 3 s args wsX8_tick RX8) hr hlocks hl w => ?_)
  have ht1 := t1P_PB hs hp
  have ht2 := t2P_PB hs hp
  obtain ⟨hp0, hp1, hp2, hp3, hp4, hvs⟩ := id hp
  have hg8 : ∀ i, i < 6 → X.1.2.1 i ≤ 8 := fun i hi => (hs.2.1 i hi).2
  have hpl := hs.2.2.2.1
  have ha1 := ht1.2.2.1
  obtain ⟨hq0, hq1, hq2, hq3, hq4, hq5⟩ := id ht2
  have hord := hs.2.2.2.2 ((t2P X.1 X.2).1 0) (by omega)
  have hrw := hs.2.1 _ (show X.1.2.2.1 ((t2P X.1 X.2).1 0) < 6 by omega)
  have hl : lv_has ls 3 [(0, .ref (b 0))] := hl
  refine lv_iconst (v := nI 0) S.1 S.2.1 dX8_tick_0 (ofInt_nI 0) ?_
  refine lv_istore_n (lv' := [(1, vI 0), (0, .ref (b 0))]) S.1 S.2.1 dX8_tick_1 rfl hl (by decide) rfl (fun ls hl => ?_)
  refine lv_iconst (v := nI 0) S.1 S.2.1 dX8_tick_2 (ofInt_nI 0) ?_
  refine lv_istore_n (lv' := [(2, vI 0), (1, vI 0), (0, .ref (b 0))]) S.1 S.2.1 dX8_tick_3 rfl hl (by decide) rfl (fun ls hl => ?_)
  exact k_X8_tick_a l D Z b X sv sd sm th tl pl ro nu t r hs hp S hr hlocks _ 0 (by omega) (Nat.lt_succ_self _) _ _ _ (lv_sub hl [2, 1, 0] rfl) (w.as (by rw [show t1I X.1 X.2 0 = X.2 from by unfold t1I; split <;> rfl]))
