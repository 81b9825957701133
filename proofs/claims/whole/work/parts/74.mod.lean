theorem hn_X8_goesOn_8 : ∀ w ∈ wsX80, w ∈ wsX8_goesOn := by decide +kernel
set_option maxRecDepth 100000 in
set_option maxHeartbeats 4000000 in
theorem c_X8_goesOn (l : Launch) (D : va_G) (Z : Nat → ClassId) (b : Nat → Nat) (X : ST) (sv sd : Nat → Nat) (sm th tl pl ro nu : Nat) (t r : Nat → Nat) (d : Nat) (hd : d < 4) (hv : VB (X.2.2 d)) (ht9 : X.2.1 2 < 2 ^ 31) : Cv l yX8_goesOn wsX8_goesOn 3 65 D Z [.ref (b 0), vI d] (mdM Z b X sv sd sm th tl pl ro nu t r)  (mdM Z b (vX X d (goV (X.2.2 d) (X.2.1 2))) sv sd sm th tl pl ro nu t r) := by
  refine ne_v (cc := cX8_goesOn) (maxL := 5) (by decide +kernel) rfl (Nat.le_of_ble_eq_true rfl) (fun p e s m args below meth c A ls (S : CallFix p m c cX8_goesOn 5 s args wsX8_goesOn RX8) hr hlocks hl w => ?_)
  have h2 := hv
  unfold VB at h2
  have hl : lv_has ls 5 [(0, .ref (b 0)), (1, vI d)] := hl
  refine lv_aload_n S.1 S.2.1 dX8_goesOn_0 rfl (lv_at hl 0 rfl) ?_
  refine lv_iload_n S.1 S.2.1 dX8_goesOn_1 rfl (lv_at hl 1 rfl) ?_
  refine lv_bipush (v := nI 15) S.1 S.2.1 dX8_goesOn_2 (by decide +kernel) ?_
  refine nv_rVi (rest := []) S w hl.1 (c_X8_of l D Z b X sv sd sm th tl pl ro nu t r d 15 (by omega) (by omega)) [0, 1, 2, 3, 4, 5] rfl rfl gX8_goesOn_X8_of rfl hdV_X8_of ⟨Nat.le_of_ble_eq_true rfl, Nat.le_of_ble_eq_true rfl⟩ (q0 := 0) rfl rfl rfl rfl (Nat.le_of_ble_eq_true rfl) ⟨Nat.zero_le _, Nat.zero_le _⟩ dX8_goesOn_4 (fun H locs w => ?_)
  refine lv_istore_n (lv' := [(2, vI (X.2.2 d 15)), (0, .ref (b 0)), (1, vI d)]) S.1 S.2.1 dX8_goesOn_7 rfl hl (by decide) rfl (fun ls hl => ?_)
  refine lv_aload_n S.1 S.2.1 dX8_goesOn_8 rfl (lv_at hl 1 rfl) ?_
  refine lv_iload_n S.1 S.2.1 dX8_goesOn_9 rfl (lv_at hl 2 rfl) ?_
  refine lv_iconst (v := nI 0) S.1 S.2.1 dX8_goesOn_10 (ofInt_nI 0) ?_
  refine nv_rVi (rest := []) S w hl.1 (c_X8_of l D Z b X sv sd sm th tl pl ro nu t r d 0 (by omega) (by omega)) [0, 1, 2, 3, 4, 5] rfl rfl gX8_goesOn_X8_of rfl hdV_X8_of ⟨Nat.le_of_ble_eq_true rfl, Nat.le_of_ble_eq_true rfl⟩ (q0 := 0) rfl rfl rfl rfl (Nat.le_of_ble_eq_true rfl) ⟨Nat.zero_le _, Nat.zero_le _⟩ dX8_goesOn_11 (fun H locs w => ?_)
  refine lv_istore_n (lv' := [(3, vI (X.2.2 d 0)), (2, vI (X.2.2 d 15)), (0, .ref (b 0)), (1, vI d)]) S.1 S.2.1 dX8_goesOn_14 rfl hl (by decide) rfl (fun ls hl => ?_)
  refine lv_aload_n S.1 S.2.1 dX8_goesOn_15 rfl (lv_at hl 2 rfl) ?_
  refine lv_iload_n S.1 S.2.1 dX8_goesOn_16 rfl (lv_at hl 3 rfl) ?_
  refine lv_iconst (v := nI 1) S.1 S.2.1 dX8_goesOn_17 (ofInt_nI 1) ?_
  refine nv_rVi (rest := []) S w hl.1 (c_X8_of l D Z b X sv sd sm th tl pl ro nu t r d 1 (by omega) (by omega)) [0, 1, 2, 3, 4, 5] rfl rfl gX8_goesOn_X8_of rfl hdV_X8_of ⟨Nat.le_of_ble_eq_true rfl, Nat.le_of_ble_eq_true rfl⟩ (q0 := 0) rfl rfl rfl rfl (Nat.le_of_ble_eq_true rfl) ⟨Nat.zero_le _, Nat.zero_le _⟩ dX8_goesOn_18 (fun H locs w => ?_)
  refine lv_istore (lv' := [(4, vI (X.2.2 d 1)), (3, vI (X.2.2 d 0)), (2, vI (X.2.2 d 15)), (0, .ref (b 0)), (1, vI d)]) S.1 S.2.1 dX8_goesOn_21 hl (by decide) rfl (fun ls hl => ?_)
  refine lv_aload_n S.1 S.2.1 dX8_goesOn_23 rfl (lv_at hl 3 rfl) ?_
  refine lv_iload_n S.1 S.2.1 dX8_goesOn_24 rfl (lv_at hl 4 rfl) ?_
  refine lv_bipush (v := nI 14) S.1 S.2.1 dX8_goesOn_25 (by decide +kernel) ?_
  refine nv_rVi (rest := []) S w hl.1 (c_X8_of l D Z b X sv sd sm th tl pl ro nu t r d 14 (by omega) (by omega)) [0, 1, 2, 3, 4, 5] rfl rfl gX8_goesOn_X8_of rfl hdV_X8_of ⟨Nat.le_of_ble_eq_true rfl, Nat.le_of_ble_eq_true rfl⟩ (q0 := 0) rfl rfl rfl rfl (Nat.le_of_ble_eq_true rfl) ⟨Nat.zero_le _, Nat.zero_le _⟩ dX8_goesOn_27 (fun H locs w => ?_)
  by_cases h_1 : X.2.2 d 14 = 1
  · skip
    refine nv_tableIn S (by omega) dX8_goesOn_30 (by rw [h_1]; decide) (by rw [h_1]; decide) (off := 38) (by rw [h_1]; rfl) (tgt := 68) (by decide) ?_
    refine lv_aload_n S.1 S.2.1 dX8_goesOn_68 rfl (lv_at hl 3 rfl) ?_
    refine nv_get S w (C := RX8) (T := TX8) (N := 11) hn_X8_goesOn_8 0 rfl rfl 0 (by decide) (List.mem_of_getElem? (i := 1) rfl) (v := .ref (b 1)) rfl dX8_goesOn_69 ?_
    refine lv_iload_n S.1 S.2.1 dX8_goesOn_72 rfl (lv_at hl 4 rfl) ?_
    refine lv_iconst (v := nI 0) S.1 S.2.1 dX8_goesOn_73 (ofInt_nI 0) ?_
    refine nv_pSi (rest := [.ref (b 1)]) S w hl.1 (c_X8_at l D Z d 0 ) gX8_goesOn_X8_at rfl hdS_X8_at ⟨Nat.le_of_ble_eq_true rfl, Nat.le_of_ble_eq_true rfl⟩ rfl rfl (Nat.le_of_ble_eq_true rfl) ⟨Nat.zero_le _, Nat.zero_le _⟩ dX8_goesOn_74 (fun H locs w => ?_)
    refine lv_iload_n S.1 S.2.1 dX8_goesOn_77 rfl (lv_at hl 1 rfl) ?_
    refine lv_iload_n S.1 S.2.1 dX8_goesOn_78 rfl (lv_at hl 2 rfl) ?_
    refine nv_iadd S dX8_goesOn_79 ?_
    refine lv_sipush (v := nI 999) S.1 S.2.1 dX8_goesOn_80 (by decide +kernel) ?_
    refine nv_icmp_le S (by omega) (by omega) (tgt := 92) dX8_goesOn_83 (by decide) (fun h_2 => ?_) (fun h_2 => ?_)
    · skip
      refine lv_iload_n S.1 S.2.1 dX8_goesOn_92 rfl (lv_at hl 1 rfl) ?_
      refine lv_iload_n S.1 S.2.1 dX8_goesOn_93 rfl (lv_at hl 2 rfl) ?_
      refine nv_iadd S dX8_goesOn_94 ?_
      refine nv_iast S w (i := (21 + 16 * d + 0)) (x := ((X.2.2 d 0) + (X.2.2 d 15))) (g := (enc X)) 1 rfl (by omega) (by decide) (ws' := [(b 0, .inr (7, [.ref (b 1), .ref (b 2), .ref (b 3), vI sm, vI th, .ref (b 4), vI tl, vI pl, .ref (b 5), vI ro, vI nu])), (b 1, .inl (Z 0, 853, .inl (ar 853 (un (enc X) (21 + 16 * d + 0) ((X.2.2 d 0) + (X.2.2 d 15)))))), (b 2, .inl (Z 0, 3412, .inl (ar 3412 sv))), (b 3, .inl (Z 0, 853, .inl (ar 853 sd))), (b 4, .inl (Z 0, 100, .inl (ar 100 t))), (b 5, .inl (Z 0, 128, .inl (ar 128 r)))]) rfl dX8_goesOn_95 (fun H locs w => ?_)
      have w := w.as (ws' := mdM Z b (vX X d (un (X.2.2 d) 0 ((X.2.2 d 0) + (X.2.2 d 15)))) sv sd sm th tl pl ro nu t r) (mdM_e (un_v hd (by decide)))
      refine lv_goto (tgt := 200) S.1 S.2.1 dX8_goesOn_96 (by decide) ?_
      exact nv_vret S w hr hlocks (by rw [show goV (X.2.2 d) (X.2.1 2) = un (X.2.2 d) 0 ((X.2.2 d 0) + (X.2.2 d 15)) from by unfold goV; rw [if_pos (by omega)]; try (congr 1; omega)]) dX8_goesOn_200
    · skip
      refine lv_sipush (v := nI 999) S.1 S.2.1 dX8_goesOn_86 (by decide +kernel) ?_
      refine lv_goto (tgt := 95) S.1 S.2.1 dX8_goesOn_89 (by decide) ?_
      refine nv_iast S w (i := (21 + 16 * d + 0)) (x := 999) (g := (enc X)) 1 rfl (by omega) (by decide) (ws' := [(b 0, .inr (7, [.ref (b 1), .ref (b 2), .ref (b 3), vI sm, vI th, .ref (b 4), vI tl, vI pl, .ref (b 5), vI ro, vI nu])), (b 1, .inl (Z 0, 853, .inl (ar 853 (un (enc X) (21 + 16 * d + 0) 999)))), (b 2, .inl (Z 0, 3412, .inl (ar 3412 sv))), (b 3, .inl (Z 0, 853, .inl (ar 853 sd))), (b 4, .inl (Z 0, 100, .inl (ar 100 t))), (b 5, .inl (Z 0, 128, .inl (ar 128 r)))]) rfl dX8_goesOn_95 (fun H locs w => ?_)
      have w := w.as (ws' := mdM Z b (vX X d (un (X.2.2 d) 0 999)) sv sd sm th tl pl ro nu t r) (mdM_e (un_v hd (by decide)))
      refine lv_goto (tgt := 200) S.1 S.2.1 dX8_goesOn_96 (by decide) ?_
      exact nv_vret S w hr hlocks (by rw [show goV (X.2.2 d) (X.2.1 2) = un (X.2.2 d) 0 999 from by unfold goV; rw [if_pos (by omega)]; try (congr 1; omega)]) dX8_goesOn_200
  · skip
    by_cases h_3 : X.2.2 d 14 = 2
    · skip
      refine nv_tableIn S (by omega) dX8_goesOn_30 (by rw [h_3]; decide) (by rw [h_3]; decide) (off := 69) (by rw [h_3]; rfl) (tgt := 99) (by decide) ?_
      refine lv_aload_n S.1 S.2.1 dX8_goesOn_99 rfl (lv_at hl 3 rfl) ?_
      refine nv_get S w (C := RX8) (T := TX8) (N := 11) hn_X8_goesOn_8 0 rfl rfl 0 (by decide) (List.mem_of_getElem? (i := 1) rfl) (v := .ref (b 1)) rfl dX8_goesOn_100 ?_
      refine lv_iload_n S.1 S.2.1 dX8_goesOn_103 rfl (lv_at hl 4 rfl) ?_
      refine lv_iconst (v := nI 0) S.1 S.2.1 dX8_goesOn_104 (ofInt_nI 0) ?_
      refine nv_pSi (rest := [.ref (b 1)]) S w hl.1 (c_X8_at l D Z d 0 ) gX8_goesOn_X8_at rfl hdS_X8_at ⟨Nat.le_of_ble_eq_true rfl, Nat.le_of_ble_eq_true rfl⟩ rfl rfl (Nat.le_of_ble_eq_true rfl) ⟨Nat.zero_le _, Nat.zero_le _⟩ dX8_goesOn_105 (fun H locs w => ?_)
      refine lv_iload_n S.1 S.2.1 dX8_goesOn_108 rfl (lv_at hl 1 rfl) ?_
      refine lv_iload_n S.1 S.2.1 dX8_goesOn_109 rfl (lv_at hl 2 rfl) ?_
      refine nv_icmp_ge S (by omega) (by omega) (tgt := 117) dX8_goesOn_110 (by decide) (fun h_4 => ?_) (fun h_4 => ?_)
      · skip
        refine lv_iload_n S.1 S.2.1 dX8_goesOn_117 rfl (lv_at hl 1 rfl) ?_
        refine lv_iload_n S.1 S.2.1 dX8_goesOn_118 rfl (lv_at hl 2 rfl) ?_
        refine nv_isub S (by omega) dX8_goesOn_119 ?_
        refine nv_iast S w (i := (21 + 16 * d + 0)) (x := ((X.2.2 d 0) - (X.2.2 d 15))) (g := (enc X)) 1 rfl (by omega) (by decide) (ws' := [(b 0, .inr (7, [.ref (b 1), .ref (b 2), .ref (b 3), vI sm, vI th, .ref (b 4), vI tl, vI pl, .ref (b 5), vI ro, vI nu])), (b 1, .inl (Z 0, 853, .inl (ar 853 (un (enc X) (21 + 16 * d + 0) ((X.2.2 d 0) - (X.2.2 d 15)))))), (b 2, .inl (Z 0, 3412, .inl (ar 3412 sv))), (b 3, .inl (Z 0, 853, .inl (ar 853 sd))), (b 4, .inl (Z 0, 100, .inl (ar 100 t))), (b 5, .inl (Z 0, 128, .inl (ar 128 r)))]) rfl dX8_goesOn_120 (fun H locs w => ?_)
        have w := w.as (ws' := mdM Z b (vX X d (un (X.2.2 d) 0 ((X.2.2 d 0) - (X.2.2 d 15)))) sv sd sm th tl pl ro nu t r) (mdM_e (un_v hd (by decide)))
        refine lv_goto (tgt := 200) S.1 S.2.1 dX8_goesOn_121 (by decide) ?_
        exact nv_vret S w hr hlocks (by rw [show goV (X.2.2 d) (X.2.1 2) = un (X.2.2 d) 0 ((X.2.2 d 0) - (X.2.2 d 15)) from by unfold goV; rw [if_neg (by omega), if_pos (by omega)]; try (congr 1; omega)]) dX8_goesOn_200
      · skip
        refine lv_iconst (v := nI 0) S.1 S.2.1 dX8_goesOn_113 (ofInt_nI 0) ?_
        refine lv_goto (tgt := 120) S.1 S.2.1 dX8_goesOn_114 (by decide) ?_
        refine nv_iast S w (i := (21 + 16 * d + 0)) (x := 0) (g := (enc X)) 1 rfl (by omega) (by decide) (ws' := [(b 0, .inr (7, [.ref (b 1), .ref (b 2), .ref (b 3), vI sm, vI th, .ref (b 4), vI tl, vI pl, .ref (b 5), vI ro, vI nu])), (b 1, .inl (Z 0, 853, .inl (ar 853 (un (enc X) (21 + 16 * d + 0) 0)))), (b 2, .inl (Z 0, 3412, .inl (ar 3412 sv))), (b 3, .inl (Z 0, 853, .inl (ar 853 sd))), (b 4, .inl (Z 0, 100, .inl (ar 100 t))), (b 5, .inl (Z 0, 128, .inl (ar 128 r)))]) rfl dX8_goesOn_120 (fun H locs w => ?_)
        have w := w.as (ws' := mdM Z b (vX X d (un (X.2.2 d) 0 0)) sv sd sm th tl pl ro nu t r) (mdM_e (un_v hd (by decide)))
        refine lv_goto (tgt := 200) S.1 S.2.1 dX8_goesOn_121 (by decide) ?_
        exact nv_vret S w hr hlocks (by rw [show goV (X.2.2 d) (X.2.1 2) = un (X.2.2 d) 0 0 from by unfold goV; rw [if_neg (by omega), if_pos (by omega)]; try (congr 1; omega)]) dX8_goesOn_200
    · skip
      by_cases h_5 : X.2.2 d 14 = 3
      · skip
        refine nv_tableIn S (by omega) dX8_goesOn_30 (by rw [h_5]; decide) (by rw [h_5]; decide) (off := 94) (by rw [h_5]; rfl) (tgt := 124) (by decide) ?_
        refine lv_aload_n S.1 S.2.1 dX8_goesOn_124 rfl (lv_at hl 3 rfl) ?_
        refine nv_get S w (C := RX8) (T := TX8) (N := 11) hn_X8_goesOn_8 0 rfl rfl 0 (by decide) (List.mem_of_getElem? (i := 1) rfl) (v := .ref (b 1)) rfl dX8_goesOn_125 ?_
        refine lv_iload_n S.1 S.2.1 dX8_goesOn_128 rfl (lv_at hl 4 rfl) ?_
        refine lv_iconst (v := nI 1) S.1 S.2.1 dX8_goesOn_129 (ofInt_nI 1) ?_
        refine nv_pSi (rest := [.ref (b 1)]) S w hl.1 (c_X8_at l D Z d 1 ) gX8_goesOn_X8_at rfl hdS_X8_at ⟨Nat.le_of_ble_eq_true rfl, Nat.le_of_ble_eq_true rfl⟩ rfl rfl (Nat.le_of_ble_eq_true rfl) ⟨Nat.zero_le _, Nat.zero_le _⟩ dX8_goesOn_130 (fun H locs w => ?_)
        refine lv_iload S.1 S.2.1 dX8_goesOn_133 (lv_at hl 0 rfl) ?_
        refine lv_iload_n S.1 S.2.1 dX8_goesOn_135 rfl (lv_at hl 2 rfl) ?_
        refine nv_iadd S dX8_goesOn_136 ?_
        refine lv_bipush (v := nI 15) S.1 S.2.1 dX8_goesOn_137 (by decide +kernel) ?_
        refine nv_icmp_le S (by omega) (by omega) (tgt := 147) dX8_goesOn_139 (by decide) (fun h_6 => ?_) (fun h_6 => ?_)
        · skip
          refine lv_iload S.1 S.2.1 dX8_goesOn_147 (lv_at hl 0 rfl) ?_
          refine lv_iload_n S.1 S.2.1 dX8_goesOn_149 rfl (lv_at hl 2 rfl) ?_
          refine nv_iadd S dX8_goesOn_150 ?_
          refine nv_iast S w (i := (21 + 16 * d + 1)) (x := ((X.2.2 d 1) + (X.2.2 d 15))) (g := (enc X)) 1 rfl (by omega) (by decide) (ws' := [(b 0, .inr (7, [.ref (b 1), .ref (b 2), .ref (b 3), vI sm, vI th, .ref (b 4), vI tl, vI pl, .ref (b 5), vI ro, vI nu])), (b 1, .inl (Z 0, 853, .inl (ar 853 (un (enc X) (21 + 16 * d + 1) ((X.2.2 d 1) + (X.2.2 d 15)))))), (b 2, .inl (Z 0, 3412, .inl (ar 3412 sv))), (b 3, .inl (Z 0, 853, .inl (ar 853 sd))), (b 4, .inl (Z 0, 100, .inl (ar 100 t))), (b 5, .inl (Z 0, 128, .inl (ar 128 r)))]) rfl dX8_goesOn_151 (fun H locs w => ?_)
          have w := w.as (ws' := mdM Z b (vX X d (un (X.2.2 d) 1 ((X.2.2 d 1) + (X.2.2 d 15)))) sv sd sm th tl pl ro nu t r) (mdM_e (un_v hd (by decide)))
          refine lv_goto (tgt := 200) S.1 S.2.1 dX8_goesOn_152 (by decide) ?_
          exact nv_vret S w hr hlocks (by rw [show goV (X.2.2 d) (X.2.1 2) = un (X.2.2 d) 1 ((X.2.2 d 1) + (X.2.2 d 15)) from by unfold goV; rw [if_neg (by omega), if_neg (by omega), if_pos (by omega)]; try (congr 1; omega)]) dX8_goesOn_200
        · skip
          refine lv_bipush (v := nI 15) S.1 S.2.1 dX8_goesOn_142 (by decide +kernel) ?_
          refine lv_goto (tgt := 151) S.1 S.2.1 dX8_goesOn_144 (by decide) ?_
          refine nv_iast S w (i := (21 + 16 * d + 1)) (x := 15) (g := (enc X)) 1 rfl (by omega) (by decide) (ws' := [(b 0, .inr (7, [.ref (b 1), .ref (b 2), .ref (b 3), vI sm, vI th, .ref (b 4), vI tl, vI pl, .ref (b 5), vI ro, vI nu])), (b 1, .inl (Z 0, 853, .inl (ar 853 (un (enc X) (21 + 16 * d + 1) 15)))), (b 2, .inl (Z 0, 3412, .inl (ar 3412 sv))), (b 3, .inl (Z 0, 853, .inl (ar 853 sd))), (b 4, .inl (Z 0, 100, .inl (ar 100 t))), (b 5, .inl (Z 0, 128, .inl (ar 128 r)))]) rfl dX8_goesOn_151 (fun H locs w => ?_)
          have w := w.as (ws' := mdM Z b (vX X d (un (X.2.2 d) 1 15)) sv sd sm th tl pl ro nu t r) (mdM_e (un_v hd (by decide)))
          refine lv_goto (tgt := 200) S.1 S.2.1 dX8_goesOn_152 (by decide) ?_
          exact nv_vret S w hr hlocks (by rw [show goV (X.2.2 d) (X.2.1 2) = un (X.2.2 d) 1 15 from by unfold goV; rw [if_neg (by omega), if_neg (by omega), if_pos (by omega)]; try (congr 1; omega)]) dX8_goesOn_200
      · skip
        by_cases h_7 : X.2.2 d 14 = 4
        · skip
          refine nv_tableIn S (by omega) dX8_goesOn_30 (by rw [h_7]; decide) (by rw [h_7]; decide) (off := 125) (by rw [h_7]; rfl) (tgt := 155) (by decide) ?_
          refine lv_aload_n S.1 S.2.1 dX8_goesOn_155 rfl (lv_at hl 3 rfl) ?_
          refine nv_get S w (C := RX8) (T := TX8) (N := 11) hn_X8_goesOn_8 0 rfl rfl 0 (by decide) (List.mem_of_getElem? (i := 1) rfl) (v := .ref (b 1)) rfl dX8_goesOn_156 ?_
          refine lv_iload_n S.1 S.2.1 dX8_goesOn_159 rfl (lv_at hl 4 rfl) ?_
          refine lv_iconst (v := nI 1) S.1 S.2.1 dX8_goesOn_160 (ofInt_nI 1) ?_
          refine nv_pSi (rest := [.ref (b 1)]) S w hl.1 (c_X8_at l D Z d 1 ) gX8_goesOn_X8_at rfl hdS_X8_at ⟨Nat.le_of_ble_eq_true rfl, Nat.le_of_ble_eq_true rfl⟩ rfl rfl (Nat.le_of_ble_eq_true rfl) ⟨Nat.zero_le _, Nat.zero_le _⟩ dX8_goesOn_161 (fun H locs w => ?_)
          refine lv_iload S.1 S.2.1 dX8_goesOn_164 (lv_at hl 0 rfl) ?_
          refine lv_iload_n S.1 S.2.1 dX8_goesOn_166 rfl (lv_at hl 2 rfl) ?_
          refine nv_icmp_ge S (by omega) (by omega) (tgt := 174) dX8_goesOn_167 (by decide) (fun h_8 => ?_) (fun h_8 => ?_)
          · skip
            refine lv_iload S.1 S.2.1 dX8_goesOn_174 (lv_at hl 0 rfl) ?_
            refine lv_iload_n S.1 S.2.1 dX8_goesOn_176 rfl (lv_at hl 2 rfl) ?_
            refine nv_isub S (by omega) dX8_goesOn_177 ?_
            refine nv_iast S w (i := (21 + 16 * d + 1)) (x := ((X.2.2 d 1) - (X.2.2 d 15))) (g := (enc X)) 1 rfl (by omega) (by decide) (ws' := [(b 0, .inr (7, [.ref (b 1), .ref (b 2), .ref (b 3), vI sm, vI th, .ref (b 4), vI tl, vI pl, .ref (b 5), vI ro, vI nu])), (b 1, .inl (Z 0, 853, .inl (ar 853 (un (enc X) (21 + 16 * d + 1) ((X.2.2 d 1) - (X.2.2 d 15)))))), (b 2, .inl (Z 0, 3412, .inl (ar 3412 sv))), (b 3, .inl (Z 0, 853, .inl (ar 853 sd))), (b 4, .inl (Z 0, 100, .inl (ar 100 t))), (b 5, .inl (Z 0, 128, .inl (ar 128 r)))]) rfl dX8_goesOn_178 (fun H locs w => ?_)
            have w := w.as (ws' := mdM Z b (vX X d (un (X.2.2 d) 1 ((X.2.2 d 1) - (X.2.2 d 15)))) sv sd sm th tl pl ro nu t r) (mdM_e (un_v hd (by decide)))
            refine lv_goto (tgt := 200) S.1 S.2.1 dX8_goesOn_179 (by decide) ?_
            exact nv_vret S w hr hlocks (by rw [show goV (X.2.2 d) (X.2.1 2) = un (X.2.2 d) 1 ((X.2.2 d 1) - (X.2.2 d 15)) from by unfold goV; rw [if_neg (by omega), if_neg (by omega), if_neg (by omega), if_pos (by omega)]; try (congr 1; omega)]) dX8_goesOn_200
          · skip
            refine lv_iconst (v := nI 0) S.1 S.2.1 dX8_goesOn_170 (ofInt_nI 0) ?_
            refine lv_goto (tgt := 178) S.1 S.2.1 dX8_goesOn_171 (by decide) ?_
            refine nv_iast S w (i := (21 + 16 * d + 1)) (x := 0) (g := (enc X)) 1 rfl (by omega) (by decide) (ws' := [(b 0, .inr (7, [.ref (b 1), .ref (b 2), .ref (b 3), vI sm, vI th, .ref (b 4), vI tl, vI pl, .ref (b 5), vI ro, vI nu])), (b 1, .inl (Z 0, 853, .inl (ar 853 (un (enc X) (21 + 16 * d + 1) 0)))), (b 2, .inl (Z 0, 3412, .inl (ar 3412 sv))), (b 3, .inl (Z 0, 853, .inl (ar 853 sd))), (b 4, .inl (Z 0, 100, .inl (ar 100 t))), (b 5, .inl (Z 0, 128, .inl (ar 128 r)))]) rfl dX8_goesOn_178 (fun H locs w => ?_)
            have w := w.as (ws' := mdM Z b (vX X d (un (X.2.2 d) 1 0)) sv sd sm th tl pl ro nu t r) (mdM_e (un_v hd (by decide)))
            refine lv_goto (tgt := 200) S.1 S.2.1 dX8_goesOn_179 (by decide) ?_
            exact nv_vret S w hr hlocks (by rw [show goV (X.2.2 d) (X.2.1 2) = un (X.2.2 d) 1 0 from by unfold goV; rw [if_neg (by omega), if_neg (by omega), if_neg (by omega), if_pos (by omega)]; try (congr 1; omega)]) dX8_goesOn_200
        · skip
          by_cases h_9 : X.2.2 d 14 = 6
          · skip
            refine nv_tableIn S (by omega) dX8_goesOn_30 (by rw [h_9]; decide) (by rw [h_9]; decide) (off := 152) (by rw [h_9]; rfl) (tgt := 182) (by decide) ?_
            refine lv_iload_n S.1 S.2.1 dX8_goesOn_182 rfl (lv_at hl 2 rfl) ?_
            refine lv_aload_n S.1 S.2.1 dX8_goesOn_183 rfl (lv_at hl 3 rfl) ?_
            refine nv_get S w (C := RX8) (T := TX8) (N := 11) hn_X8_goesOn_8 0 rfl rfl 0 (by decide) (List.mem_of_getElem? (i := 1) rfl) (v := .ref (b 1)) rfl dX8_goesOn_184 ?_
            refine lv_iconst (v := nI 2) S.1 S.2.1 dX8_goesOn_187 (ofInt_nI 2) ?_
            refine nv_iald S w (i := 2) (g := (enc X)) 1 rfl (by omega) (by decide) dX8_goesOn_188 ?_
            refine W.eq (g2 := F0 m 189 ls [vI (X.2.1 2), vI (X.2.2 d 15)]) (by rw [enc_g (by decide)]) ?_
            refine nv_icmp_ne S (by omega) (by omega) (tgt := 200) dX8_goesOn_189 (by decide) (fun h_10 => ?_) (fun h_10 => ?_)
            · skip
              exact nv_vret S w hr hlocks (by rw [show goV (X.2.2 d) (X.2.1 2) = X.2.2 d from by unfold goV; rw [if_neg (by omega), if_neg (by omega), if_neg (by omega), if_neg (by omega), if_neg (by omega)], vX_self]) dX8_goesOn_200
            · skip
              refine lv_aload_n S.1 S.2.1 dX8_goesOn_192 rfl (lv_at hl 3 rfl) ?_
              refine lv_iload_n S.1 S.2.1 dX8_goesOn_193 rfl (lv_at hl 4 rfl) ?_
              refine nv_cVv (rest := []) (ws' := mdM Z b (vX X d (begV (X.2.2 d))) sv sd sm th tl pl ro nu t r) S w hl.1 (c_X8_begin l D Z b X sv sd sm th tl pl ro nu t r d (by omega) hv) [0, 1, 2, 3, 4, 5] rfl rfl rfl rfl gX8_goesOn_X8_begin rfl hdV_X8_begin ⟨Nat.le_of_ble_eq_true rfl, Nat.le_of_ble_eq_true rfl⟩ (q0 := 0) rfl rfl rfl rfl (Nat.le_of_ble_eq_true rfl) ⟨Nat.zero_le _, Nat.zero_le _⟩ dX8_goesOn_194 (fun H locs w => ?_)
              refine lv_goto (tgt := 200) S.1 S.2.1 dX8_goesOn_197 (by decide) ?_
              exact nv_vret S w hr hlocks (by rw [show goV (X.2.2 d) (X.2.1 2) = begV (X.2.2 d) from by unfold goV; rw [if_neg (by omega), if_neg (by omega), if_neg (by omega), if_neg (by omega), if_pos ⟨by omega, by omega⟩]]) dX8_goesOn_200
          · skip
            by_cases h_11 : X.2.2 d 14 = 5
            · skip
              refine nv_tableIn S (by omega) dX8_goesOn_30 (by rw [h_11]; decide) (by rw [h_11]; decide) (off := 170) (by rw [h_11]; rfl) (tgt := 200) (by decide) ?_
              exact nv_vret S w hr hlocks (by rw [show goV (X.2.2 d) (X.2.1 2) = X.2.2 d from by unfold goV; rw [if_neg (by omega), if_neg (by omega), if_neg (by omega), if_neg (by omega), if_neg (by omega)], vX_self]) dX8_goesOn_200
            · skip
              refine nv_tableOut S (by omega) dX8_goesOn_30 (by omega) (tgt := 200) (by decide) ?_
              exact nv_vret S w hr hlocks (by rw [show goV (X.2.2 d) (X.2.1 2) = X.2.2 d from by unfold goV; rw [if_neg (by omega), if_neg (by omega), if_neg (by omega), if_neg (by omega), if_neg (by omega)], vX_self]) dX8_goesOn_200

theorem hn_X8_hears_8 : ∀ w ∈ wsX80, w ∈ wsX8_hears := by decide +kernel
theorem hdS_X8_heardBy : yX8_heardBy.cls ≠ "java/lang/invoke/MethodHandle" ∧ yX8_heardBy.cls ≠ "java/lang/invoke/VarHandle" ∧ (parseMethodDescriptor yX8_heardBy.desc).map (fun d => d.parameters.length) = some 1 := by decide +kernel
set_option maxRecDepth 100000 in
set_option maxHeartbeats 4000000 in
theorem c_X8_hears (l : Launch) (D : va_G) (Z : Nat → ClassId) (b : Nat → Nat) (X : ST) (sv sd : Nat → Nat) (sm th tl pl ro nu : Nat) (t r : Nat → Nat) (d : Nat) (hd : d < 4) (hv : VB (X.2.2 d)) : Cv l yX8_hears wsX8_hears 2 43 D Z [.ref (b 0), vI d] (mdM Z b X sv sd sm th tl pl ro nu t r)  (mdM Z b (vX X d (hearV (X.2.2 d))) sv sd sm th tl pl ro nu t r) := by
  refine ne_v (cc := cX8_hears) (maxL := 2) (by decide +kernel) rfl (Nat.le_of_ble_eq_true rfl) (fun p e s m args below meth c A ls (S : CallFix p m c cX8_hears 2 s args wsX8_hears RX8) hr hlocks hl w => ?_)
  have h2 := hv
  unfold VB at h2
  have hl : lv_has ls 2 [(0, .ref (b 0)), (1, vI d)] := hl
  refine lv_aload_n S.1 S.2.1 dX8_hears_0 rfl (lv_at hl 0 rfl) ?_
  refine lv_iload_n S.1 S.2.1 dX8_hears_1 rfl (lv_at hl 1 rfl) ?_
  refine lv_iconst (v := nI 2) S.1 S.2.1 dX8_hears_2 (ofInt_nI 2) ?_
  refine nv_rVi (rest := []) S w hl.1 (c_X8_of l D Z b X sv sd sm th tl pl ro nu t r d 2 (by omega) (by omega)) [0, 1, 2, 3, 4, 5] rfl rfl gX8_hears_X8_of rfl hdV_X8_of ⟨Nat.le_of_ble_eq_true rfl, Nat.le_of_ble_eq_true rfl⟩ (q0 := 0) rfl rfl rfl rfl (Nat.le_of_ble_eq_true rfl) ⟨Nat.zero_le _, Nat.zero_le _⟩ dX8_hears_3 (fun H locs w => ?_)
  refine nv_if_le S (by omega) (tgt := 46) dX8_hears_6 (by decide) (fun h_1 => ?_) (fun h_1 => ?_)
  · skip
    refine lv_aload_n S.1 S.2.1 dX8_hears_46 rfl (lv_at hl 0 rfl) ?_
    refine nv_get S w (C := RX8) (T := TX8) (N := 11) hn_X8_hears_8 0 rfl rfl 0 (by decide) (List.mem_of_getElem? (i := 1) rfl) (v := .ref (b 1)) rfl dX8_hears_47 ?_
    refine lv_iload_n S.1 S.2.1 dX8_hears_50 rfl (lv_at hl 1 rfl) ?_
    refine lv_bipush (v := nI 11) S.1 S.2.1 dX8_hears_51 (by decide +kernel) ?_
    refine nv_pSi (rest := [.ref (b 1)]) S w hl.1 (c_X8_at l D Z d 11 ) gX8_hears_X8_at rfl hdS_X8_at ⟨Nat.le_of_ble_eq_true rfl, Nat.le_of_ble_eq_true rfl⟩ rfl rfl (Nat.le_of_ble_eq_true rfl) ⟨Nat.zero_le _, Nat.zero_le _⟩ dX8_hears_53 (fun H locs w => ?_)
    refine lv_aload_n S.1 S.2.1 dX8_hears_56 rfl (lv_at hl 0 rfl) ?_
    refine lv_iload_n S.1 S.2.1 dX8_hears_57 rfl (lv_at hl 1 rfl) ?_
    refine lv_iconst (v := nI 1) S.1 S.2.1 dX8_hears_58 (ofInt_nI 1) ?_
    refine nv_rVi (rest := [vI (21 + 16 * d + 11), .ref (b 1)]) S w hl.1 (c_X8_of l D Z b X sv sd sm th tl pl ro nu t r d 1 (by omega) (by omega)) [0, 1, 2, 3, 4, 5] rfl rfl gX8_hears_X8_of rfl hdV_X8_of ⟨Nat.le_of_ble_eq_true rfl, Nat.le_of_ble_eq_true rfl⟩ (q0 := 0) rfl rfl rfl rfl (Nat.le_of_ble_eq_true rfl) ⟨Nat.zero_le _, Nat.zero_le _⟩ dX8_hears_59 (fun H locs w => ?_)
    refine nv_if_ne S (by omega) (tgt := 69) dX8_hears_62 (by decide) (fun h_2 => ?_) (fun h_2 => ?_)
    · skip
      refine lv_bipush (v := nI 16) S.1 S.2.1 dX8_hears_69 (by decide +kernel) ?_
      refine lv_aload_n S.1 S.2.1 dX8_hears_71 rfl (lv_at hl 0 rfl) ?_
      refine lv_iload_n S.1 S.2.1 dX8_hears_72 rfl (lv_at hl 1 rfl) ?_
      refine lv_iconst (v := nI 0) S.1 S.2.1 dX8_hears_73 (ofInt_nI 0) ?_
      refine nv_rVi (rest := [vI 16, vI (21 + 16 * d + 11), .ref (b 1)]) S w hl.1 (c_X8_of l D Z b X sv sd sm th tl pl ro nu t r d 0 (by omega) (by omega)) [0, 1, 2, 3, 4, 5] rfl rfl gX8_hears_X8_of rfl hdV_X8_of ⟨Nat.le_of_ble_eq_true rfl, Nat.le_of_ble_eq_true rfl⟩ (q0 := 0) rfl rfl rfl rfl (Nat.le_of_ble_eq_true rfl) ⟨Nat.zero_le _, Nat.zero_le _⟩ dX8_hears_74 (fun H locs w => ?_)
      refine nv_imul S dX8_hears_77 ?_
      refine lv_aload_n S.1 S.2.1 dX8_hears_78 rfl (lv_at hl 0 rfl) ?_
      refine lv_iload_n S.1 S.2.1 dX8_hears_79 rfl (lv_at hl 1 rfl) ?_
      refine lv_iconst (v := nI 1) S.1 S.2.1 dX8_hears_80 (ofInt_nI 1) ?_
      refine nv_rVi (rest := [vI (16 * (X.2.2 d 0)), vI (21 + 16 * d + 11), .ref (b 1)]) S w hl.1 (c_X8_of l D Z b X sv sd sm th tl pl ro nu t r d 1 (by omega) (by omega)) [0, 1, 2, 3, 4, 5] rfl rfl gX8_hears_X8_of rfl hdV_X8_of ⟨Nat.le_of_ble_eq_true rfl, Nat.le_of_ble_eq_true rfl⟩ (q0 := 0) rfl rfl rfl rfl (Nat.le_of_ble_eq_true rfl) ⟨Nat.zero_le _, Nat.zero_le _⟩ dX8_hears_81 (fun H locs w => ?_)
      refine nv_iadd S dX8_hears_84 ?_
      refine nv_iast S w (i := (21 + 16 * d + 11)) (x := ((16 * (X.2.2 d 0)) + (X.2.2 d 1))) (g := (enc X)) 1 rfl (by omega) (by decide) (ws' := [(b 0, .inr (7, [.ref (b 1), .ref (b 2), .ref (b 3), vI sm, vI th, .ref (b 4), vI tl, vI pl, .ref (b 5), vI ro, vI nu])), (b 1, .inl (Z 0, 853, .inl (ar 853 (un (enc X) (21 + 16 * d + 11) ((16 * (X.2.2 d 0)) + (X.2.2 d 1)))))), (b 2, .inl (Z 0, 3412, .inl (ar 3412 sv))), (b 3, .inl (Z 0, 853, .inl (ar 853 sd))), (b 4, .inl (Z 0, 100, .inl (ar 100 t))), (b 5, .inl (Z 0, 128, .inl (ar 128 r)))]) rfl dX8_hears_85 (fun H locs w => ?_)
      have w := w.as (ws' := mdM Z b (vX X d (un (X.2.2 d) 11 ((16 * (X.2.2 d 0)) + (X.2.2 d 1)))) sv sd sm th tl pl ro nu t r) (mdM_e (un_v hd (by decide)))
      exact nv_vret S w hr hlocks (by unfold hearV; rw [if_neg (by omega)]; first | rw [if_pos (by omega)] | rw [if_neg (by omega)]) dX8_hears_86
    · skip
      refine lv_iconst (v := nI 0) S.1 S.2.1 dX8_hears_65 (ofInt_nI 0) ?_
      refine lv_goto (tgt := 85) S.1 S.2.1 dX8_hears_66 (by decide) ?_
      refine nv_iast S w (i := (21 + 16 * d + 11)) (x := 0) (g := (enc X)) 1 rfl (by omega) (by decide) (ws' := [(b 0, .inr (7, [.ref (b 1), .ref (b 2), .ref (b 3), vI sm, vI th, .ref (b 4), vI tl, vI pl, .ref (b 5), vI ro, vI nu])), (b 1, .inl (Z 0, 853, .inl (ar 853 (un (enc X) (21 + 16 * d + 11) 0)))), (b 2, .inl (Z 0, 3412, .inl (ar 3412 sv))), (b 3, .inl (Z 0, 853, .inl (ar 853 sd))), (b 4, .inl (Z 0, 100, .inl (ar 100 t))), (b 5, .inl (Z 0, 128, .inl (ar 128 r)))]) rfl dX8_hears_85 (fun H locs w => ?_)
      have w := w.as (ws' := mdM Z b (vX X d (un (X.2.2 d) 11 0)) sv sd sm th tl pl ro nu t r) (mdM_e (un_v hd (by decide)))
      exact nv_vret S w hr hlocks (by unfold hearV; rw [if_neg (by omega)]; first | rw [if_pos (by omega)] | rw [if_neg (by omega)]) dX8_hears_86
  · skip
    refine lv_aload_n S.1 S.2.1 dX8_hears_9 rfl (lv_at hl 0 rfl) ?_
    refine nv_get S w (C := RX8) (T := TX8) (N := 11) hn_X8_hears_8 0 rfl rfl 0 (by decide) (List.mem_of_getElem? (i := 1) rfl) (v := .ref (b 1)) rfl dX8_hears_10 ?_
    refine lv_iload_n S.1 S.2.1 dX8_hears_13 rfl (lv_at hl 1 rfl) ?_
    refine lv_bipush (v := nI 11) S.1 S.2.1 dX8_hears_14 (by decide +kernel) ?_
    refine nv_pSi (rest := [.ref (b 1)]) S w hl.1 (c_X8_at l D Z d 11 ) gX8_hears_X8_at rfl hdS_X8_at ⟨Nat.le_of_ble_eq_true rfl, Nat.le_of_ble_eq_true rfl⟩ rfl rfl (Nat.le_of_ble_eq_true rfl) ⟨Nat.zero_le _, Nat.zero_le _⟩ dX8_hears_16 (fun H locs w => ?_)
    refine lv_aload_n S.1 S.2.1 dX8_hears_19 rfl (lv_at hl 0 rfl) ?_
    refine lv_iload_n S.1 S.2.1 dX8_hears_20 rfl (lv_at hl 1 rfl) ?_
    refine lv_iconst (v := nI 3) S.1 S.2.1 dX8_hears_21 (ofInt_nI 3) ?_
    refine nv_rVi (rest := [vI (21 + 16 * d + 11), .ref (b 1)]) S w hl.1 (c_X8_of l D Z b X sv sd sm th tl pl ro nu t r d 3 (by omega) (by omega)) [0, 1, 2, 3, 4, 5] rfl rfl gX8_hears_X8_of rfl hdV_X8_of ⟨Nat.le_of_ble_eq_true rfl, Nat.le_of_ble_eq_true rfl⟩ (q0 := 0) rfl rfl rfl rfl (Nat.le_of_ble_eq_true rfl) ⟨Nat.zero_le _, Nat.zero_le _⟩ dX8_hears_22 (fun H locs w => ?_)
    refine nv_pSi (rest := [vI (21 + 16 * d + 11), .ref (b 1)]) S w hl.1 (c_X8_heardBy l D Z (X.2.2 d 3) ) gX8_hears_X8_heardBy rfl hdS_X8_heardBy ⟨Nat.le_of_ble_eq_true rfl, Nat.le_of_ble_eq_true rfl⟩ rfl rfl (Nat.le_of_ble_eq_true rfl) ⟨Nat.zero_le _, Nat.zero_le _⟩ dX8_hears_25 (fun H locs w => ?_)
    refine nv_iast S w (i := (21 + 16 * d + 11)) (x := (16 * (16 * (X.2.2 d 3)) + 15)) (g := (enc X)) 1 rfl (by omega) (by decide) (ws' := [(b 0, .inr (7, [.ref (b 1), .ref (b 2), .ref (b 3), vI sm, vI th, .ref (b 4), vI tl, vI pl, .ref (b 5), vI ro, vI nu])), (b 1, .inl (Z 0, 853, .inl (ar 853 (un (enc X) (21 + 16 * d + 11) (16 * (16 * (X.2.2 d 3)) + 15))))), (b 2, .inl (Z 0, 3412, .inl (ar 3412 sv))), (b 3, .inl (Z 0, 853, .inl (ar 853 sd))), (b 4, .inl (Z 0, 100, .inl (ar 100 t))), (b 5, .inl (Z 0, 128, .inl (ar 128 r)))]) rfl dX8_hears_28 (fun H locs w => ?_)
    have w := w.as (ws' := mdM Z b (vX X d (un (X.2.2 d) 11 (16 * (16 * X.2.2 d 3) + 15))) sv sd sm th tl pl ro nu t r) (mdM_e (un_v hd (by decide)))
    refine lv_aload_n S.1 S.2.1 dX8_hears_29 rfl (lv_at hl 0 rfl) ?_
    refine nv_get S w (C := RX8) (T := TX8) (N := 11) hn_X8_hears_8 0 rfl rfl 0 (by decide) (List.mem_of_getElem? (i := 1) rfl) (v := .ref (b 1)) rfl dX8_hears_30 ?_
    refine lv_iload_n S.1 S.2.1 dX8_hears_33 rfl (lv_at hl 1 rfl) ?_
    refine lv_iconst (v := nI 2) S.1 S.2.1 dX8_hears_34 (ofInt_nI 2) ?_
    refine nv_pSi (rest := [.ref (b 1)]) S w hl.1 (c_X8_at l D Z d 2 ) gX8_hears_X8_at rfl hdS_X8_at ⟨Nat.le_of_ble_eq_true rfl, Nat.le_of_ble_eq_true rfl⟩ rfl rfl (Nat.le_of_ble_eq_true rfl) ⟨Nat.zero_le _, Nat.zero_le _⟩ dX8_hears_35 (fun H locs w => ?_)
    refine lv_dup2_11 S.1 S.2.1 dX8_hears_38 rfl rfl ?_
    refine nv_iald S w (i := (21 + 16 * d + 2)) (g := (enc (vX X d (un (X.2.2 d) 11 (16 * (16 * X.2.2 d 3) + 15))))) 1 rfl (by omega) (by decide) dX8_hears_39 ?_
    refine W.eq (g2 := F0 m 40 ls [vI (X.2.2 d 2), vI (21 + 16 * d + 2), .ref (b 1)]) (by rw [enc_v hd (by decide), vX_v, un_ne (by decide)]) ?_
    refine lv_iconst (v := nI 1) S.1 S.2.1 dX8_hears_40 (ofInt_nI 1) ?_
    refine nv_isub S (by omega) dX8_hears_41 ?_
    refine nv_iast S w (i := (21 + 16 * d + 2)) (x := ((X.2.2 d 2) - 1)) (g := (enc (vX X d (un (X.2.2 d) 11 (16 * (16 * X.2.2 d 3) + 15))))) 1 rfl (by omega) (by decide) (ws' := [(b 0, .inr (7, [.ref (b 1), .ref (b 2), .ref (b 3), vI sm, vI th, .ref (b 4), vI tl, vI pl, .ref (b 5), vI ro, vI nu])), (b 1, .inl (Z 0, 853, .inl (ar 853 (un (enc (vX X d (un (X.2.2 d) 11 (16 * (16 * X.2.2 d 3) + 15)))) (21 + 16 * d + 2) ((X.2.2 d 2) - 1))))), (b 2, .inl (Z 0, 3412, .inl (ar 3412 sv))), (b 3, .inl (Z 0, 853, .inl (ar 853 sd))), (b 4, .inl (Z 0, 100, .inl (ar 100 t))), (b 5, .inl (Z 0, 128, .inl (ar 128 r)))]) rfl dX8_hears_42 (fun H locs w => ?_)
    have w := w.as (ws' := mdM Z b (vX X d (un (un (X.2.2 d) 11 (16 * (16 * X.2.2 d 3) + 15)) 2 (X.2.2 d 2 - 1))) sv sd sm th tl pl ro nu t r) (mdM_e (by rw [un_v hd (by decide), vX_vX, vX_v]))
    refine lv_goto (tgt := 86) S.1 S.2.1 dX8_hears_43 (by decide) ?_
    exact nv_vret S w hr hlocks (by unfold hearV; rw [if_pos (by omega)]) dX8_hears_86
