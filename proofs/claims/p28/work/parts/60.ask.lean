theorem hn_X7_playingFact_7 : ∀ w ∈ wsX70, w ∈ wsX7_playingFact := by decide +kernel
theorem hn_X7_playingFact_5 : ∀ w ∈ wsX50, w ∈ wsX7_playingFact := by decide +kernel
theorem hn_X7_playingFact_3 : ∀ w ∈ wsX30, w ∈ wsX7_playingFact := by decide +kernel
theorem hn_X7_playingFact_4 : ∀ w ∈ wsX40, w ∈ wsX7_playingFact := by decide +kernel
set_option maxRecDepth 100000 in
set_option maxHeartbeats 4000000 in
theorem c_X7_playingFact (l : Launch) (D : va_G) (Z : Nat → ClassId) (z : Nat → Nat → Nat) (X : ST) (o n : Nat) (Y : Nat → ST) (tl ti ta tr : Nat) (t : Nat → Nat) (k : Nat → Nat → Nat) (P9 : PG) (v : Nat) (hX : XB X) (hv : v < 8) : Ci l yX7_playingFact wsX7_playingFact 2 42 D Z [.ref (z 0 0), vI v] (tpO Z z ++ plB Z (z 8) P9 ++ stB Z (z 1) X ++ ptB Z (z 7 0) (z 7 1) (z 7 2) tl ti ta tr t k ++ hiB Z (z 2 0) (z 2 1) (fun r => z (3 + r)) o n Y) (nI (valF X v)) (tpO Z z ++ plB Z (z 8) P9 ++ stB Z (z 1) X ++ ptB Z (z 7 0) (z 7 1) (z 7 2) tl ti ta tr t k ++ hiB Z (z 2 0) (z 2 1) (fun r => z (3 + r)) o n Y) := by
  refine ne_i (cc := cX7_playingFact) (maxL := 3) (by decide +kernel) rfl (Nat.le_of_ble_eq_true rfl) (fun p e s m args below meth c A ls (S : CallFix p m c cX7_playingFact 3 s args wsX7_playingFact RX7) hr hlocks hl w => ?_)
  have hp8 := hX.1.2.2.2.1
  have hl : lv_has ls 3 [(0, .ref (z 0 0)), (1, vI v)] := hl
  refine lv_aload_n S.1 S.2.1 dX7_playingFact_0 rfl (lv_at hl 0 rfl) ?_
  refine nv_get S w (C := RX7) (T := TX7) (N := 4) hn_X7_playingFact_7 0 rfl rfl 0 (by decide) (List.mem_of_getElem? (i := 1) rfl) (v := .ref (z 1 0)) rfl dX7_playingFact_1 ?_
  refine nv_get S w (C := RX5) (T := TX5) (N := 2) hn_X7_playingFact_5 15 rfl rfl 1 (by decide) (List.mem_of_getElem? (i := 2) rfl) (v := .ref ((z 1) 5)) rfl dX7_playingFact_4 ?_
  refine lv_astore_n (lv' := [(2, .ref ((z 1) 5)), (0, .ref (z 0 0)), (1, vI v)]) S.1 S.2.1 dX7_playingFact_7 rfl hl (by decide) rfl (fun ls hl => ?_)
  refine lv_iload_n S.1 S.2.1 dX7_playingFact_8 rfl (lv_at hl 2 rfl) ?_
  by_cases h_1 : v = 0
  · skip
    refine nv_tableIn S (by omega) dX7_playingFact_9 (by rw [h_1]; decide) (by rw [h_1]; decide) (off := 43) (by rw [h_1]; rfl) (tgt := 52) (by decide) ?_
    refine lv_aload_n S.1 S.2.1 dX7_playingFact_52 rfl (lv_at hl 0 rfl) ?_
    refine nv_get S w (C := RX3) (T := TX3) (N := 7) hn_X7_playingFact_3 16 rfl rfl 0 (by decide) (List.mem_of_getElem? (i := 3) rfl) (v := vI (X.2.1 0)) rfl dX7_playingFact_53 ?_
    exact nv_iret S w hr hlocks rfl (by rw [h_1]; rfl) (by simp only [stB, List.append_assoc]) dX7_playingFact_56
  · skip
    by_cases h_2 : v = 1
    · skip
      refine nv_tableIn S (by omega) dX7_playingFact_9 (by rw [h_2]; decide) (by rw [h_2]; decide) (off := 48) (by rw [h_2]; rfl) (tgt := 57) (by decide) ?_
      refine lv_aload_n S.1 S.2.1 dX7_playingFact_57 rfl (lv_at hl 0 rfl) ?_
      refine nv_get S w (C := RX3) (T := TX3) (N := 7) hn_X7_playingFact_3 16 rfl rfl 1 (by decide) (List.mem_of_getElem? (i := 4) rfl) (v := vI (X.2.1 1)) rfl dX7_playingFact_58 ?_
      exact nv_iret S w hr hlocks rfl (by rw [h_2]; rfl) (by simp only [stB, List.append_assoc]) dX7_playingFact_61
    · skip
      by_cases h_3 : v = 2
      · skip
        refine nv_tableIn S (by omega) dX7_playingFact_9 (by rw [h_3]; decide) (by rw [h_3]; decide) (off := 53) (by rw [h_3]; rfl) (tgt := 62) (by decide) ?_
        refine lv_aload_n S.1 S.2.1 dX7_playingFact_62 rfl (lv_at hl 0 rfl) ?_
        refine nv_get S w (C := RX3) (T := TX3) (N := 7) hn_X7_playingFact_3 16 rfl rfl 2 (by decide) (List.mem_of_getElem? (i := 5) rfl) (v := vI (X.2.1 2)) rfl dX7_playingFact_63 ?_
        exact nv_iret S w hr hlocks rfl (by rw [h_3]; rfl) (by simp only [stB, List.append_assoc]) dX7_playingFact_66
      · skip
        by_cases h_4 : v = 3
        · skip
          refine nv_tableIn S (by omega) dX7_playingFact_9 (by rw [h_4]; decide) (by rw [h_4]; decide) (off := 58) (by rw [h_4]; rfl) (tgt := 67) (by decide) ?_
          refine lv_aload_n S.1 S.2.1 dX7_playingFact_67 rfl (lv_at hl 0 rfl) ?_
          refine nv_get S w (C := RX3) (T := TX3) (N := 7) hn_X7_playingFact_3 16 rfl rfl 3 (by decide) (List.mem_of_getElem? (i := 6) rfl) (v := vI (X.2.1 3)) rfl dX7_playingFact_68 ?_
          exact nv_iret S w hr hlocks rfl (by rw [h_4]; rfl) (by simp only [stB, List.append_assoc]) dX7_playingFact_71
        · skip
          by_cases h_5 : v = 4
          · skip
            refine nv_tableIn S (by omega) dX7_playingFact_9 (by rw [h_5]; decide) (by rw [h_5]; decide) (off := 63) (by rw [h_5]; rfl) (tgt := 72) (by decide) ?_
            refine lv_aload_n S.1 S.2.1 dX7_playingFact_72 rfl (lv_at hl 0 rfl) ?_
            refine nv_get S w (C := RX3) (T := TX3) (N := 7) hn_X7_playingFact_3 16 rfl rfl 4 (by decide) (List.mem_of_getElem? (i := 7) rfl) (v := vI (X.2.1 4)) rfl dX7_playingFact_73 ?_
            exact nv_iret S w hr hlocks rfl (by rw [h_5]; rfl) (by simp only [stB, List.append_assoc]) dX7_playingFact_76
          · skip
            by_cases h_6 : v = 5
            · skip
              refine nv_tableIn S (by omega) dX7_playingFact_9 (by rw [h_6]; decide) (by rw [h_6]; decide) (off := 68) (by rw [h_6]; rfl) (tgt := 77) (by decide) ?_
              refine lv_aload_n S.1 S.2.1 dX7_playingFact_77 rfl (lv_at hl 0 rfl) ?_
              refine nv_get S w (C := RX3) (T := TX3) (N := 7) hn_X7_playingFact_3 16 rfl rfl 5 (by decide) (List.mem_of_getElem? (i := 8) rfl) (v := vI (X.2.1 5)) rfl dX7_playingFact_78 ?_
              exact nv_iret S w hr hlocks rfl (by rw [h_6]; rfl) (by simp only [stB, List.append_assoc]) dX7_playingFact_81
            · skip
              by_cases h_7 : v = 6
              · skip
                refine nv_tableIn S (by omega) dX7_playingFact_9 (by rw [h_7]; decide) (by rw [h_7]; decide) (off := 73) (by rw [h_7]; rfl) (tgt := 82) (by decide) ?_
                refine lv_aload_n S.1 S.2.1 dX7_playingFact_82 rfl (lv_at hl 1 rfl) ?_
                refine nv_get S w (C := RX7) (T := TX7) (N := 4) hn_X7_playingFact_7 0 rfl rfl 0 (by decide) (List.mem_of_getElem? (i := 1) rfl) (v := .ref (z 1 0)) rfl dX7_playingFact_83 ?_
                refine nv_get S w (C := RX5) (T := TX5) (N := 2) hn_X7_playingFact_5 15 rfl rfl 0 (by decide) (List.mem_of_getElem? (i := 9) rfl) (v := .ref ((z 1) 1)) rfl dX7_playingFact_86 ?_
                refine nv_get S w (C := RX4) (T := TX4) (N := 4) hn_X7_playingFact_4 30 rfl rfl 3 (by decide) (List.mem_of_getElem? (i := 10) rfl) (v := vI X.1.2.2.2) rfl dX7_playingFact_89 ?_
                exact nv_iret S w hr hlocks rfl (by rw [h_7]; rfl) (by simp only [stB, List.append_assoc]) dX7_playingFact_92
              · skip
                refine nv_tableOut S (by omega) dX7_playingFact_9 (by omega) (tgt := 93) (by decide) ?_
                refine lv_aload_n S.1 S.2.1 dX7_playingFact_93 rfl (lv_at hl 1 rfl) ?_
                refine nv_get S w (C := RX7) (T := TX7) (N := 4) hn_X7_playingFact_7 0 rfl rfl 0 (by decide) (List.mem_of_getElem? (i := 1) rfl) (v := .ref (z 1 0)) rfl dX7_playingFact_94 ?_
                refine nv_get S w (C := RX5) (T := TX5) (N := 2) hn_X7_playingFact_5 15 rfl rfl 0 (by decide) (List.mem_of_getElem? (i := 9) rfl) (v := .ref ((z 1) 1)) rfl dX7_playingFact_97 ?_
                have w := w.as (ws' := tpO Z z ++ plB Z (z 8) P9 ++ stO Z ((z 1) 0) ((z 1) 1) ((z 1) 5) ++ plB Z (fun k => (z 1) (5 + k)) X.2 ++ songB Z ((z 1) 1) ((z 1) 2) ((z 1) 3) ((z 1) 4) X.1 ++ ptB Z (z 7 0) (z 7 1) (z 7 2) tl ti ta tr t k ++ hiB Z (z 2 0) (z 2 1) (fun r => z (3 + r)) o n Y) (by simp only [stB, List.append_assoc])
                refine lv_aload_n S.1 S.2.1 dX7_playingFact_100 rfl (lv_at hl 0 rfl) ?_
                refine nv_get S w (C := RX3) (T := TX3) (N := 7) hn_X7_playingFact_3 16 rfl rfl 0 (by decide) (List.mem_of_getElem? (i := 3) rfl) (v := vI (X.2.1 0)) rfl dX7_playingFact_101 ?_
                refine nv_gVi (rest := []) (tpO Z z ++ plB Z (z 8) P9 ++ stO Z ((z 1) 0) ((z 1) 1) ((z 1) 5) ++ plB Z (fun k => (z 1) (5 + k)) X.2) (ptB Z (z 7 0) (z 7 1) (z 7 2) tl ti ta tr t k ++ hiB Z (z 2 0) (z 2 1) (fun r => z (3 + r)) o n Y) S w hl.1 (c_X4_patternAt l D Z ((z 1) 1) ((z 1) 2) ((z 1) 3) ((z 1) 4) X.1 (X.2.1 0) hX.2.1.1 (by omega)) (by simp only [List.append_assoc, List.nil_append, List.append_nil]) gX7_playingFact_X4_patternAt rfl hdV_X4_patternAt ⟨Nat.le_of_ble_eq_true rfl, Nat.le_of_ble_eq_true rfl⟩ (q0 := 0) rfl rfl rfl rfl (Nat.le_of_ble_eq_true rfl) ⟨Nat.zero_le _, Nat.zero_le _⟩ dX7_playingFact_104 (fun H locs w => ?_)
                exact nv_iret S w hr hlocks rfl (by rw [show v = 7 by omega]; rfl) (by simp only [stB, List.append_assoc]) dX7_playingFact_107

theorem hdV_X7_playingFact : yX7_playingFact.cls = RX7 ∧ yX7_playingFact.cls ≠ "java/lang/invoke/MethodHandle" ∧ yX7_playingFact.cls ≠ "java/lang/invoke/VarHandle" ∧ (parseMethodDescriptor yX7_playingFact.desc).map (fun d => d.parameters.length) = some 1 := by decide +kernel
set_option maxRecDepth 100000 in
set_option maxHeartbeats 4000000 in
theorem c_X7_value (l : Launch) (hst : l.stackTraces = false) (D : va_G) (Z : Nat → ClassId) (z : Nat → Nat → Nat) (X : ST) (o n : Nat) (Y : Nat → ST) (tl ti ta tr : Nat) (t : Nat → Nat) (k : Nat → Nat → Nat) (P9 : PG) (xa : Int32) (hX : XB X) : Xi l yX7_value wsX7_value 7 104 1 6 D Z [.ref (z 0 0), .int xa] (tpO Z z ++ plB Z (z 8) P9 ++ stB Z (z 1) X ++ ptB Z (z 7 0) (z 7 1) (z 7 2) tl ti ta tr t k ++ hiB Z (z 2 0) (z 2 1) (fun r => z (3 + r)) o n Y) (xI (rgI 0 7 xa) eIA none) (nI (valF X (toN xa))) (tpO Z z ++ plB Z (z 8) P9 ++ stB Z (z 1) X ++ ptB Z (z 7 0) (z 7 1) (z 7 2) tl ti ta tr t k ++ hiB Z (z 2 0) (z 2 1) (fun r => z (3 + r)) o n Y) := by
  refine nxe_i (cc := cX7_value) (maxL := 2) (by decide +kernel) rfl (Nat.le_of_ble_eq_true rfl) (fun p e s m args below meth c A ls (S : CallFix p m c cX7_value 2 s args wsX7_value RX7) hr hlocks htab X9 hl w => ?_)
  have hl : lv_has ls 2 [(0, .ref (z 0 0)), (1, .int xa)] := hl
  refine lv_iload_n S.1 S.2.1 dX7_value_0 rfl (lv_at hl 1 rfl) ?_
  refine lv_iconst (v := nI 0) S.1 S.2.1 dX7_value_1 (ofInt_nI 0) ?_
  refine lv_bipush (v := nI 7) S.1 S.2.1 dX7_value_2 (by decide +kernel) ?_
  refine nx_pSv (rest := []) S w X9 hl.1 (c_X7_requireRange l hst D Z xa 0 7 ) gX7_value_X7_requireRange rfl hdS_X7_requireRange ⟨Nat.le_of_ble_eq_true rfl, Nat.le_of_ble_eq_true rfl⟩ rfl rfl (Nat.le_of_ble_eq_true rfl) ⟨Nat.le_of_ble_eq_true rfl, Nat.le_of_ble_eq_true rfl⟩ dX7_value_4 (fun E9 ce q9 H locs hE w hc9 hv9 hf9 => ?_) (fun hN H locs w => ?_)
  · exact nx_out w htab hlocks hc9 hv9 hf9 (xI_f (xI_no hE)) (Nat.le_of_ble_eq_true rfl) (Nat.le_of_ble_eq_true rfl)
  · skip
    have h_1 := xI_yes hN
    obtain ⟨na, rfl, hna⟩ := rg_nat (by decide) (by decide) h_1
    have eqna : toN (nI na) = na := toN_nI (by omega)
    refine lv_aload_n S.1 S.2.1 dX7_value_7 rfl (lv_at hl 0 rfl) ?_
    refine lv_iload_n S.1 S.2.1 dX7_value_8 rfl (lv_at hl 1 rfl) ?_
    refine nv_gVi (rest := []) ([]) ([]) S w hl.1 (c_X7_playingFact l D Z z X o n Y tl ti ta tr t k P9 na hX (by omega)) (by simp only [List.append_assoc, List.nil_append, List.append_nil]) gX7_value_X7_playingFact rfl hdV_X7_playingFact ⟨Nat.le_of_ble_eq_true rfl, Nat.le_of_ble_eq_true rfl⟩ (q0 := 0) rfl rfl rfl rfl (Nat.le_of_ble_eq_true rfl) ⟨Nat.le_of_ble_eq_true rfl, Nat.le_of_ble_eq_true rfl⟩ dX7_value_9 (fun H locs w => ?_)
    exact nx_iret S w hr hlocks rfl ((xI_t h_1).trans (rfl)) (by simp only [eqna]) rfl (Nat.le_of_ble_eq_true rfl) (Nat.le_of_ble_eq_true rfl) dX7_value_12

theorem hn_X7_hashOf_7 : ∀ w ∈ wsX70, w ∈ wsX7_hashOf := by decide +kernel
theorem hn_X7_hashOf_5 : ∀ w ∈ wsX50, w ∈ wsX7_hashOf := by decide +kernel
set_option maxRecDepth 100000 in
set_option maxHeartbeats 4000000 in
theorem c_X7_hashOf (l : Launch) (hst : l.stackTraces = false) (D : va_G) (Z : Nat → ClassId) (z : Nat → Nat → Nat) (X : ST) (o n : Nat) (Y : Nat → ST) (tl ti ta tr : Nat) (t : Nat → Nat) (k : Nat → Nat → Nat) (P9 : PG) (xa : Int32) (hX : XB X) : Xi l yX7_hashOf wsX7_hashOf 7 145 1 6 D Z [.ref (z 0 0), .int xa] (tpO Z z ++ plB Z (z 8) P9 ++ stB Z (z 1) X ++ ptB Z (z 7 0) (z 7 1) (z 7 2) tl ti ta tr t k ++ hiB Z (z 2 0) (z 2 1) (fun r => z (3 + r)) o n Y) (xI (rgI 0 500 xa) eIA none) (hsN X.1 X.2 (toN xa)) (tpO Z z ++ plB Z (z 8) (tkN X.1 X.2 (toN xa)) ++ stB Z (z 1) X ++ ptB Z (z 7 0) (z 7 1) (z 7 2) tl ti ta tr t k ++ hiB Z (z 2 0) (z 2 1) (fun r => z (3 + r)) o n Y) := by
  refine nxe_i (cc := cX7_hashOf) (maxL := 2) (by decide +kernel) rfl (Nat.le_of_ble_eq_true rfl) (fun p e s m args below meth c A ls (S : CallFix p m c cX7_hashOf 2 s args wsX7_hashOf RX7) hr hlocks htab X9 hl w => ?_)
  have hl : lv_has ls 2 [(0, .ref (z 0 0)), (1, .int xa)] := hl
  refine lv_iload_n S.1 S.2.1 dX7_hashOf_0 rfl (lv_at hl 1 rfl) ?_
  refine lv_iconst (v := nI 0) S.1 S.2.1 dX7_hashOf_1 (ofInt_nI 0) ?_
  refine lv_sipush (v := nI 500) S.1 S.2.1 dX7_hashOf_2 (by decide +kernel) ?_
  refine nx_pSv (rest := []) S w X9 hl.1 (c_X7_requireRange l hst D Z xa 0 500 ) gX7_hashOf_X7_requireRange rfl hdS_X7_requireRange ⟨Nat.le_of_ble_eq_true rfl, Nat.le_of_ble_eq_true rfl⟩ rfl rfl (Nat.le_of_ble_eq_true rfl) ⟨Nat.le_of_ble_eq_true rfl, Nat.le_of_ble_eq_true rfl⟩ dX7_hashOf_5 (fun E9 ce q9 H locs hE w hc9 hv9 hf9 => ?_) (fun hN H locs w => ?_)
  · exact nx_out w htab hlocks hc9 hv9 hf9 (xI_f (xI_no hE)) (Nat.le_of_ble_eq_true rfl) (Nat.le_of_ble_eq_true rfl)
  · skip
    have h_1 := xI_yes hN
    obtain ⟨na, rfl, hna⟩ := rg_nat (by decide) (by decide) h_1
    have eqna : toN (nI na) = na := toN_nI (by omega)
    refine lv_aload_n S.1 S.2.1 dX7_hashOf_8 rfl (lv_at hl 0 rfl) ?_
    have w := w.as (ws' := tpO Z z ++ plB Z (z 8) P9 ++ stO Z ((z 1) 0) ((z 1) 1) ((z 1) 5) ++ plB Z (fun k => (z 1) (5 + k)) X.2 ++ songB Z ((z 1) 1) ((z 1) 2) ((z 1) 3) ((z 1) 4) X.1 ++ ptB Z (z 7 0) (z 7 1) (z 7 2) tl ti ta tr t k ++ hiB Z (z 2 0) (z 2 1) (fun r => z (3 + r)) o n Y) (by simp only [stB, List.append_assoc])
    refine nv_get S w (C := RX7) (T := TX7) (N := 4) hn_X7_hashOf_7 0 rfl rfl 3 (by decide) (List.mem_of_getElem? (i := 1) rfl) (v := .ref (z 8 0)) rfl dX7_hashOf_9 ?_
    refine lv_aload_n S.1 S.2.1 dX7_hashOf_12 rfl (lv_at hl 0 rfl) ?_
    refine nv_get S w (C := RX7) (T := TX7) (N := 4) hn_X7_hashOf_7 0 rfl rfl 0 (by decide) (List.mem_of_getElem? (i := 2) rfl) (v := .ref (z 1 0)) rfl dX7_hashOf_13 ?_
    refine nv_get S w (C := RX5) (T := TX5) (N := 2) hn_X7_hashOf_5 15 rfl rfl 1 (by decide) (List.mem_of_getElem? (i := 3) rfl) (v := .ref ((z 1) 5)) rfl dX7_hashOf_16 ?_
    have w := w.perm (ws' := tpO Z z ++ plB Z (z 8) P9 ++ plB Z (fun k => (z 1) (5 + k)) X.2 ++ stO Z ((z 1) 0) ((z 1) 1) ((z 1) 5) ++ songB Z ((z 1) 1) ((z 1) 2) ((z 1) 3) ((z 1) 4) X.1 ++ ptB Z (z 7 0) (z 7 1) (z 7 2) tl ti ta tr t k ++ hiB Z (z 2 0) (z 2 1) (fun r => z (3 + r)) o n Y) (List.Perm.append_right _ (List.Perm.append_right _ (List.Perm.append_right _ sw2)))
    refine nv_fVv (rest := []) (tpO Z z) (stO Z ((z 1) 0) ((z 1) 1) ((z 1) 5) ++ songB Z ((z 1) 1) ((z 1) 2) ((z 1) 3) ((z 1) 4) X.1 ++ ptB Z (z 7 0) (z 7 1) (z 7 2) tl ti ta tr t k ++ hiB Z (z 2 0) (z 2 1) (fun r => z (3 + r)) o n Y) (ws' := tpO Z z ++ plB Z (z 8) X.2 ++ plB Z (fun k => (z 1) (5 + k)) X.2 ++ stO Z ((z 1) 0) ((z 1) 1) ((z 1) 5) ++ songB Z ((z 1) 1) ((z 1) 2) ((z 1) 3) ((z 1) 4) X.1 ++ ptB Z (z 7 0) (z 7 1) (z 7 2) tl ti ta tr t k ++ hiB Z (z 2 0) (z 2 1) (fun r => z (3 + r)) o n Y) S w hl.1 (c_X3_copyFrom l D Z (z 8) P9 (fun k => (z 1) (5 + k)) X.2 ) (by simp only [List.append_assoc, List.nil_append, List.append_nil]) rfl (by simp only [List.append_assoc, List.nil_append, List.append_nil]) gX7_hashOf_X3_copyFrom rfl hdV_X3_copyFrom ⟨Nat.le_of_ble_eq_true rfl, Nat.le_of_ble_eq_true rfl⟩ (q0 := 0) rfl rfl rfl rfl (Nat.le_of_ble_eq_true rfl) ⟨Nat.le_of_ble_eq_true rfl, Nat.le_of_ble_eq_true rfl⟩ dX7_hashOf_19 (fun H locs w => ?_)
    have w := w.perm (ws' := tpO Z z ++ plB Z (z 8) X.2 ++ stO Z ((z 1) 0) ((z 1) 1) ((z 1) 5) ++ plB Z (fun k => (z 1) (5 + k)) X.2 ++ songB Z ((z 1) 1) ((z 1) 2) ((z 1) 3) ((z 1) 4) X.1 ++ ptB Z (z 7 0) (z 7 1) (z 7 2) tl ti ta tr t k ++ hiB Z (z 2 0) (z 2 1) (fun r => z (3 + r)) o n Y) (List.Perm.append_right _ (List.Perm.append_right _ (List.Perm.append_right _ sw2)))
    refine lv_aload_n S.1 S.2.1 dX7_hashOf_22 rfl (lv_at hl 0 rfl) ?_
    refine nv_get S w (C := RX7) (T := TX7) (N := 4) hn_X7_hashOf_7 0 rfl rfl 3 (by decide) (List.mem_of_getElem? (i := 1) rfl) (v := .ref (z 8 0)) rfl dX7_hashOf_23 ?_
    refine lv_aload_n S.1 S.2.1 dX7_hashOf_26 rfl (lv_at hl 0 rfl) ?_
    refine nv_get S w (C := RX7) (T := TX7) (N := 4) hn_X7_hashOf_7 0 rfl rfl 0 (by decide) (List.mem_of_getElem? (i := 2) rfl) (v := .ref (z 1 0)) rfl dX7_hashOf_27 ?_
    refine nv_get S w (C := RX5) (T := TX5) (N := 2) hn_X7_hashOf_5 15 rfl rfl 0 (by decide) (List.mem_of_getElem? (i := 4) rfl) (v := .ref ((z 1) 1)) rfl dX7_hashOf_30 ?_
    refine lv_iload_n S.1 S.2.1 dX7_hashOf_33 rfl (lv_at hl 1 rfl) ?_
    have w := w.perm (ws' := tpO Z z ++ plB Z (z 8) X.2 ++ songB Z ((z 1) 1) ((z 1) 2) ((z 1) 3) ((z 1) 4) X.1 ++ stO Z ((z 1) 0) ((z 1) 1) ((z 1) 5) ++ plB Z (fun k => (z 1) (5 + k)) X.2 ++ ptB Z (z 7 0) (z 7 1) (z 7 2) tl ti ta tr t k ++ hiB Z (z 2 0) (z 2 1) (fun r => z (3 + r)) o n Y) (List.Perm.trans (List.Perm.append_right _ (List.Perm.append_right _ sw2)) (List.Perm.append_right _ (List.Perm.append_right _ (List.Perm.append_right _ sw2))))
    refine nv_fVi (rest := []) (tpO Z z) (stO Z ((z 1) 0) ((z 1) 1) ((z 1) 5) ++ plB Z (fun k => (z 1) (5 + k)) X.2 ++ ptB Z (z 7 0) (z 7 1) (z 7 2) tl ti ta tr t k ++ hiB Z (z 2 0) (z 2 1) (fun r => z (3 + r)) o n Y) (ws' := tpO Z z ++ plB Z (z 8) (tkN X.1 X.2 na) ++ songB Z ((z 1) 1) ((z 1) 2) ((z 1) 3) ((z 1) 4) X.1 ++ stO Z ((z 1) 0) ((z 1) 1) ((z 1) 5) ++ plB Z (fun k => (z 1) (5 + k)) X.2 ++ ptB Z (z 7 0) (z 7 1) (z 7 2) tl ti ta tr t k ++ hiB Z (z 2 0) (z 2 1) (fun r => z (3 + r)) o n Y) S w hl.1 (c_X3_passTicks l D Z (z 8) X.2 ((z 1) 1) ((z 1) 2) ((z 1) 3) ((z 1) 4) X.1 na hX.1 hX.2.1 (by omega)) (by simp only [List.append_assoc, List.nil_append, List.append_nil]) rfl (by simp only [List.append_assoc, List.nil_append, List.append_nil]) gX7_hashOf_X3_passTicks rfl hdV_X3_passTicks ⟨Nat.le_of_ble_eq_true rfl, Nat.le_of_ble_eq_true rfl⟩ (q0 := 0) rfl rfl rfl rfl (Nat.le_of_ble_eq_true rfl) ⟨Nat.le_of_ble_eq_true rfl, Nat.le_of_ble_eq_true rfl⟩ dX7_hashOf_34 (fun H locs w => ?_)
    have w := w.perm (ws' := tpO Z z ++ plB Z (z 8) (tkN X.1 X.2 na) ++ stO Z ((z 1) 0) ((z 1) 1) ((z 1) 5) ++ plB Z (fun k => (z 1) (5 + k)) X.2 ++ songB Z ((z 1) 1) ((z 1) 2) ((z 1) 3) ((z 1) 4) X.1 ++ ptB Z (z 7 0) (z 7 1) (z 7 2) tl ti ta tr t k ++ hiB Z (z 2 0) (z 2 1) (fun r => z (3 + r)) o n Y) (List.Perm.trans (List.Perm.append_right _ (List.Perm.append_right _ (List.Perm.append_right _ sw2))) (List.Perm.append_right _ (List.Perm.append_right _ sw2)))
    exact nx_iret S w hr hlocks rfl ((xI_t h_1).trans (rfl)) (by simp only [eqna]) (by simp only [eqna, stB, List.append_assoc]) (Nat.le_of_ble_eq_true rfl) (Nat.le_of_ble_eq_true rfl) dX7_hashOf_37
