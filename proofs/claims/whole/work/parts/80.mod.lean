theorem hn_X8_cellsOf_8 : ∀ w ∈ wsX80, w ∈ wsX8_cellsOf := by decide +kernel
set_option maxRecDepth 100000 in
set_option maxHeartbeats 4000000 in
theorem k_X8_cellsOf0 (l : Launch) (D : va_G) (Z : Nat → ClassId) (b : Nat → Nat) (X : ST) (sv sd : Nat → Nat) (sm th tl pl ro nu : Nat) (t r : Nat → Nat) (a : Nat) (hs : SB X.1) (ha : a < 6) {p : Program} {e : Env} {s : State} {m : MethodId} {args : Array Value} {below : List Frame} {meth : Method} {c : Code} {A : Nat → Prop} (S : CallFix p m c cX8_cellsOf 6 s args wsX8_cellsOf RX8) (hr : meth.sig.returnType = (some .int)) (hlocks : meth.locks = false) : ∀ (n9 : Nat), (∀ (k x : Nat) (hk9 : k ≤ 4 * X.1.2.1 a) (ex : x = cnt (toneN X.1 a) k) (hm : 4 * X.1.2.1 a - k < n9), ∀ (H : Heap) (locs : List Loc) (ls : Array Slot) (hl : lv_has ls 6 [(0, .ref (b 0)), (1, vI a), (2, vI 0), (3, vI x), (4, vI (85 + 4 * cix a 0 0)), (5, vI k)]) (w : Wd D Z A s (mdM Z b X sv sd sm th tl pl ro nu t r) H locs), W p l e (rmO 1 25) s m args below meth c H locs 0 0 (Qi below D Z A args s (nI (cnt (toneN X.1 a) (4 * X.1.2.1 a))) (mdM Z b X sv sd sm th tl pl ro nu t r)) (F0 m 13 ls [])) := by
  intro n9
  have hra := hs.2.1 a ha
  induction n9 with
  | zero => intro k x hk9 ex hm; exact absurd hm (Nat.not_lt_zero _)
  | succ n9 ih =>
    skip
    · intro k x hk9 ex hm H locs ls hl w
      have hcl := cnt_le (f := toneN X.1 a) (fun i => bP_le _) k
      refine lv_iload S.1 S.2.1 dX8_cellsOf_13 (lv_at hl 5 rfl) ?_
      refine lv_iconst (v := nI 4) S.1 S.2.1 dX8_cellsOf_15 (ofInt_nI 4) ?_
      refine lv_aload_n S.1 S.2.1 dX8_cellsOf_16 rfl (lv_at hl 0 rfl) ?_
      refine nv_get S w (C := RX8) (T := TX8) (N := 11) hn_X8_cellsOf_8 0 rfl rfl 0 (by decide) (List.mem_of_getElem? (i := 1) rfl) (v := .ref (b 1)) rfl dX8_cellsOf_17 ?_
      refine lv_bipush (v := nI 15) S.1 S.2.1 dX8_cellsOf_20 (by decide +kernel) ?_
      refine lv_iload_n S.1 S.2.1 dX8_cellsOf_22 rfl (lv_at hl 1 rfl) ?_
      refine nv_iadd S dX8_cellsOf_23 ?_
      refine nv_iald S w (i := (15 + a)) (g := (enc X)) 1 rfl (by omega) (by decide) dX8_cellsOf_24 ?_
      refine W.eq (g2 := F0 m 25 ls [vI (X.1.2.1 a), vI 4, vI k]) (by rw [enc_r (by omega)]) ?_
      refine nv_imul S dX8_cellsOf_25 ?_
      refine nv_icmp_ge S (by omega) (by omega) (tgt := 94) dX8_cellsOf_26 (by decide) (fun h_1 => ?_) (fun h_1 => ?_)
      · skip
        refine lv_iload_n S.1 S.2.1 dX8_cellsOf_94 rfl (lv_at hl 3 rfl) ?_
        exact nv_iret S w hr hlocks rfl (by rw [ex, show k = 4 * X.1.2.1 a by omega]) rfl dX8_cellsOf_95
      · skip
        have hrb := hs.1 (32 * a + k) (by omega)
        unfold RB at hrb
        refine lv_iload_n S.1 S.2.1 dX8_cellsOf_29 rfl (lv_at hl 3 rfl) ?_
        refine lv_iload_n S.1 S.2.1 dX8_cellsOf_30 rfl (lv_at hl 2 rfl) ?_
        refine lv_if_eq (tgt := 56) S.1 S.2.1 dX8_cellsOf_31 (by decide) (fun _ => ?_) (fun h9 => absurd (by decide) h9)
        refine lv_aload_n S.1 S.2.1 dX8_cellsOf_56 rfl (lv_at hl 0 rfl) ?_
        refine nv_get S w (C := RX8) (T := TX8) (N := 11) hn_X8_cellsOf_8 0 rfl rfl 0 (by decide) (List.mem_of_getElem? (i := 1) rfl) (v := .ref (b 1)) rfl dX8_cellsOf_57 ?_
        refine lv_iload S.1 S.2.1 dX8_cellsOf_60 (lv_at hl 4 rfl) ?_
        refine lv_iconst (v := nI 4) S.1 S.2.1 dX8_cellsOf_62 (ofInt_nI 4) ?_
        refine lv_iload S.1 S.2.1 dX8_cellsOf_63 (lv_at hl 5 rfl) ?_
        refine nv_imul S dX8_cellsOf_65 ?_
        refine nv_iadd S dX8_cellsOf_66 ?_
        refine lv_iconst (v := nI 0) S.1 S.2.1 dX8_cellsOf_67 (ofInt_nI 0) ?_
        refine nv_iadd S dX8_cellsOf_68 ?_
        refine nv_iald S w (i := (((85 + 4 * cix a 0 0) + (4 * k)) + 0)) (g := (enc X)) 1 rfl (by unfold cix; omega) (by decide) dX8_cellsOf_69 ?_
        refine W.eq (g2 := F0 m 70 ls [vI (X.1.1 (32 * a + k) 0), vI x]) (by rw [show 85 + 4 * cix a 0 0 + 4 * k + 0 = 85 + 4 * (32 * a + k) + 0 by unfold cix; omega, enc_c (by decide)]) ?_
        refine lv_i2l (v := (nI (X.1.1 (32 * a + k) 0)).toInt64) S.1 S.2.1 dX8_cellsOf_70 rfl ?_
        refine lv_lconst (v := 1) S.1 S.2.1 dX8_cellsOf_71 rfl ?_
        refine lv_ldc2 (v := 60) S.1 S.2.1 S.2.2.2.1 (S.2.2.2.2 _ (by decide +kernel)) dX8_cellsOf_72 ?_
        refine nv_pSi (rest := [vI x]) S w hl.1 (c_X8_inN l D Z (X.1.1 (32 * a + k) 0) 1 60 (by omega) (by omega) (by omega)) gX8_cellsOf_X8_in rfl hdS_X8_in ⟨Nat.le_of_ble_eq_true rfl, Nat.le_of_ble_eq_true rfl⟩ rfl rfl (Nat.le_of_ble_eq_true rfl) ⟨Nat.zero_le _, Nat.zero_le _⟩ dX8_cellsOf_75 (fun H locs w => ?_)
        refine nv_if_eqB S (tgt := 85) dX8_cellsOf_78 (by decide) (fun h_3 => ?_) (fun h_3 => ?_)
        · skip
          refine lv_iconst (v := nI 0) S.1 S.2.1 dX8_cellsOf_85 (ofInt_nI 0) ?_
          refine nv_iadd S dX8_cellsOf_86 ?_
          refine lv_istore_n (lv' := [(3, vI (x + 0)), (0, .ref (b 0)), (1, vI a), (2, vI 0), (4, vI (85 + 4 * cix a 0 0)), (5, vI k)]) S.1 S.2.1 dX8_cellsOf_87 rfl hl (by decide) rfl (fun ls hl => ?_)
          refine lv_iinc (v := nI (k + 1)) (lv' := [(5, vI (k + 1)), (3, vI (x + 0)), (0, .ref (b 0)), (1, vI a), (2, vI 0), (4, vI (85 + 4 * cix a 0 0))]) S.1 S.2.1 dX8_cellsOf_88 hl (k := 5) rfl (nI_incI k 1) (by decide) rfl (fun ls hl => ?_)
          refine lv_goto (tgt := 13) S.1 S.2.1 dX8_cellsOf_91 (by decide) ?_
          exact ih (k + 1) (x + 0) (by omega) (by have hq : cnt (toneN X.1 a) (k + 1) = cnt (toneN X.1 a) k + toneN X.1 a k := rfl; unfold toneN at hq; rw [bP_f h_3] at hq; unfold toneN at ex ⊢; omega) (by omega) _ _ _ (lv_sub hl [2, 3, 4, 1, 5, 0] rfl) w
        · skip
          refine lv_iconst (v := nI 1) S.1 S.2.1 dX8_cellsOf_81 (ofInt_nI 1) ?_
          refine lv_goto (tgt := 86) S.1 S.2.1 dX8_cellsOf_82 (by decide) ?_
          refine nv_iadd S dX8_cellsOf_86 ?_
          refine lv_istore_n (lv' := [(3, vI (x + 1)), (0, .ref (b 0)), (1, vI a), (2, vI 0), (4, vI (85 + 4 * cix a 0 0)), (5, vI k)]) S.1 S.2.1 dX8_cellsOf_87 rfl hl (by decide) rfl (fun ls hl => ?_)
          refine lv_iinc (v := nI (k + 1)) (lv' := [(5, vI (k + 1)), (3, vI (x + 1)), (0, .ref (b 0)), (1, vI a), (2, vI 0), (4, vI (85 + 4 * cix a 0 0))]) S.1 S.2.1 dX8_cellsOf_88 hl (k := 5) rfl (nI_incI k 1) (by decide) rfl (fun ls hl => ?_)
          refine lv_goto (tgt := 13) S.1 S.2.1 dX8_cellsOf_91 (by decide) ?_
          exact ih (k + 1) (x + 1) (by omega) (by have hq : cnt (toneN X.1 a) (k + 1) = cnt (toneN X.1 a) k + toneN X.1 a k := rfl; unfold toneN at hq; rw [bP_t h_3] at hq; unfold toneN at ex ⊢; omega) (by omega) _ _ _ (lv_sub hl [2, 3, 4, 1, 5, 0] rfl) w
set_option maxRecDepth 100000 in
set_option maxHeartbeats 4000000 in
theorem c_X8_cellsOf0 (l : Launch) (D : va_G) (Z : Nat → ClassId) (b : Nat → Nat) (X : ST) (sv sd : Nat → Nat) (sm th tl pl ro nu : Nat) (t r : Nat → Nat) (a : Nat) (hs : SB X.1) (ha : a < 6) : Ci l yX8_cellsOf wsX8_cellsOf 1 25 D Z [.ref (b 0), vI a, vI 0] (mdM Z b X sv sd sm th tl pl ro nu t r) (nI (cnt (toneN X.1 a) (4 * X.1.2.1 a))) (mdM Z b X sv sd sm th tl pl ro nu t r) := by
  refine ne_i (cc := cX8_cellsOf) (maxL := 6) (by decide +kernel) rfl (Nat.le_of_ble_eq_true rfl) (fun p e s m args below meth c A ls (S : CallFix p m c cX8_cellsOf 6 s args wsX8_cellsOf RX8) hr hlocks hl w => ?_)
  have hra := hs.2.1 a ha
  have hl : lv_has ls 6 [(0, .ref (b 0)), (1, vI a), (2, vI 0)] := hl
  refine lv_iconst (v := nI 0) S.1 S.2.1 dX8_cellsOf_0 (ofInt_nI 0) ?_
  refine lv_istore_n (lv' := [(3, vI 0), (0, .ref (b 0)), (1, vI a), (2, vI 0)]) S.1 S.2.1 dX8_cellsOf_1 rfl hl (by decide) rfl (fun ls hl => ?_)
  refine lv_iload_n S.1 S.2.1 dX8_cellsOf_2 rfl (lv_at hl 2 rfl) ?_
  refine lv_iconst (v := nI 0) S.1 S.2.1 dX8_cellsOf_3 (ofInt_nI 0) ?_
  refine lv_iconst (v := nI 0) S.1 S.2.1 dX8_cellsOf_4 (ofInt_nI 0) ?_
  refine nv_pSi (rest := []) S w hl.1 (c_X8_cellAt l D Z a 0 0 ) gX8_cellsOf_X8_cellAt rfl hdS_X8_cellAt ⟨Nat.le_of_ble_eq_true rfl, Nat.le_of_ble_eq_true rfl⟩ rfl rfl (Nat.le_of_ble_eq_true rfl) ⟨Nat.zero_le _, Nat.zero_le _⟩ dX8_cellsOf_5 (fun H locs w => ?_)
  refine lv_istore (lv' := [(4, vI (85 + 4 * cix a 0 0)), (3, vI 0), (0, .ref (b 0)), (1, vI a), (2, vI 0)]) S.1 S.2.1 dX8_cellsOf_8 hl (by decide) rfl (fun ls hl => ?_)
  refine lv_iconst (v := nI 0) S.1 S.2.1 dX8_cellsOf_10 (ofInt_nI 0) ?_
  refine lv_istore (lv' := [(5, vI 0), (4, vI (85 + 4 * cix a 0 0)), (3, vI 0), (0, .ref (b 0)), (1, vI a), (2, vI 0)]) S.1 S.2.1 dX8_cellsOf_11 hl (by decide) rfl (fun ls hl => ?_)
  exact k_X8_cellsOf0 l D Z b X sv sd sm th tl pl ro nu t r a hs ha S hr hlocks _ 0 0 (by omega) rfl (Nat.lt_succ_self _) _ _ _ (lv_sub hl [3, 4, 5, 2, 1, 0] rfl) w

set_option maxRecDepth 100000 in
set_option maxHeartbeats 4000000 in
theorem k_X8_cellsOf1 (l : Launch) (D : va_G) (Z : Nat → ClassId) (b : Nat → Nat) (X : ST) (sv sd : Nat → Nat) (sm th tl pl ro nu : Nat) (t r : Nat → Nat) (a : Nat) (hs : SB X.1) (ha : a < 6) {p : Program} {e : Env} {s : State} {m : MethodId} {args : Array Value} {below : List Frame} {meth : Method} {c : Code} {A : Nat → Prop} (S : CallFix p m c cX8_cellsOf 6 s args wsX8_cellsOf RX8) (hr : meth.sig.returnType = (some .int)) (hlocks : meth.locks = false) : ∀ (n9 : Nat), (∀ (k x : Nat) (hk9 : k ≤ 4 * X.1.2.1 a) (ex : x = cnt (callN X.1 a) k) (hm : 4 * X.1.2.1 a - k < n9), ∀ (H : Heap) (locs : List Loc) (ls : Array Slot) (hl : lv_has ls 6 [(0, .ref (b 0)), (1, vI a), (2, vI 1), (3, vI x), (4, vI (85 + 4 * cix a 0 0)), (5, vI k)]) (w : Wd D Z A s (mdM Z b X sv sd sm th tl pl ro nu t r) H locs), W p l e (rmO 1 22) s m args below meth c H locs 0 0 (Qi below D Z A args s (nI (cnt (callN X.1 a) (4 * X.1.2.1 a))) (mdM Z b X sv sd sm th tl pl ro nu t r)) (F0 m 13 ls [])) := by
  intro n9
  have hra := hs.2.1 a ha
  induction n9 with
  | zero => intro k x hk9 ex hm; exact absurd hm (Nat.not_lt_zero _)
  | succ n9 ih =>
    skip
    · intro k x hk9 ex hm H locs ls hl w
      have hcl := cnt_le (f := callN X.1 a) (fun i => bP_le _) k
      refine lv_iload S.1 S.2.1 dX8_cellsOf_13 (lv_at hl 5 rfl) ?_
      refine lv_iconst (v := nI 4) S.1 S.2.1 dX8_cellsOf_15 (ofInt_nI 4) ?_
      refine lv_aload_n S.1 S.2.1 dX8_cellsOf_16 rfl (lv_at hl 0 rfl) ?_
      refine nv_get S w (C := RX8) (T := TX8) (N := 11) hn_X8_cellsOf_8 0 rfl rfl 0 (by decide) (List.mem_of_getElem? (i := 1) rfl) (v := .ref (b 1)) rfl dX8_cellsOf_17 ?_
      refine lv_bipush (v := nI 15) S.1 S.2.1 dX8_cellsOf_20 (by decide +kernel) ?_
      refine lv_iload_n S.1 S.2.1 dX8_cellsOf_22 rfl (lv_at hl 1 rfl) ?_
      refine nv_iadd S dX8_cellsOf_23 ?_
      refine nv_iald S w (i := (15 + a)) (g := (enc X)) 1 rfl (by omega) (by decide) dX8_cellsOf_24 ?_
      refine W.eq (g2 := F0 m 25 ls [vI (X.1.2.1 a), vI 4, vI k]) (by rw [enc_r (by omega)]) ?_
      refine nv_imul S dX8_cellsOf_25 ?_
      refine nv_icmp_ge S (by omega) (by omega) (tgt := 94) dX8_cellsOf_26 (by decide) (fun h_1 => ?_) (fun h_1 => ?_)
      · skip
        refine lv_iload_n S.1 S.2.1 dX8_cellsOf_94 rfl (lv_at hl 3 rfl) ?_
        exact nv_iret S w hr hlocks rfl (by rw [ex, show k = 4 * X.1.2.1 a by omega]) rfl dX8_cellsOf_95
      · skip
        have hrb := hs.1 (32 * a + k) (by omega)
        unfold RB at hrb
        refine lv_iload_n S.1 S.2.1 dX8_cellsOf_29 rfl (lv_at hl 3 rfl) ?_
        refine lv_iload_n S.1 S.2.1 dX8_cellsOf_30 rfl (lv_at hl 2 rfl) ?_
        refine lv_if_eq (tgt := 56) S.1 S.2.1 dX8_cellsOf_31 (by decide) (fun h9 => absurd h9 (by decide)) (fun _ => ?_)
        refine lv_aload_n S.1 S.2.1 dX8_cellsOf_34 rfl (lv_at hl 0 rfl) ?_
        refine lv_iload S.1 S.2.1 dX8_cellsOf_35 (lv_at hl 4 rfl) ?_
        refine lv_iconst (v := nI 4) S.1 S.2.1 dX8_cellsOf_37 (ofInt_nI 4) ?_
        refine lv_iload S.1 S.2.1 dX8_cellsOf_38 (lv_at hl 5 rfl) ?_
        refine nv_imul S dX8_cellsOf_40 ?_
        refine nv_iadd S dX8_cellsOf_41 ?_
        refine nv_rVi (rest := [vI x]) S w hl.1 (c_X8_calls l D Z b X sv sd sm th tl pl ro nu t r ((85 + 4 * cix a 0 0) + (4 * k)) (by unfold cix; omega) (by rw [show 85 + 4 * cix a 0 0 + 4 * k + 2 = 85 + 4 * (32 * a + k) + 2 by unfold cix; omega, enc_c (by decide)]; omega) (by rw [show 85 + 4 * cix a 0 0 + 4 * k + 3 = 85 + 4 * (32 * a + k) + 3 by unfold cix; omega, enc_c (by decide)]; omega)) [0, 1, 2, 3, 4, 5] rfl rfl gX8_cellsOf_X8_calls rfl hdV_X8_calls ⟨Nat.le_of_ble_eq_true rfl, Nat.le_of_ble_eq_true rfl⟩ (q0 := 0) rfl rfl rfl rfl (Nat.le_of_ble_eq_true rfl) ⟨Nat.zero_le _, Nat.zero_le _⟩ dX8_cellsOf_42 (fun H locs w => ?_)
        refine W.eq (g2 := F0 m 45 ls [vI (bP (X.1.1 (32 * a + k) 2 = 5 ∧ X.1.1 (32 * a + k) 3 < 6)), vI x]) (by rw [show 85 + 4 * cix a 0 0 + 4 * k + 2 = 85 + 4 * (32 * a + k) + 2 by unfold cix; omega, enc_c (by decide), show 85 + 4 * cix a 0 0 + 4 * k + 3 = 85 + 4 * (32 * a + k) + 3 by unfold cix; omega, enc_c (by decide)]) ?_
        refine nv_if_eqB S (tgt := 52) dX8_cellsOf_45 (by decide) (fun h_3 => ?_) (fun h_3 => ?_)
        · skip
          refine lv_iconst (v := nI 0) S.1 S.2.1 dX8_cellsOf_52 (ofInt_nI 0) ?_
          refine lv_goto (tgt := 86) S.1 S.2.1 dX8_cellsOf_53 (by decide) ?_
          refine nv_iadd S dX8_cellsOf_86 ?_
          refine lv_istore_n (lv' := [(3, vI (x + 0)), (0, .ref (b 0)), (1, vI a), (2, vI 1), (4, vI (85 + 4 * cix a 0 0)), (5, vI k)]) S.1 S.2.1 dX8_cellsOf_87 rfl hl (by decide) rfl (fun ls hl => ?_)
          refine lv_iinc (v := nI (k + 1)) (lv' := [(5, vI (k + 1)), (3, vI (x + 0)), (0, .ref (b 0)), (1, vI a), (2, vI 1), (4, vI (85 + 4 * cix a 0 0))]) S.1 S.2.1 dX8_cellsOf_88 hl (k := 5) rfl (nI_incI k 1) (by decide) rfl (fun ls hl => ?_)
          refine lv_goto (tgt := 13) S.1 S.2.1 dX8_cellsOf_91 (by decide) ?_
          exact ih (k + 1) (x + 0) (by omega) (by have hq : cnt (callN X.1 a) (k + 1) = cnt (callN X.1 a) k + callN X.1 a k := rfl; unfold callN at hq; rw [bP_f h_3] at hq; unfold callN at ex ⊢; omega) (by omega) _ _ _ (lv_sub hl [2, 3, 4, 1, 5, 0] rfl) w
        · skip
          refine lv_iconst (v := nI 1) S.1 S.2.1 dX8_cellsOf_48 (ofInt_nI 1) ?_
          refine lv_goto (tgt := 86) S.1 S.2.1 dX8_cellsOf_49 (by decide) ?_
          refine nv_iadd S dX8_cellsOf_86 ?_
          refine lv_istore_n (lv' := [(3, vI (x + 1)), (0, .ref (b 0)), (1, vI a), (2, vI 1), (4, vI (85 + 4 * cix a 0 0)), (5, vI k)]) S.1 S.2.1 dX8_cellsOf_87 rfl hl (by decide) rfl (fun ls hl => ?_)
          refine lv_iinc (v := nI (k + 1)) (lv' := [(5, vI (k + 1)), (3, vI (x + 1)), (0, .ref (b 0)), (1, vI a), (2, vI 1), (4, vI (85 + 4 * cix a 0 0))]) S.1 S.2.1 dX8_cellsOf_88 hl (k := 5) rfl (nI_incI k 1) (by decide) rfl (fun ls hl => ?_)
          refine lv_goto (tgt := 13) S.1 S.2.1 dX8_cellsOf_91 (by decide) ?_
          exact ih (k + 1) (x + 1) (by omega) (by have hq : cnt (callN X.1 a) (k + 1) = cnt (callN X.1 a) k + callN X.1 a k := rfl; unfold callN at hq; rw [bP_t h_3] at hq; unfold callN at ex ⊢; omega) (by omega) _ _ _ (lv_sub hl [2, 3, 4, 1, 5, 0] rfl) w
set_option maxRecDepth 100000 in
set_option maxHeartbeats 4000000 in
theorem c_X8_cellsOf1 (l : Launch) (D : va_G) (Z : Nat → ClassId) (b : Nat → Nat) (X : ST) (sv sd : Nat → Nat) (sm th tl pl ro nu : Nat) (t r : Nat → Nat) (a : Nat) (hs : SB X.1) (ha : a < 6) : Ci l yX8_cellsOf wsX8_cellsOf 1 22 D Z [.ref (b 0), vI a, vI 1] (mdM Z b X sv sd sm th tl pl ro nu t r) (nI (cnt (callN X.1 a) (4 * X.1.2.1 a))) (mdM Z b X sv sd sm th tl pl ro nu t r) := by
  refine ne_i (cc := cX8_cellsOf) (maxL := 6) (by decide +kernel) rfl (Nat.le_of_ble_eq_true rfl) (fun p e s m args below meth c A ls (S : CallFix p m c cX8_cellsOf 6 s args wsX8_cellsOf RX8) hr hlocks hl w => ?_)
  have hra := hs.2.1 a ha
  have hl : lv_has ls 6 [(0, .ref (b 0)), (1, vI a), (2, vI 1)] := hl
  refine lv_iconst (v := nI 0) S.1 S.2.1 dX8_cellsOf_0 (ofInt_nI 0) ?_
  refine lv_istore_n (lv' := [(3, vI 0), (0, .ref (b 0)), (1, vI a), (2, vI 1)]) S.1 S.2.1 dX8_cellsOf_1 rfl hl (by decide) rfl (fun ls hl => ?_)
  refine lv_iload_n S.1 S.2.1 dX8_cellsOf_2 rfl (lv_at hl 2 rfl) ?_
  refine lv_iconst (v := nI 0) S.1 S.2.1 dX8_cellsOf_3 (ofInt_nI 0) ?_
  refine lv_iconst (v := nI 0) S.1 S.2.1 dX8_cellsOf_4 (ofInt_nI 0) ?_
  refine nv_pSi (rest := []) S w hl.1 (c_X8_cellAt l D Z a 0 0 ) gX8_cellsOf_X8_cellAt rfl hdS_X8_cellAt ⟨Nat.le_of_ble_eq_true rfl, Nat.le_of_ble_eq_true rfl⟩ rfl rfl (Nat.le_of_ble_eq_true rfl) ⟨Nat.zero_le _, Nat.zero_le _⟩ dX8_cellsOf_5 (fun H locs w => ?_)
  refine lv_istore (lv' := [(4, vI (85 + 4 * cix a 0 0)), (3, vI 0), (0, .ref (b 0)), (1, vI a), (2, vI 1)]) S.1 S.2.1 dX8_cellsOf_8 hl (by decide) rfl (fun ls hl => ?_)
  refine lv_iconst (v := nI 0) S.1 S.2.1 dX8_cellsOf_10 (ofInt_nI 0) ?_
  refine lv_istore (lv' := [(5, vI 0), (4, vI (85 + 4 * cix a 0 0)), (3, vI 0), (0, .ref (b 0)), (1, vI a), (2, vI 1)]) S.1 S.2.1 dX8_cellsOf_11 hl (by decide) rfl (fun ls hl => ?_)
  exact k_X8_cellsOf1 l D Z b X sv sd sm th tl pl ro nu t r a hs ha S hr hlocks _ 0 0 (by omega) rfl (Nat.lt_succ_self _) _ _ _ (lv_sub hl [3, 4, 5, 2, 1, 0] rfl) w

theorem hn_X8_inOrder_8 : ∀ w ∈ wsX80, w ∈ wsX8_inOrder := by decide +kernel
set_option maxRecDepth 100000 in
set_option maxHeartbeats 4000000 in
theorem k_X8_inOrder (l : Launch) (D : va_G) (Z : Nat → ClassId) (b : Nat → Nat) (X : ST) (sv sd : Nat → Nat) (sm th tl pl ro nu : Nat) (t r : Nat → Nat) (a : Nat) (hs : SB X.1) (ha : a < 6) {p : Program} {e : Env} {s : State} {m : MethodId} {args : Array Value} {below : List Frame} {meth : Method} {c : Code} {A : Nat → Prop} (S : CallFix p m c cX8_inOrder 4 s args wsX8_inOrder RX8) (hr : meth.sig.returnType = (some .int)) (hlocks : meth.locks = false) : ∀ (n9 : Nat), (∀ (i x : Nat) (hi8 : i ≤ X.1.2.2.2) (ex : x = cnt (ordN X.1 a) i) (hm : X.1.2.2.2 - i < n9), ∀ (H : Heap) (locs : List Loc) (ls : Array Slot) (hl : lv_has ls 4 [(0, .ref (b 0)), (1, vI a), (2, vI x), (3, vI i)]) (w : Wd D Z A s (mdM Z b X sv sd sm th tl pl ro nu t r) H locs), W p l e (rmO 0 0) s m args below meth c H locs 0 0 (Qi below D Z A args s (nI (cnt (ordN X.1 a) X.1.2.2.2)) (mdM Z b X sv sd sm th tl pl ro nu t r)) (F0 m 4 ls [])) := by
  intro n9
  have hpl := hs.2.2.2.1
  induction n9 with
  | zero => intro i x hi8 ex hm; exact absurd hm (Nat.not_lt_zero _)
  | succ n9 ih =>
    skip
    · intro i x hi8 ex hm H locs ls hl w
      have hcl := cnt_le (f := ordN X.1 a) (fun i => bP_le _) i
      refine lv_iload_n S.1 S.2.1 dX8_inOrder_4 rfl (lv_at hl 3 rfl) ?_
      refine lv_aload_n S.1 S.2.1 dX8_inOrder_5 rfl (lv_at hl 0 rfl) ?_
      refine nv_get S w (C := RX8) (T := TX8) (N := 11) hn_X8_inOrder_8 0 rfl rfl 0 (by decide) (List.mem_of_getElem? (i := 1) rfl) (v := .ref (b 1)) rfl dX8_inOrder_6 ?_
      refine lv_bipush (v := nI 6) S.1 S.2.1 dX8_inOrder_9 (by decide +kernel) ?_
      refine nv_iald S w (i := 6) (g := (enc X)) 1 rfl (by omega) (by decide) dX8_inOrder_11 ?_
      refine W.eq (g2 := F0 m 12 ls [vI X.1.2.2.2, vI i]) rfl ?_
      refine nv_icmp_ge S (by omega) (by omega) (tgt := 42) dX8_inOrder_12 (by decide) (fun h_1 => ?_) (fun h_1 => ?_)
      · skip
        refine lv_iload_n S.1 S.2.1 dX8_inOrder_42 rfl (lv_at hl 2 rfl) ?_
        exact nv_iret S w hr hlocks rfl (by rw [ex, show i = X.1.2.2.2 by omega]) rfl dX8_inOrder_43
      · skip
        have ho := hs.2.2.2.2 i (by omega)
        refine lv_iload_n S.1 S.2.1 dX8_inOrder_15 rfl (lv_at hl 2 rfl) ?_
        refine lv_aload_n S.1 S.2.1 dX8_inOrder_16 rfl (lv_at hl 0 rfl) ?_
        refine nv_get S w (C := RX8) (T := TX8) (N := 11) hn_X8_inOrder_8 0 rfl rfl 0 (by decide) (List.mem_of_getElem? (i := 1) rfl) (v := .ref (b 1)) rfl dX8_inOrder_17 ?_
        refine lv_bipush (v := nI 7) S.1 S.2.1 dX8_inOrder_20 (by decide +kernel) ?_
        refine lv_iload_n S.1 S.2.1 dX8_inOrder_22 rfl (lv_at hl 3 rfl) ?_
        refine nv_iadd S dX8_inOrder_23 ?_
        refine nv_iald S w (i := (7 + i)) (g := (enc X)) 1 rfl (by omega) (by decide) dX8_inOrder_24 ?_
        refine W.eq (g2 := F0 m 25 ls [vI (X.1.2.2.1 i), vI x]) (by rw [enc_o (by omega)]) ?_
        refine lv_iload_n S.1 S.2.1 dX8_inOrder_25 rfl (lv_at hl 1 rfl) ?_
        refine nv_icmp_ne S (by omega) (by omega) (tgt := 33) dX8_inOrder_26 (by decide) (fun h_2 => ?_) (fun h_2 => ?_)
        · skip
          refine lv_iconst (v := nI 0) S.1 S.2.1 dX8_inOrder_33 (ofInt_nI 0) ?_
          refine nv_iadd S dX8_inOrder_34 ?_
          refine lv_istore_n (lv' := [(2, vI (x + 0)), (0, .ref (b 0)), (1, vI a), (3, vI i)]) S.1 S.2.1 dX8_inOrder_35 rfl hl (by decide) rfl (fun ls hl => ?_)
          refine lv_iinc (v := nI (i + 1)) (lv' := [(3, vI (i + 1)), (2, vI (x + 0)), (0, .ref (b 0)), (1, vI a)]) S.1 S.2.1 dX8_inOrder_36 hl (k := 3) rfl (nI_incI i 1) (by decide) rfl (fun ls hl => ?_)
          refine lv_goto (tgt := 4) S.1 S.2.1 dX8_inOrder_39 (by decide) ?_
          exact ih (i + 1) (x + 0) (by omega) (by have hq : cnt (ordN X.1 a) (i + 1) = cnt (ordN X.1 a) i + ordN X.1 a i := rfl; unfold ordN at hq; rw [bP_f h_2] at hq; unfold ordN at ex ⊢; omega) (by omega) _ _ _ (lv_sub hl [2, 3, 1, 0] rfl) w
        · skip
          refine lv_iconst (v := nI 1) S.1 S.2.1 dX8_inOrder_29 (ofInt_nI 1) ?_
          refine lv_goto (tgt := 34) S.1 S.2.1 dX8_inOrder_30 (by decide) ?_
          refine nv_iadd S dX8_inOrder_34 ?_
          refine lv_istore_n (lv' := [(2, vI (x + 1)), (0, .ref (b 0)), (1, vI a), (3, vI i)]) S.1 S.2.1 dX8_inOrder_35 rfl hl (by decide) rfl (fun ls hl => ?_)
          refine lv_iinc (v := nI (i + 1)) (lv' := [(3, vI (i + 1)), (2, vI (x + 1)), (0, .ref (b 0)), (1, vI a)]) S.1 S.2.1 dX8_inOrder_36 hl (k := 3) rfl (nI_incI i 1) (by decide) rfl (fun ls hl => ?_)
          refine lv_goto (tgt := 4) S.1 S.2.1 dX8_inOrder_39 (by decide) ?_
          exact ih (i + 1) (x + 1) (by omega) (by have hq : cnt (ordN X.1 a) (i + 1) = cnt (ordN X.1 a) i + ordN X.1 a i := rfl; unfold ordN at hq; rw [bP_t h_2] at hq; unfold ordN at ex ⊢; omega) (by omega) _ _ _ (lv_sub hl [2, 3, 1, 0] rfl) w
set_option maxRecDepth 100000 in
set_option maxHeartbeats 4000000 in
theorem c_X8_inOrder (l : Launch) (D : va_G) (Z : Nat → ClassId) (b : Nat → Nat) (X : ST) (sv sd : Nat → Nat) (sm th tl pl ro nu : Nat) (t r : Nat → Nat) (a : Nat) (hs : SB X.1) (ha : a < 6) : Ci l yX8_inOrder wsX8_inOrder 0 0 D Z [.ref (b 0), vI a] (mdM Z b X sv sd sm th tl pl ro nu t r) (nI (cnt (ordN X.1 a) X.1.2.2.2)) (mdM Z b X sv sd sm th tl pl ro nu t r) := by
  refine ne_i (cc := cX8_inOrder) (maxL := 4) (by decide +kernel) rfl (Nat.le_of_ble_eq_true rfl) (fun p e s m args below meth c A ls (S : CallFix p m c cX8_inOrder 4 s args wsX8_inOrder RX8) hr hlocks hl w => ?_)
  have hpl := hs.2.2.2.1
  have hl : lv_has ls 4 [(0, .ref (b 0)), (1, vI a)] := hl
  refine lv_iconst (v := nI 0) S.1 S.2.1 dX8_inOrder_0 (ofInt_nI 0) ?_
  refine lv_istore_n (lv' := [(2, vI 0), (0, .ref (b 0)), (1, vI a)]) S.1 S.2.1 dX8_inOrder_1 rfl hl (by decide) rfl (fun ls hl => ?_)
  refine lv_iconst (v := nI 0) S.1 S.2.1 dX8_inOrder_2 (ofInt_nI 0) ?_
  refine lv_istore_n (lv' := [(3, vI 0), (2, vI 0), (0, .ref (b 0)), (1, vI a)]) S.1 S.2.1 dX8_inOrder_3 rfl hl (by decide) rfl (fun ls hl => ?_)
  exact k_X8_inOrder l D Z b X sv sd sm th tl pl ro nu t r a hs ha S hr hlocks _ 0 0 (by omega) rfl (Nat.lt_succ_self _) _ _ _ (lv_sub hl [2, 3, 1, 0] rfl) w
