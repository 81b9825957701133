theorem hn_X8_playable_8 : ∀ w ∈ wsX80, w ∈ wsX8_playable := by decide +kernel
set_option maxRecDepth 100000 in
set_option maxHeartbeats 4000000 in
theorem k_X8_playable (l : Launch) (D : va_G) (Z : Nat → ClassId) (b : Nat → Nat) (X : ST) (sv sd : Nat → Nat) (sm th tl pl ro nu : Nat) (t r : Nat → Nat) (hs : SB X.1) {p : Program} {e : Env} {s : State} {m : MethodId} {args : Array Value} {below : List Frame} {meth : Method} {c : Code} {A : Nat → Prop} (S : CallFix p m c cX8_playable 6 s args wsX8_playable RX8) (hr : meth.sig.returnType = (some .int)) (hlocks : meth.locks = false) : ∀ (n9 : Nat), (∀ (q9 d k x y : Nat) (hq6 : q9 < 6) (hd6 : d < 6) (hk9 : k ≤ 4 * X.1.2.1 d) (ex0 : x = mpN X.1 (6 * q9 + d)) (ey : y = inM X.1 d x k) (hm : 1000 * (6 - q9) + 100 * (6 - d) - 60 + (32 - k) < n9), ∀ (H : Heap) (locs : List Loc) (ls : Array Slot) (hl : lv_has ls 6 [(0, .ref (b 0)), (1, vI y), (2, vI q9), (3, vI d), (4, vI (85 + 4 * cix d 0 0)), (5, vI k)]) (w : Wd D Z A s (mdM Z b X sv sd sm th tl pl ro nu t r) H locs), W p l e (rmO 1 22) s m args below meth c H locs 0 0 (Qi below D Z A args s (nI (playM X.1)) (mdM Z b X sv sd sm th tl pl ro nu t r)) (F0 m 62 ls [])) ∧ (∀ (q9 d x : Nat) (hq6 : q9 < 6) (hd6 : d ≤ 6) (ex : x = mpN X.1 (6 * q9 + d)) (hm : 1000 * (6 - q9) + 100 * (6 - d) < n9), ∀ (H : Heap) (locs : List Loc) (ls : Array Slot) (hl : lv_has ls 6 [(0, .ref (b 0)), (1, vI x), (2, vI q9), (3, vI d)]) (w : Wd D Z A s (mdM Z b X sv sd sm th tl pl ro nu t r) H locs), W p l e (rmO 1 22) s m args below meth c H locs 0 0 (Qi below D Z A args s (nI (playM X.1)) (mdM Z b X sv sd sm th tl pl ro nu t r)) (F0 m 45 ls [])) ∧ (∀ (q9 x : Nat) (hq6 : q9 ≤ 6) (ex : x = mpN X.1 (6 * q9)) (hm : 1000 * (6 - q9) + 999 < n9), ∀ (H : Heap) (locs : List Loc) (ls : Array Slot) (hl : lv_has ls 6 [(0, .ref (b 0)), (1, vI x), (2, vI q9)]) (w : Wd D Z A s (mdM Z b X sv sd sm th tl pl ro nu t r) H locs), W p l e (rmO 1 22) s m args below meth c H locs 0 0 (Qi below D Z A args s (nI (playM X.1)) (mdM Z b X sv sd sm th tl pl ro nu t r)) (F0 m 37 ls [])) := by
  intro n9
  have hpl := hs.2.2.2.1
  induction n9 with
  | zero => exact ⟨fun q9 d k x y hq6 hd6 hk9 ex0 ey hm => absurd hm (Nat.not_lt_zero _), fun q9 d x hq6 hd6 ex hm => absurd hm (Nat.not_lt_zero _), fun q9 x hq6 ex hm => absurd hm (Nat.not_lt_zero _)⟩
  | succ n9 ih =>
    refine ⟨?_, ?_, ?_⟩
    · intro q9 d k x y hq6 hd6 hk9 ex0 ey hm H locs ls hl w
      have hra := hs.2.1 d hd6
      have hx64 := mpN_lt hs (6 * q9 + d)
      rw [← ex0] at hx64
      have hy64 := inM_lt (G := X.1) (d := d) (k := k) hx64
      rw [← ey] at hy64
      have hsm : y / 2 ^ d ≤ y := Nat.div_le_self _ _
      have hsm2 : y / 2 ^ d % 2 ^ 1 < 2 := by rw [Nat.pow_one]; exact Nat.mod_lt _ (by decide)
      refine lv_iload S.1 S.2.1 dX8_playable_62 (lv_at hl 5 rfl) ?_
      refine lv_iconst (v := nI 4) S.1 S.2.1 dX8_playable_64 (ofInt_nI 4) ?_
      refine lv_aload_n S.1 S.2.1 dX8_playable_65 rfl (lv_at hl 0 rfl) ?_
      refine nv_get S w (C := RX8) (T := TX8) (N := 11) hn_X8_playable_8 0 rfl rfl 0 (by decide) (List.mem_of_getElem? (i := 1) rfl) (v := .ref (b 1)) rfl dX8_playable_66 ?_
      refine lv_bipush (v := nI 15) S.1 S.2.1 dX8_playable_69 (by decide +kernel) ?_
      refine lv_iload_n S.1 S.2.1 dX8_playable_71 rfl (lv_at hl 3 rfl) ?_
      refine nv_iadd S dX8_playable_72 ?_
      refine nv_iald S w (i := (15 + d)) (g := (enc X)) 1 rfl (by omega) (by decide) dX8_playable_73 ?_
      refine W.eq (g2 := F0 m 74 ls [vI (X.1.2.1 d), vI 4, vI k]) (by rw [enc_r (by omega)]) ?_
      refine nv_imul S dX8_playable_74 ?_
      refine nv_icmp_ge S (by omega) (by omega) (tgt := 130) dX8_playable_75 (by decide) (fun h_1 => ?_) (fun h_1 => ?_)
      · skip
        refine lv_iinc (v := nI (d + 1)) (lv' := [(3, vI (d + 1)), (0, .ref (b 0)), (1, vI y), (2, vI q9), (4, vI (85 + 4 * cix d 0 0)), (5, vI k)]) S.1 S.2.1 dX8_playable_130 hl (k := 3) rfl (nI_incI d 1) (by decide) rfl (fun ls hl => ?_)
        refine lv_goto (tgt := 45) S.1 S.2.1 dX8_playable_133 (by decide) ?_
        exact (ih).2.1 q9 (d + 1) y (by omega) (by omega) (by show _ = mpS X.1 ((6 * q9 + d) % 6) (mpN X.1 (6 * q9 + d)); rw [show (6 * q9 + d) % 6 = d by omega, ← ex0, ey]; rw [show k = 4 * X.1.2.1 d by omega]; exact inM_e) (by omega) _ _ _ (lv_sub hl [1, 2, 3, 0] rfl) w
      · skip
        refine lv_iload_n S.1 S.2.1 dX8_playable_78 rfl (lv_at hl 1 rfl) ?_
        refine lv_iload_n S.1 S.2.1 dX8_playable_79 rfl (lv_at hl 3 rfl) ?_
        refine lv_ishr S.1 S.2.1 dX8_playable_80 ?_
        rw [shr_d hy64 hd6]
        refine lv_iconst (v := nI 1) S.1 S.2.1 dX8_playable_81 (ofInt_nI 1) ?_
        refine nv_iand S dX8_playable_82 (z := nI (y / 2 ^ d % 2 ^ 1)) (and_1 (by omega)) ?_
        refine lv_iconst (v := nI 1) S.1 S.2.1 dX8_playable_83 (ofInt_nI 1) ?_
        refine nv_icmp_ne S (by omega) (by omega) (tgt := 130) dX8_playable_84 (by decide) (fun h_2 => ?_) (fun h_2 => ?_)
        · skip
          refine lv_iinc (v := nI (d + 1)) (lv' := [(3, vI (d + 1)), (0, .ref (b 0)), (1, vI y), (2, vI q9), (4, vI (85 + 4 * cix d 0 0)), (5, vI k)]) S.1 S.2.1 dX8_playable_130 hl (k := 3) rfl (nI_incI d 1) (by decide) rfl (fun ls hl => ?_)
          refine lv_goto (tgt := 45) S.1 S.2.1 dX8_playable_133 (by decide) ?_
          exact (ih).2.1 q9 (d + 1) y (by omega) (by omega) (by show _ = mpS X.1 ((6 * q9 + d) % 6) (mpN X.1 (6 * q9 + d)); rw [show (6 * q9 + d) % 6 = d by omega, ← ex0, ey]; exact inM_n (fun z9 => h_2 (by rw [ey]; exact bit_dm.mpr z9))) (by omega) _ _ _ (lv_sub hl [1, 2, 3, 0] rfl) w
        · skip
          have hrb := hs.1 (32 * d + k) (by omega)
          unfold RB at hrb
          refine lv_iload_n S.1 S.2.1 dX8_playable_87 rfl (lv_at hl 1 rfl) ?_
          refine lv_aload_n S.1 S.2.1 dX8_playable_88 rfl (lv_at hl 0 rfl) ?_
          refine lv_iload S.1 S.2.1 dX8_playable_89 (lv_at hl 4 rfl) ?_
          refine lv_iconst (v := nI 4) S.1 S.2.1 dX8_playable_91 (ofInt_nI 4) ?_
          refine lv_iload S.1 S.2.1 dX8_playable_92 (lv_at hl 5 rfl) ?_
          refine nv_imul S dX8_playable_94 ?_
          refine nv_iadd S dX8_playable_95 ?_
          refine nv_rVi (rest := [vI y]) S w hl.1 (c_X8_calls l D Z b X sv sd sm th tl pl ro nu t r ((85 + 4 * cix d 0 0) + (4 * k)) (by unfold cix; omega) (by rw [show 85 + 4 * cix d 0 0 + 4 * k + 2 = 85 + 4 * (32 * d + k) + 2 by unfold cix; omega, enc_c (by decide)]; omega) (by rw [show 85 + 4 * cix d 0 0 + 4 * k + 3 = 85 + 4 * (32 * d + k) + 3 by unfold cix; omega, enc_c (by decide)]; omega)) [0, 1, 2, 3, 4, 5] rfl rfl gX8_playable_X8_calls rfl hdV_X8_calls ⟨Nat.le_of_ble_eq_true rfl, Nat.le_of_ble_eq_true rfl⟩ (q0 := 0) rfl rfl rfl rfl (Nat.le_of_ble_eq_true rfl) ⟨Nat.zero_le _, Nat.zero_le _⟩ dX8_playable_96 (fun H locs w => ?_)
          refine W.eq (g2 := F0 m 99 ls [vI (bP (X.1.1 (32 * d + k) 2 = 5 ∧ X.1.1 (32 * d + k) 3 < 6)), vI y]) (by rw [show 85 + 4 * cix d 0 0 + 4 * k + 2 = 85 + 4 * (32 * d + k) + 2 by unfold cix; omega, enc_c (by decide), show 85 + 4 * cix d 0 0 + 4 * k + 3 = 85 + 4 * (32 * d + k) + 3 by unfold cix; omega, enc_c (by decide)]) ?_
          refine nv_if_eqB S (tgt := 121) dX8_playable_99 (by decide) (fun h_3 => ?_) (fun h_3 => ?_)
          · skip
            refine lv_iconst (v := nI 0) S.1 S.2.1 dX8_playable_121 (ofInt_nI 0) ?_
            refine nv_ior S dX8_playable_122 (z := nI y) (by rw [fa_or, Nat.or_zero]) ?_
            refine lv_istore_n (lv' := [(1, vI y), (0, .ref (b 0)), (2, vI q9), (3, vI d), (4, vI (85 + 4 * cix d 0 0)), (5, vI k)]) S.1 S.2.1 dX8_playable_123 rfl hl (by decide) rfl (fun ls hl => ?_)
            refine lv_iinc (v := nI (k + 1)) (lv' := [(5, vI (k + 1)), (1, vI y), (0, .ref (b 0)), (2, vI q9), (3, vI d), (4, vI (85 + 4 * cix d 0 0))]) S.1 S.2.1 dX8_playable_124 hl (k := 5) rfl (nI_incI k 1) (by decide) rfl (fun ls hl => ?_)
            refine lv_goto (tgt := 62) S.1 S.2.1 dX8_playable_127 (by decide) ?_
            exact (ih).1 q9 d (k + 1) x y (by omega) (by omega) (by omega) ex0 (by rw [inM_s (by rw [← ey]; exact bit_dm.mp h_2), ← ey]; unfold maskN; rw [if_neg h_3, Nat.or_zero]) (by omega) _ _ _ (lv_sub hl [2, 1, 3, 4, 5, 0] rfl) w
          · skip
            refine lv_iconst (v := nI 1) S.1 S.2.1 dX8_playable_102 (ofInt_nI 1) ?_
            refine lv_aload_n S.1 S.2.1 dX8_playable_103 rfl (lv_at hl 0 rfl) ?_
            refine nv_get S w (C := RX8) (T := TX8) (N := 11) hn_X8_playable_8 0 rfl rfl 0 (by decide) (List.mem_of_getElem? (i := 1) rfl) (v := .ref (b 1)) rfl dX8_playable_104 ?_
            refine lv_iload S.1 S.2.1 dX8_playable_107 (lv_at hl 4 rfl) ?_
            refine lv_iconst (v := nI 4) S.1 S.2.1 dX8_playable_109 (ofInt_nI 4) ?_
            refine lv_iload S.1 S.2.1 dX8_playable_110 (lv_at hl 5 rfl) ?_
            refine nv_imul S dX8_playable_112 ?_
            refine nv_iadd S dX8_playable_113 ?_
            refine lv_iconst (v := nI 3) S.1 S.2.1 dX8_playable_114 (ofInt_nI 3) ?_
            refine nv_iadd S dX8_playable_115 ?_
            refine nv_iald S w (i := (((85 + 4 * cix d 0 0) + (4 * k)) + 3)) (g := (enc X)) 1 rfl (by unfold cix; omega) (by decide) dX8_playable_116 ?_
            refine W.eq (g2 := F0 m 117 ls [vI (X.1.1 (32 * d + k) 3), vI 1, vI y]) (by rw [show 85 + 4 * cix d 0 0 + 4 * k + 3 = 85 + 4 * (32 * d + k) + 3 by unfold cix; omega, enc_c (by decide)]) ?_
            refine lv_ishl S.1 S.2.1 dX8_playable_117 ?_
            rw [sh1N (by omega)]
            refine lv_goto (tgt := 122) S.1 S.2.1 dX8_playable_118 (by decide) ?_
            refine nv_ior S dX8_playable_122 (z := nI (y ||| 2 ^ X.1.1 (32 * d + k) 3)) (fa_or _ _) ?_
            refine lv_istore_n (lv' := [(1, vI (y ||| 2 ^ X.1.1 (32 * d + k) 3)), (0, .ref (b 0)), (2, vI q9), (3, vI d), (4, vI (85 + 4 * cix d 0 0)), (5, vI k)]) S.1 S.2.1 dX8_playable_123 rfl hl (by decide) rfl (fun ls hl => ?_)
            refine lv_iinc (v := nI (k + 1)) (lv' := [(5, vI (k + 1)), (1, vI (y ||| 2 ^ X.1.1 (32 * d + k) 3)), (0, .ref (b 0)), (2, vI q9), (3, vI d), (4, vI (85 + 4 * cix d 0 0))]) S.1 S.2.1 dX8_playable_124 hl (k := 5) rfl (nI_incI k 1) (by decide) rfl (fun ls hl => ?_)
            refine lv_goto (tgt := 62) S.1 S.2.1 dX8_playable_127 (by decide) ?_
            exact (ih).1 q9 d (k + 1) x (y ||| 2 ^ X.1.1 (32 * d + k) 3) (by omega) (by omega) (by omega) ex0 (by rw [inM_s (by rw [← ey]; exact bit_dm.mp h_2), ← ey]; unfold maskN; rw [if_pos h_3]) (by omega) _ _ _ (lv_sub hl [2, 1, 3, 4, 5, 0] rfl) w
    · intro q9 d x hq6 hd6 ex hm H locs ls hl w
      refine lv_iload_n S.1 S.2.1 dX8_playable_45 rfl (lv_at hl 3 rfl) ?_
      refine lv_bipush (v := nI 6) S.1 S.2.1 dX8_playable_46 (by decide +kernel) ?_
      refine nv_icmp_ge S (by omega) (by omega) (tgt := 136) dX8_playable_48 (by decide) (fun h_4 => ?_) (fun h_4 => ?_)
      · skip
        refine lv_iinc (v := nI (q9 + 1)) (lv' := [(2, vI (q9 + 1)), (0, .ref (b 0)), (1, vI x), (3, vI d)]) S.1 S.2.1 dX8_playable_136 hl (k := 2) rfl (nI_incI q9 1) (by decide) rfl (fun ls hl => ?_)
        refine lv_goto (tgt := 37) S.1 S.2.1 dX8_playable_139 (by decide) ?_
        exact (ih).2.2 (q9 + 1) x (by omega) (by rw [ex]; congr 1; omega) (by omega) _ _ _ (lv_sub hl [1, 2, 0] rfl) w
      · skip
        refine lv_iload_n S.1 S.2.1 dX8_playable_51 rfl (lv_at hl 3 rfl) ?_
        refine lv_iconst (v := nI 0) S.1 S.2.1 dX8_playable_52 (ofInt_nI 0) ?_
        refine lv_iconst (v := nI 0) S.1 S.2.1 dX8_playable_53 (ofInt_nI 0) ?_
        refine nv_pSi (rest := []) S w hl.1 (c_X8_cellAt l D Z d 0 0 ) gX8_playable_X8_cellAt rfl hdS_X8_cellAt ⟨Nat.le_of_ble_eq_true rfl, Nat.le_of_ble_eq_true rfl⟩ rfl rfl (Nat.le_of_ble_eq_true rfl) ⟨Nat.zero_le _, Nat.zero_le _⟩ dX8_playable_54 (fun H locs w => ?_)
        refine lv_istore (lv' := [(4, vI (85 + 4 * cix d 0 0)), (0, .ref (b 0)), (1, vI x), (2, vI q9), (3, vI d)]) S.1 S.2.1 dX8_playable_57 hl (by decide) rfl (fun ls hl => ?_)
        refine lv_iconst (v := nI 0) S.1 S.2.1 dX8_playable_59 (ofInt_nI 0) ?_
        refine lv_istore (lv' := [(5, vI 0), (4, vI (85 + 4 * cix d 0 0)), (0, .ref (b 0)), (1, vI x), (2, vI q9), (3, vI d)]) S.1 S.2.1 dX8_playable_60 hl (by decide) rfl (fun ls hl => ?_)
        exact (ih).1 q9 d 0 x x (by omega) (by omega) (by omega) ex (by rw [inM_0]) (by omega) _ _ _ (lv_sub hl [2, 3, 4, 5, 1, 0] rfl) w
    · intro q9 x hq6 ex hm H locs ls hl w
      refine lv_iload_n S.1 S.2.1 dX8_playable_37 rfl (lv_at hl 2 rfl) ?_
      refine lv_bipush (v := nI 6) S.1 S.2.1 dX8_playable_38 (by decide +kernel) ?_
      refine nv_icmp_ge S (by omega) (by omega) (tgt := 142) dX8_playable_40 (by decide) (fun h_5 => ?_) (fun h_5 => ?_)
      · skip
        refine lv_iload_n S.1 S.2.1 dX8_playable_142 rfl (lv_at hl 1 rfl) ?_
        exact nv_iret S w hr hlocks rfl (by rw [ex, show 6 * q9 = 36 by omega, ← mp_eq]) rfl dX8_playable_143
      · skip
        refine lv_iconst (v := nI 0) S.1 S.2.1 dX8_playable_43 (ofInt_nI 0) ?_
        refine lv_istore_n (lv' := [(3, vI 0), (0, .ref (b 0)), (1, vI x), (2, vI q9)]) S.1 S.2.1 dX8_playable_44 rfl hl (by decide) rfl (fun ls hl => ?_)
        exact (ih).2.1 q9 0 x (by omega) (by omega) (by rw [ex, Nat.add_zero]) (by omega) _ _ _ (lv_sub hl [1, 2, 3, 0] rfl) w
set_option maxRecDepth 100000 in
set_option maxHeartbeats 4000000 in
theorem k_X8_playable_a (l : Launch) (D : va_G) (Z : Nat → ClassId) (b : Nat → Nat) (X : ST) (sv sd : Nat → Nat) (sm th tl pl ro nu : Nat) (t r : Nat → Nat) (hs : SB X.1) {p : Program} {e : Env} {s : State} {m : MethodId} {args : Array Value} {below : List Frame} {meth : Method} {c : Code} {A : Nat → Prop} (S : CallFix p m c cX8_playable 6 s args wsX8_playable RX8) (hr : meth.sig.returnType = (some .int)) (hlocks : meth.locks = false) : ∀ (n9 : Nat), (∀ (i x : Nat) (hi8 : i ≤ X.1.2.2.2) (ex : x = orN (fun i => 2 ^ X.1.2.2.1 i) i) (hm : X.1.2.2.2 - i < n9), ∀ (H : Heap) (locs : List Loc) (ls : Array Slot) (hl : lv_has ls 6 [(0, .ref (b 0)), (1, vI x), (2, vI i)]) (w : Wd D Z A s (mdM Z b X sv sd sm th tl pl ro nu t r) H locs), W p l e (rmO 1 22) s m args below meth c H locs 0 0 (Qi below D Z A args s (nI (playM X.1)) (mdM Z b X sv sd sm th tl pl ro nu t r)) (F0 m 4 ls [])) := by
  intro n9
  have hpl := hs.2.2.2.1
  induction n9 with
  | zero => intro i x hi8 ex hm; exact absurd hm (Nat.not_lt_zero _)
  | succ n9 ih =>
    skip
    · intro i x hi8 ex hm H locs ls hl w
      refine lv_iload_n S.1 S.2.1 dX8_playable_4 rfl (lv_at hl 2 rfl) ?_
      refine lv_aload_n S.1 S.2.1 dX8_playable_5 rfl (lv_at hl 0 rfl) ?_
      refine nv_get S w (C := RX8) (T := TX8) (N := 11) hn_X8_playable_8 0 rfl rfl 0 (by decide) (List.mem_of_getElem? (i := 1) rfl) (v := .ref (b 1)) rfl dX8_playable_6 ?_
      refine lv_bipush (v := nI 6) S.1 S.2.1 dX8_playable_9 (by decide +kernel) ?_
      refine nv_iald S w (i := 6) (g := (enc X)) 1 rfl (by omega) (by decide) dX8_playable_11 ?_
      refine W.eq (g2 := F0 m 12 ls [vI X.1.2.2.2, vI i]) rfl ?_
      refine nv_icmp_ge S (by omega) (by omega) (tgt := 35) dX8_playable_12 (by decide) (fun h_6 => ?_) (fun h_6 => ?_)
      · skip
        refine lv_iconst (v := nI 0) S.1 S.2.1 dX8_playable_35 (ofInt_nI 0) ?_
        refine lv_istore_n (lv' := [(2, vI 0), (0, .ref (b 0)), (1, vI x)]) S.1 S.2.1 dX8_playable_36 rfl hl (by decide) rfl (fun ls hl => ?_)
        exact (k_X8_playable l D Z b X sv sd sm th tl pl ro nu t r hs S hr hlocks _).2.2 0 x (by omega) (by rw [ex, show i = X.1.2.2.2 by omega]; rfl) (Nat.lt_succ_self _) _ _ _ (lv_sub hl [1, 2, 0] rfl) w
      · skip
        refine lv_iload_n S.1 S.2.1 dX8_playable_15 rfl (lv_at hl 1 rfl) ?_
        have ho := hs.2.2.2.2 i (by omega)
        refine lv_iconst (v := nI 1) S.1 S.2.1 dX8_playable_16 (ofInt_nI 1) ?_
        refine lv_aload_n S.1 S.2.1 dX8_playable_17 rfl (lv_at hl 0 rfl) ?_
        refine nv_get S w (C := RX8) (T := TX8) (N := 11) hn_X8_playable_8 0 rfl rfl 0 (by decide) (List.mem_of_getElem? (i := 1) rfl) (v := .ref (b 1)) rfl dX8_playable_18 ?_
        refine lv_bipush (v := nI 7) S.1 S.2.1 dX8_playable_21 (by decide +kernel) ?_
        refine lv_iload_n S.1 S.2.1 dX8_playable_23 rfl (lv_at hl 2 rfl) ?_
        refine nv_iadd S dX8_playable_24 ?_
        refine nv_iald S w (i := (7 + i)) (g := (enc X)) 1 rfl (by omega) (by decide) dX8_playable_25 ?_
        refine W.eq (g2 := F0 m 26 ls [vI (X.1.2.2.1 i), vI 1, vI x]) (by rw [enc_o (by omega)]) ?_
        refine lv_ishl S.1 S.2.1 dX8_playable_26 ?_
        rw [sh1N ho]
        refine nv_ior S dX8_playable_27 (z := nI (x ||| 2 ^ X.1.2.2.1 i)) (fa_or _ _) ?_
        refine lv_istore_n (lv' := [(1, vI (x ||| 2 ^ X.1.2.2.1 i)), (0, .ref (b 0)), (2, vI i)]) S.1 S.2.1 dX8_playable_28 rfl hl (by decide) rfl (fun ls hl => ?_)
        refine lv_iinc (v := nI (i + 1)) (lv' := [(2, vI (i + 1)), (1, vI (x ||| 2 ^ X.1.2.2.1 i)), (0, .ref (b 0))]) S.1 S.2.1 dX8_playable_29 hl (k := 2) rfl (nI_incI i 1) (by decide) rfl (fun ls hl => ?_)
        refine lv_goto (tgt := 4) S.1 S.2.1 dX8_playable_32 (by decide) ?_
        exact ih (i + 1) (x ||| 2 ^ X.1.2.2.1 i) (by omega) (by rw [ex]; rfl) (by omega) _ _ _ (lv_sub hl [2, 1, 0] rfl) w
set_option maxRecDepth 100000 in
set_option maxHeartbeats 4000000 in
theorem c_X8_playable (l : Launch) (D : va_G) (Z : Nat → ClassId) (b : Nat → Nat) (X : ST) (sv sd : Nat → Nat) (sm th tl pl ro nu : Nat) (t r : Nat → Nat) (hs : SB X.1) : Ci l yX8_playable wsX8_playable 1 22 D Z [.ref (b 0)] (mdM Z b X sv sd sm th tl pl ro nu t r) (nI (playM X.1)) (mdM Z b X sv sd sm th tl pl ro nu t r) := by
  refine ne_i (cc := cX8_playable) (maxL := 6) (by decide +kernel) rfl (Nat.le_of_ble_eq_true rfl) (fun p e s m args below meth c A ls (S : CallFix p m c cX8_playable 6 s args wsX8_playable RX8) hr hlocks hl w => ?_)
  have hpl := hs.2.2.2.1
  have hl : lv_has ls 6 [(0, .ref (b 0))] := hl
  refine lv_iconst (v := nI 0) S.1 S.2.1 dX8_playable_0 (ofInt_nI 0) ?_
  refine lv_istore_n (lv' := [(1, vI 0), (0, .ref (b 0))]) S.1 S.2.1 dX8_playable_1 rfl hl (by decide) rfl (fun ls hl => ?_)
  refine lv_iconst (v := nI 0) S.1 S.2.1 dX8_playable_2 (ofInt_nI 0) ?_
  refine lv_istore_n (lv' := [(2, vI 0), (1, vI 0), (0, .ref (b 0))]) S.1 S.2.1 dX8_playable_3 rfl hl (by decide) rfl (fun ls hl => ?_)
  exact k_X8_playable_a l D Z b X sv sd sm th tl pl ro nu t r hs S hr hlocks _ 0 0 (by omega) rfl (Nat.lt_succ_self _) _ _ _ (lv_sub hl [2, 1, 0] rfl) w
