theorem hn_X8_digest_8 : ∀ w ∈ wsX80, w ∈ wsX8_digest := by decide +kernel
set_option maxRecDepth 100000 in
set_option maxHeartbeats 4000000 in
theorem k_X8_digest_d (l : Launch) (D : va_G) (Z : Nat → ClassId) (b : Nat → Nat) (X : ST) (sv sd : Nat → Nat) (sm th tl pl ro nu : Nat) (t r : Nat → Nat) (hX : XB X) {p : Program} {e : Env} {s : State} {m : MethodId} {args : Array Value} {below : List Frame} {meth : Method} {c : Code} {A : Nat → Prop} (S : CallFix p m c cX8_digest 5 s args wsX8_digest RX8) (hr : meth.sig.returnType = (some .long)) (hlocks : meth.locks = false) : ∀ (n9 : Nat), (∀ (k : Nat) (h : Int64) (hk : k ≤ 32) (eh : h = dgV X.2.2 (dgN X.1.2.2.1 (dgP X.1 (dg1 X tl) 6) X.1.2.2.2) k) (hm : 100 - k < n9), ∀ (H : Heap) (locs : List Loc) (ls : Array Slot) (hl : lv_has ls 5 [(0, .ref (b 0)), (1, .long h), (3, vI k)]) (w : Wd D Z A s (mdM Z b X sv sd sm 0 tl pl ro nu t r) H locs), W p l e (rmO 7 159) s m args below meth c H locs 0 0 (Ql below D Z A args s (dgA X tl sm) (mdM Z b X sv (enc X) sm 0 tl pl ro nu t r)) (F0 m 172 ls [])) := by
  intro n9
  have hp8 := hX.1.2.2.2.1
  induction n9 with
  | zero => intro k h hk eh hm; exact absurd hm (Nat.not_lt_zero _)
  | succ n9 ih =>
    skip
    · intro k h hk eh hm H locs ls hl w
      refine lv_iload_n S.1 S.2.1 dX8_digest_172 rfl (lv_at hl 2 rfl) ?_
      refine lv_bipush (v := nI 32) S.1 S.2.1 dX8_digest_173 (by decide +kernel) ?_
      refine nv_icmp_ge S (by omega) (by omega) (tgt := 204) dX8_digest_175 (by decide) (fun h_1 => ?_) (fun h_1 => ?_)
      · skip
        refine lv_ldc2 (v := 31) S.1 S.2.1 S.2.2.2.1 (S.2.2.2.2 _ (by decide +kernel)) dX8_digest_204 ?_
        refine lv_ldc2 (v := 31) S.1 S.2.1 S.2.2.2.1 (S.2.2.2.2 _ (by decide +kernel)) dX8_digest_207 ?_
        refine lv_lload_n S.1 S.2.1 dX8_digest_210 rfl (lv_at hl 1 rfl) ?_
        refine lv_lmul S.1 S.2.1 dX8_digest_211 ?_
        refine lv_aload_n S.1 S.2.1 dX8_digest_212 rfl (lv_at hl 0 rfl) ?_
        refine lv_bipush (v := nI 40) S.1 S.2.1 dX8_digest_213 (by decide +kernel) ?_
        obtain ⟨m40, hm40⟩ : ∃ m9, m9 = 40 := ⟨40, rfl⟩
        refine W.eq (g2 := F0 m 215 ls [vI m40, .ref (b 0), .long (31 * h), .long 31]) (by rw [hm40]) ?_
        refine nv_cVi (rest := [.long (31 * h), .long 31]) (ws' := mdM Z b X sv (enc X) sm 0 tl pl ro nu t r) S w hl.1 (c_X8_hashIf l D Z b X sv sd sm 0 tl pl ro nu t r m40 hX.1 hX.2.1 (by omega)) [0, 1, 2, 3, 4, 5] rfl rfl rfl rfl gX8_digest_X8_hashIf rfl hdV_X8_hashIf ⟨Nat.le_of_ble_eq_true rfl, Nat.le_of_ble_eq_true rfl⟩ (q0 := 0) rfl rfl rfl rfl (Nat.le_of_ble_eq_true rfl) ⟨Nat.zero_le _, Nat.zero_le _⟩ dX8_digest_215 (fun H locs w => ?_)
        refine lv_i2l (v := (hsN X.1 X.2 m40).toInt64) S.1 S.2.1 dX8_digest_218 rfl ?_
        refine lv_ladd S.1 S.2.1 dX8_digest_219 ?_
        refine lv_lmul S.1 S.2.1 dX8_digest_220 ?_
        refine lv_aload_n S.1 S.2.1 dX8_digest_221 rfl (lv_at hl 0 rfl) ?_
        refine nv_get S w (C := RX8) (T := TX8) (N := 11) hn_X8_digest_8 0 rfl rfl 3 (by decide) (List.mem_of_getElem? (i := 6) rfl) (v := vI sm) rfl dX8_digest_222 ?_
        refine lv_i2l (v := (nI sm).toInt64) S.1 S.2.1 dX8_digest_225 rfl ?_
        refine lv_ladd S.1 S.2.1 dX8_digest_226 ?_
        exact nv_lret S w hr hlocks (by rw [eh, show k = 32 by omega, hm40]; rfl) rfl dX8_digest_227
      · skip
        refine lv_ldc2 (v := 31) S.1 S.2.1 S.2.2.2.1 (S.2.2.2.2 _ (by decide +kernel)) dX8_digest_178 ?_
        refine lv_lload_n S.1 S.2.1 dX8_digest_181 rfl (lv_at hl 1 rfl) ?_
        refine lv_lmul S.1 S.2.1 dX8_digest_182 ?_
        refine lv_aload_n S.1 S.2.1 dX8_digest_183 rfl (lv_at hl 0 rfl) ?_
        refine lv_iload_n S.1 S.2.1 dX8_digest_184 rfl (lv_at hl 2 rfl) ?_
        refine lv_bipush (v := nI 8) S.1 S.2.1 dX8_digest_185 (by decide +kernel) ?_
        refine nv_idiv S (by omega) (by omega) (by omega) dX8_digest_187 ?_
        refine lv_iload_n S.1 S.2.1 dX8_digest_188 rfl (lv_at hl 2 rfl) ?_
        refine lv_bipush (v := nI 8) S.1 S.2.1 dX8_digest_189 (by decide +kernel) ?_
        refine nv_irem S (by omega) (by omega) (by omega) dX8_digest_191 ?_
        refine nv_rVi (rest := [.long (31 * h)]) S w hl.1 (c_X8_channelOf l D Z b X sv sd sm 0 tl pl ro nu t r (k / 8) (k % 8) (by omega) (hX.2.1.2.2.2.2.2 (k / 8) (by omega)).1 (by omega)) [0, 1, 2, 3, 4, 5] rfl rfl gX8_digest_X8_channelOf rfl hdV_X8_channelOf ⟨Nat.le_of_ble_eq_true rfl, Nat.le_of_ble_eq_true rfl⟩ (q0 := 0) rfl rfl rfl rfl (Nat.le_of_ble_eq_true rfl) ⟨Nat.zero_le _, Nat.zero_le _⟩ dX8_digest_192 (fun H locs w => ?_)
        refine lv_i2l (v := (factV (X.2.2 (k / 8)) (k % 8)).toInt64) S.1 S.2.1 dX8_digest_195 rfl ?_
        refine lv_ladd S.1 S.2.1 dX8_digest_196 ?_
        refine lv_lstore_n (lv' := [(1, .long ((31 * h) + ((factV (X.2.2 (k / 8)) (k % 8)).toInt64))), (0, .ref (b 0)), (3, vI k)]) S.1 S.2.1 dX8_digest_197 rfl hl (by decide) rfl (fun ls hl => ?_)
        refine lv_iinc (v := nI (k + 1)) (lv' := [(3, vI (k + 1)), (1, .long ((31 * h) + ((factV (X.2.2 (k / 8)) (k % 8)).toInt64))), (0, .ref (b 0))]) S.1 S.2.1 dX8_digest_198 hl (k := 2) rfl (nI_incI k 1) (by decide) rfl (fun ls hl => ?_)
        refine lv_goto (tgt := 172) S.1 S.2.1 dX8_digest_201 (by decide) ?_
        exact ih (k + 1) ((31 * h) + ((factV (X.2.2 (k / 8)) (k % 8)).toInt64)) (by omega) (by rw [eh]; rfl) (by omega) _ _ _ (lv_sub hl [2, 1, 0] rfl) w
set_option maxRecDepth 100000 in
set_option maxHeartbeats 4000000 in
theorem k_X8_digest_c (l : Launch) (D : va_G) (Z : Nat → ClassId) (b : Nat → Nat) (X : ST) (sv sd : Nat → Nat) (sm th tl pl ro nu : Nat) (t r : Nat → Nat) (hX : XB X) {p : Program} {e : Env} {s : State} {m : MethodId} {args : Array Value} {below : List Frame} {meth : Method} {c : Code} {A : Nat → Prop} (S : CallFix p m c cX8_digest 5 s args wsX8_digest RX8) (hr : meth.sig.returnType = (some .long)) (hlocks : meth.locks = false) : ∀ (n9 : Nat), (∀ (i : Nat) (h : Int64) (hi8 : i ≤ X.1.2.2.2) (eh : h = dgN X.1.2.2.1 (dgP X.1 (dg1 X tl) 6) i) (hm : 100 - i < n9), ∀ (H : Heap) (locs : List Loc) (ls : Array Slot) (hl : lv_has ls 5 [(0, .ref (b 0)), (1, .long h), (3, vI i)]) (w : Wd D Z A s (mdM Z b X sv sd sm 0 tl pl ro nu t r) H locs), W p l e (rmO 7 159) s m args below meth c H locs 0 0 (Ql below D Z A args s (dgA X tl sm) (mdM Z b X sv (enc X) sm 0 tl pl ro nu t r)) (F0 m 136 ls [])) := by
  intro n9
  have hp8 := hX.1.2.2.2.1
  induction n9 with
  | zero => intro i h hi8 eh hm; exact absurd hm (Nat.not_lt_zero _)
  | succ n9 ih =>
    skip
    · intro i h hi8 eh hm H locs ls hl w
      refine lv_iload_n S.1 S.2.1 dX8_digest_136 rfl (lv_at hl 2 rfl) ?_
      refine lv_aload_n S.1 S.2.1 dX8_digest_137 rfl (lv_at hl 0 rfl) ?_
      refine nv_get S w (C := RX8) (T := TX8) (N := 11) hn_X8_digest_8 0 rfl rfl 0 (by decide) (List.mem_of_getElem? (i := 5) rfl) (v := .ref (b 1)) rfl dX8_digest_138 ?_
      refine lv_bipush (v := nI 6) S.1 S.2.1 dX8_digest_141 (by decide +kernel) ?_
      refine nv_iald S w (i := 6) (g := (enc X)) 1 rfl (by omega) (by decide) dX8_digest_143 ?_
      refine W.eq (g2 := F0 m 144 ls [vI X.1.2.2.2, vI i]) rfl ?_
      refine nv_icmp_ge S (by omega) (by omega) (tgt := 170) dX8_digest_144 (by decide) (fun h_2 => ?_) (fun h_2 => ?_)
      · skip
        refine lv_iconst (v := nI 0) S.1 S.2.1 dX8_digest_170 (ofInt_nI 0) ?_
        refine lv_istore_n (lv' := [(3, vI 0), (0, .ref (b 0)), (1, .long h)]) S.1 S.2.1 dX8_digest_171 rfl hl (by decide) rfl (fun ls hl => ?_)
        exact k_X8_digest_d l D Z b X sv sd sm th tl pl ro nu t r hX S hr hlocks _ 0 h (by omega) (by rw [eh, show i = X.1.2.2.2 by omega]; rfl) (Nat.lt_succ_self _) _ _ _ (lv_sub hl [1, 2, 0] rfl) w
      · skip
        refine lv_ldc2 (v := 31) S.1 S.2.1 S.2.2.2.1 (S.2.2.2.2 _ (by decide +kernel)) dX8_digest_147 ?_
        refine lv_lload_n S.1 S.2.1 dX8_digest_150 rfl (lv_at hl 1 rfl) ?_
        refine lv_lmul S.1 S.2.1 dX8_digest_151 ?_
        refine lv_aload_n S.1 S.2.1 dX8_digest_152 rfl (lv_at hl 0 rfl) ?_
        refine nv_get S w (C := RX8) (T := TX8) (N := 11) hn_X8_digest_8 0 rfl rfl 0 (by decide) (List.mem_of_getElem? (i := 5) rfl) (v := .ref (b 1)) rfl dX8_digest_153 ?_
        refine lv_bipush (v := nI 7) S.1 S.2.1 dX8_digest_156 (by decide +kernel) ?_
        refine lv_iload_n S.1 S.2.1 dX8_digest_158 rfl (lv_at hl 2 rfl) ?_
        refine nv_iadd S dX8_digest_159 ?_
        refine nv_iald S w (i := (7 + i)) (g := (enc X)) 1 rfl (by omega) (by decide) dX8_digest_160 ?_
        refine W.eq (g2 := F0 m 161 ls [vI (X.1.2.2.1 i), .long (31 * h)]) (by rw [enc_o (by omega)]) ?_
        refine lv_i2l (v := (nI (X.1.2.2.1 i)).toInt64) S.1 S.2.1 dX8_digest_161 rfl ?_
        refine lv_ladd S.1 S.2.1 dX8_digest_162 ?_
        refine lv_lstore_n (lv' := [(1, .long ((31 * h) + ((nI (X.1.2.2.1 i)).toInt64))), (0, .ref (b 0)), (3, vI i)]) S.1 S.2.1 dX8_digest_163 rfl hl (by decide) rfl (fun ls hl => ?_)
        refine lv_iinc (v := nI (i + 1)) (lv' := [(3, vI (i + 1)), (1, .long ((31 * h) + ((nI (X.1.2.2.1 i)).toInt64))), (0, .ref (b 0))]) S.1 S.2.1 dX8_digest_164 hl (k := 2) rfl (nI_incI i 1) (by decide) rfl (fun ls hl => ?_)
        refine lv_goto (tgt := 136) S.1 S.2.1 dX8_digest_167 (by decide) ?_
        exact ih (i + 1) ((31 * h) + ((nI (X.1.2.2.1 i)).toInt64)) (by omega) (by rw [eh]; rfl) (by omega) _ _ _ (lv_sub hl [2, 1, 0] rfl) w
set_option maxRecDepth 100000 in
set_option maxHeartbeats 4000000 in
theorem k_X8_digest_b (l : Launch) (D : va_G) (Z : Nat → ClassId) (b : Nat → Nat) (X : ST) (sv sd : Nat → Nat) (sm th tl pl ro nu : Nat) (t r : Nat → Nat) (hX : XB X) {p : Program} {e : Env} {s : State} {m : MethodId} {args : Array Value} {below : List Frame} {meth : Method} {c : Code} {A : Nat → Prop} (S : CallFix p m c cX8_digest 5 s args wsX8_digest RX8) (hr : meth.sig.returnType = (some .long)) (hlocks : meth.locks = false) : ∀ (n9 : Nat), (∀ (i j : Nat) (h : Int64) (hi6 : i < 6) (hj9 : j ≤ 16 * X.1.2.1 i) (eh : h = dgN (cellN X.1 i) (dgN (factP X.1 i) (dgP X.1 (dg1 X tl) i) 5) j) (hm : 1000 * (6 - i) + 800 - j < n9), ∀ (H : Heap) (locs : List Loc) (ls : Array Slot) (hl : lv_has ls 5 [(0, .ref (b 0)), (1, .long h), (3, vI i), (4, vI j)]) (w : Wd D Z A s (mdM Z b X sv sd sm 0 tl pl ro nu t r) H locs), W p l e (rmO 7 159) s m args below meth c H locs 0 0 (Ql below D Z A args s (dgA X tl sm) (mdM Z b X sv (enc X) sm 0 tl pl ro nu t r)) (F0 m 83 ls [])) ∧ (∀ (i j : Nat) (h : Int64) (hi6 : i < 6) (hj5 : j ≤ 5) (eh : h = dgN (factP X.1 i) (dgP X.1 (dg1 X tl) i) j) (hm : 1000 * (6 - i) + 900 - j < n9), ∀ (H : Heap) (locs : List Loc) (ls : Array Slot) (hl : lv_has ls 5 [(0, .ref (b 0)), (1, .long h), (3, vI i), (4, vI j)]) (w : Wd D Z A s (mdM Z b X sv sd sm 0 tl pl ro nu t r) H locs), W p l e (rmO 7 159) s m args below meth c H locs 0 0 (Ql below D Z A args s (dgA X tl sm) (mdM Z b X sv (enc X) sm 0 tl pl ro nu t r)) (F0 m 53 ls [])) ∧ (∀ (i : Nat) (h : Int64) (hi6 : i ≤ 6) (eh : h = dgP X.1 (dg1 X tl) i) (hm : 1000 * (6 - i) + 999 < n9), ∀ (H : Heap) (locs : List Loc) (ls : Array Slot) (hl : lv_has ls 5 [(0, .ref (b 0)), (1, .long h), (3, vI i)]) (w : Wd D Z A s (mdM Z b X sv sd sm 0 tl pl ro nu t r) H locs), W p l e (rmO 7 159) s m args below meth c H locs 0 0 (Ql below D Z A args s (dgA X tl sm) (mdM Z b X sv (enc X) sm 0 tl pl ro nu t r)) (F0 m 44 ls [])) := by
  intro n9
  have hp8 := hX.1.2.2.2.1
  induction n9 with
  | zero => exact ⟨fun i j h hi6 hj9 eh hm => absurd hm (Nat.not_lt_zero _), fun i j h hi6 hj5 eh hm => absurd hm (Nat.not_lt_zero _), fun i h hi6 eh hm => absurd hm (Nat.not_lt_zero _)⟩
  | succ n9 ih =>
    refine ⟨?_, ?_, ?_⟩
    · intro i j h hi6 hj9 eh hm H locs ls hl w
      have hra := hX.1.2.1 i hi6
      refine lv_iload S.1 S.2.1 dX8_digest_83 (lv_at hl 3 rfl) ?_
      refine lv_bipush (v := nI 16) S.1 S.2.1 dX8_digest_85 (by decide +kernel) ?_
      refine lv_aload_n S.1 S.2.1 dX8_digest_87 rfl (lv_at hl 0 rfl) ?_
      refine nv_get S w (C := RX8) (T := TX8) (N := 11) hn_X8_digest_8 0 rfl rfl 0 (by decide) (List.mem_of_getElem? (i := 5) rfl) (v := .ref (b 1)) rfl dX8_digest_88 ?_
      refine lv_bipush (v := nI 15) S.1 S.2.1 dX8_digest_91 (by decide +kernel) ?_
      refine lv_iload_n S.1 S.2.1 dX8_digest_93 rfl (lv_at hl 2 rfl) ?_
      refine nv_iadd S dX8_digest_94 ?_
      refine nv_iald S w (i := (15 + i)) (g := (enc X)) 1 rfl (by omega) (by decide) dX8_digest_95 ?_
      refine W.eq (g2 := F0 m 96 ls [vI (X.1.2.1 i), vI 16, vI j]) (by rw [enc_r (by omega)]) ?_
      refine nv_imul S dX8_digest_96 ?_
      refine nv_icmp_ge S (by omega) (by omega) (tgt := 128) dX8_digest_97 (by decide) (fun h_3 => ?_) (fun h_3 => ?_)
      · skip
        refine lv_iinc (v := nI (i + 1)) (lv' := [(3, vI (i + 1)), (0, .ref (b 0)), (1, .long h), (4, vI j)]) S.1 S.2.1 dX8_digest_128 hl (k := 2) rfl (nI_incI i 1) (by decide) rfl (fun ls hl => ?_)
        refine lv_goto (tgt := 44) S.1 S.2.1 dX8_digest_131 (by decide) ?_
        exact (ih).2.2 (i + 1) h (by omega) (by rw [eh, show j = 16 * X.1.2.1 i by omega]; rfl) (by omega) _ _ _ (lv_sub hl [1, 2, 0] rfl) w
      · skip
        refine lv_ldc2 (v := 31) S.1 S.2.1 S.2.2.2.1 (S.2.2.2.2 _ (by decide +kernel)) dX8_digest_100 ?_
        refine lv_lload_n S.1 S.2.1 dX8_digest_103 rfl (lv_at hl 1 rfl) ?_
        refine lv_lmul S.1 S.2.1 dX8_digest_104 ?_
        refine lv_aload_n S.1 S.2.1 dX8_digest_105 rfl (lv_at hl 0 rfl) ?_
        refine nv_get S w (C := RX8) (T := TX8) (N := 11) hn_X8_digest_8 0 rfl rfl 0 (by decide) (List.mem_of_getElem? (i := 5) rfl) (v := .ref (b 1)) rfl dX8_digest_106 ?_
        refine lv_iload_n S.1 S.2.1 dX8_digest_109 rfl (lv_at hl 2 rfl) ?_
        refine lv_iconst (v := nI 0) S.1 S.2.1 dX8_digest_110 (ofInt_nI 0) ?_
        refine lv_iconst (v := nI 0) S.1 S.2.1 dX8_digest_111 (ofInt_nI 0) ?_
        refine nv_pSi (rest := [.ref (b 1), .long (31 * h)]) S w hl.1 (c_X8_cellAt l D Z i 0 0 ) gX8_digest_X8_cellAt rfl hdS_X8_cellAt ⟨Nat.le_of_ble_eq_true rfl, Nat.le_of_ble_eq_true rfl⟩ rfl rfl (Nat.le_of_ble_eq_true rfl) ⟨Nat.zero_le _, Nat.zero_le _⟩ dX8_digest_112 (fun H locs w => ?_)
        refine lv_iload S.1 S.2.1 dX8_digest_115 (lv_at hl 3 rfl) ?_
        refine nv_iadd S dX8_digest_117 ?_
        refine nv_iald S w (i := ((85 + 4 * cix i 0 0) + j)) (g := (enc X)) 1 rfl (by unfold cix; omega) (by decide) dX8_digest_118 ?_
        refine W.eq (g2 := F0 m 119 ls [vI (cellN X.1 i j), .long (31 * h)]) (by unfold cellN; rw [show 85 + 4 * cix i 0 0 + j = 85 + 4 * (32 * i + j / 4) + j % 4 by unfold cix; omega, enc_c (by omega)]) ?_
        refine lv_i2l (v := (nI (cellN X.1 i j)).toInt64) S.1 S.2.1 dX8_digest_119 rfl ?_
        refine lv_ladd S.1 S.2.1 dX8_digest_120 ?_
        refine lv_lstore_n (lv' := [(1, .long ((31 * h) + ((nI (cellN X.1 i j)).toInt64))), (0, .ref (b 0)), (3, vI i), (4, vI j)]) S.1 S.2.1 dX8_digest_121 rfl hl (by decide) rfl (fun ls hl => ?_)
        refine lv_iinc (v := nI (j + 1)) (lv' := [(4, vI (j + 1)), (1, .long ((31 * h) + ((nI (cellN X.1 i j)).toInt64))), (0, .ref (b 0)), (3, vI i)]) S.1 S.2.1 dX8_digest_122 hl (k := 3) rfl (nI_incI j 1) (by decide) rfl (fun ls hl => ?_)
        refine lv_goto (tgt := 83) S.1 S.2.1 dX8_digest_125 (by decide) ?_
        exact (ih).1 i (j + 1) ((31 * h) + ((nI (cellN X.1 i j)).toInt64)) (by omega) (by omega) (by rw [eh]; rfl) (by omega) _ _ _ (lv_sub hl [2, 1, 3, 0] rfl) w
    · intro i j h hi6 hj5 eh hm H locs ls hl w
      refine lv_iload S.1 S.2.1 dX8_digest_53 (lv_at hl 3 rfl) ?_
      refine lv_iconst (v := nI 5) S.1 S.2.1 dX8_digest_55 (ofInt_nI 5) ?_
      refine nv_icmp_ge S (by omega) (by omega) (tgt := 80) dX8_digest_56 (by decide) (fun h_4 => ?_) (fun h_4 => ?_)
      · skip
        refine lv_iconst (v := nI 0) S.1 S.2.1 dX8_digest_80 (ofInt_nI 0) ?_
        refine lv_istore (lv' := [(4, vI 0), (0, .ref (b 0)), (1, .long h), (3, vI i)]) S.1 S.2.1 dX8_digest_81 hl (by decide) rfl (fun ls hl => ?_)
        exact (ih).1 i 0 h (by omega) (by omega) (by rw [eh, show j = 5 by omega]; rfl) (by omega) _ _ _ (lv_sub hl [1, 2, 3, 0] rfl) w
      · skip
        refine lv_ldc2 (v := 31) S.1 S.2.1 S.2.2.2.1 (S.2.2.2.2 _ (by decide +kernel)) dX8_digest_59 ?_
        refine lv_lload_n S.1 S.2.1 dX8_digest_62 rfl (lv_at hl 1 rfl) ?_
        refine lv_lmul S.1 S.2.1 dX8_digest_63 ?_
        refine lv_aload_n S.1 S.2.1 dX8_digest_64 rfl (lv_at hl 0 rfl) ?_
        refine lv_iload_n S.1 S.2.1 dX8_digest_65 rfl (lv_at hl 2 rfl) ?_
        refine lv_iload S.1 S.2.1 dX8_digest_66 (lv_at hl 3 rfl) ?_
        refine nv_rVi (rest := [.long (31 * h)]) S w hl.1 (c_X8_patternOf l D Z b X sv sd sm 0 tl pl ro nu t r i j hX.1 (by omega) (by omega)) [0, 1, 2, 3, 4, 5] rfl rfl gX8_digest_X8_patternOf rfl hdV_X8_patternOf ⟨Nat.le_of_ble_eq_true rfl, Nat.le_of_ble_eq_true rfl⟩ (q0 := 0) rfl rfl rfl rfl (Nat.le_of_ble_eq_true rfl) ⟨Nat.zero_le _, Nat.zero_le _⟩ dX8_digest_68 (fun H locs w => ?_)
        refine lv_i2l (v := (nI (factP X.1 i j)).toInt64) S.1 S.2.1 dX8_digest_71 rfl ?_
        refine lv_ladd S.1 S.2.1 dX8_digest_72 ?_
        refine lv_lstore_n (lv' := [(1, .long ((31 * h) + ((nI (factP X.1 i j)).toInt64))), (0, .ref (b 0)), (3, vI i), (4, vI j)]) S.1 S.2.1 dX8_digest_73 rfl hl (by decide) rfl (fun ls hl => ?_)
        refine lv_iinc (v := nI (j + 1)) (lv' := [(4, vI (j + 1)), (1, .long ((31 * h) + ((nI (factP X.1 i j)).toInt64))), (0, .ref (b 0)), (3, vI i)]) S.1 S.2.1 dX8_digest_74 hl (k := 3) rfl (nI_incI j 1) (by decide) rfl (fun ls hl => ?_)
        refine lv_goto (tgt := 53) S.1 S.2.1 dX8_digest_77 (by decide) ?_
        exact (ih).2.1 i (j + 1) ((31 * h) + ((nI (factP X.1 i j)).toInt64)) (by omega) (by omega) (by rw [eh]; rfl) (by omega) _ _ _ (lv_sub hl [2, 1, 3, 0] rfl) w
    · intro i h hi6 eh hm H locs ls hl w
      refine lv_iload_n S.1 S.2.1 dX8_digest_44 rfl (lv_at hl 2 rfl) ?_
      refine lv_bipush (v := nI 6) S.1 S.2.1 dX8_digest_45 (by decide +kernel) ?_
      refine nv_icmp_ge S (by omega) (by omega) (tgt := 134) dX8_digest_47 (by decide) (fun h_5 => ?_) (fun h_5 => ?_)
      · skip
        refine lv_iconst (v := nI 0) S.1 S.2.1 dX8_digest_134 (ofInt_nI 0) ?_
        refine lv_istore_n (lv' := [(3, vI 0), (0, .ref (b 0)), (1, .long h)]) S.1 S.2.1 dX8_digest_135 rfl hl (by decide) rfl (fun ls hl => ?_)
        exact k_X8_digest_c l D Z b X sv sd sm th tl pl ro nu t r hX S hr hlocks _ 0 h (by omega) (by rw [eh, show i = 6 by omega]; rfl) (Nat.lt_succ_self _) _ _ _ (lv_sub hl [1, 2, 0] rfl) w
      · skip
        refine lv_iconst (v := nI 0) S.1 S.2.1 dX8_digest_50 (ofInt_nI 0) ?_
        refine lv_istore (lv' := [(4, vI 0), (0, .ref (b 0)), (1, .long h), (3, vI i)]) S.1 S.2.1 dX8_digest_51 hl (by decide) rfl (fun ls hl => ?_)
        exact (ih).2.1 i 0 h (by omega) (by omega) eh (by omega) _ _ _ (lv_sub hl [1, 2, 3, 0] rfl) w
set_option maxRecDepth 100000 in
set_option maxHeartbeats 4000000 in
theorem k_X8_digest_a (l : Launch) (D : va_G) (Z : Nat → ClassId) (b : Nat → Nat) (X : ST) (sv sd : Nat → Nat) (sm th tl pl ro nu : Nat) (t r : Nat → Nat) (hX : XB X) {p : Program} {e : Env} {s : State} {m : MethodId} {args : Array Value} {below : List Frame} {meth : Method} {c : Code} {A : Nat → Prop} (S : CallFix p m c cX8_digest 5 s args wsX8_digest RX8) (hr : meth.sig.returnType = (some .long)) (hlocks : meth.locks = false) : ∀ (n9 : Nat), (∀ (i : Nat) (h : Int64) (hi8 : i ≤ 8) (eh : h = dgN (valF X) (109523 + (nI tl).toInt64) i) (hm : 8 - i < n9), ∀ (H : Heap) (locs : List Loc) (ls : Array Slot) (hl : lv_has ls 5 [(0, .ref (b 0)), (1, .long h), (3, vI i)]) (w : Wd D Z A s (mdM Z b X sv sd sm 0 tl pl ro nu t r) H locs), W p l e (rmO 7 159) s m args below meth c H locs 0 0 (Ql below D Z A args s (dgA X tl sm) (mdM Z b X sv (enc X) sm 0 tl pl ro nu t r)) (F0 m 17 ls [])) := by
  intro n9
  have hp8 := hX.1.2.2.2.1
  induction n9 with
  | zero => intro i h hi8 eh hm; exact absurd hm (Nat.not_lt_zero _)
  | succ n9 ih =>
    skip
    · intro i h hi8 eh hm H locs ls hl w
      refine lv_iload_n S.1 S.2.1 dX8_digest_17 rfl (lv_at hl 2 rfl) ?_
      refine lv_bipush (v := nI 8) S.1 S.2.1 dX8_digest_18 (by decide +kernel) ?_
      refine nv_icmp_ge S (by omega) (by omega) (tgt := 42) dX8_digest_20 (by decide) (fun h_6 => ?_) (fun h_6 => ?_)
      · skip
        refine lv_iconst (v := nI 0) S.1 S.2.1 dX8_digest_42 (ofInt_nI 0) ?_
        refine lv_istore_n (lv' := [(3, vI 0), (0, .ref (b 0)), (1, .long h)]) S.1 S.2.1 dX8_digest_43 rfl hl (by decide) rfl (fun ls hl => ?_)
        exact (k_X8_digest_b l D Z b X sv sd sm th tl pl ro nu t r hX S hr hlocks _).2.2 0 h (by omega) (by rw [eh, show i = 8 by omega]; rfl) (Nat.lt_succ_self _) _ _ _ (lv_sub hl [1, 2, 0] rfl) w
      · skip
        refine lv_ldc2 (v := 31) S.1 S.2.1 S.2.2.2.1 (S.2.2.2.2 _ (by decide +kernel)) dX8_digest_23 ?_
        refine lv_lload_n S.1 S.2.1 dX8_digest_26 rfl (lv_at hl 1 rfl) ?_
        refine lv_lmul S.1 S.2.1 dX8_digest_27 ?_
        refine lv_aload_n S.1 S.2.1 dX8_digest_28 rfl (lv_at hl 0 rfl) ?_
        refine lv_iload_n S.1 S.2.1 dX8_digest_29 rfl (lv_at hl 2 rfl) ?_
        refine nv_rVi (rest := [.long (31 * h)]) S w hl.1 (c_X8_valueOf l D Z b X sv sd sm 0 tl pl ro nu t r i (by omega) (Nat.lt_of_lt_of_le hX.2.1.1 hX.1.2.2.2.1)) [0, 1, 2, 3, 4, 5] rfl rfl gX8_digest_X8_valueOf rfl hdV_X8_valueOf ⟨Nat.le_of_ble_eq_true rfl, Nat.le_of_ble_eq_true rfl⟩ (q0 := 0) rfl rfl rfl rfl (Nat.le_of_ble_eq_true rfl) ⟨Nat.zero_le _, Nat.zero_le _⟩ dX8_digest_30 (fun H locs w => ?_)
        refine lv_i2l (v := (nI (valF X i)).toInt64) S.1 S.2.1 dX8_digest_33 rfl ?_
        refine lv_ladd S.1 S.2.1 dX8_digest_34 ?_
        refine lv_lstore_n (lv' := [(1, .long ((31 * h) + ((nI (valF X i)).toInt64))), (0, .ref (b 0)), (3, vI i)]) S.1 S.2.1 dX8_digest_35 rfl hl (by decide) rfl (fun ls hl => ?_)
        refine lv_iinc (v := nI (i + 1)) (lv' := [(3, vI (i + 1)), (1, .long ((31 * h) + ((nI (valF X i)).toInt64))), (0, .ref (b 0))]) S.1 S.2.1 dX8_digest_36 hl (k := 2) rfl (nI_incI i 1) (by decide) rfl (fun ls hl => ?_)
        refine lv_goto (tgt := 17) S.1 S.2.1 dX8_digest_39 (by decide) ?_
        exact ih (i + 1) ((31 * h) + ((nI (valF X i)).toInt64)) (by omega) (by rw [eh]; rfl) (by omega) _ _ _ (lv_sub hl [2, 1, 0] rfl) w
set_option maxRecDepth 100000 in
set_option maxHeartbeats 4000000 in
theorem c_X8_digest (l : Launch) (D : va_G) (Z : Nat → ClassId) (b : Nat → Nat) (X : ST) (sv sd : Nat → Nat) (sm th tl pl ro nu : Nat) (t r : Nat → Nat) (hX : XB X) : Cl l yX8_digest wsX8_digest 7 159 D Z [.ref (b 0)] (mdM Z b X sv sd sm th tl pl ro nu t r) (dgA X tl sm) (mdM Z b X sv (enc X) sm 0 tl pl ro nu t r) := by
  refine ne_l (cc := cX8_digest) (maxL := 5) (by decide +kernel) rfl (Nat.le_of_ble_eq_true rfl) (fun p e s m args below meth c A ls (S : CallFix p m c cX8_digest 5 s args wsX8_digest RX8) hr hlocks hl w => ?_)
  have hp8 := hX.1.2.2.2.1
  have hl : lv_has ls 5 [(0, .ref (b 0))] := hl
  refine lv_aload_n S.1 S.2.1 dX8_digest_0 rfl (lv_at hl 0 rfl) ?_
  refine lv_iconst (v := nI 0) S.1 S.2.1 dX8_digest_1 (ofInt_nI 0) ?_
  refine nv_put S w (C := RX8) (T := TX8) (N := 11) hn_X8_digest_8 tyX8_ok nmX8 0 rfl rfl 4 (by decide) (List.mem_of_getElem? (i := 1) rfl) rfl rfl (Nat.le_of_ble_eq_true rfl) (ws' := [(b 0, .inr (7, [.ref (b 1), .ref (b 2), .ref (b 3), vI sm, vI 0, .ref (b 4), vI tl, vI pl, .ref (b 5), vI ro, vI nu])), (b 1, .inl (Z 0, 853, .inl (ar 853 (enc X)))), (b 2, .inl (Z 0, 3412, .inl (ar 3412 sv))), (b 3, .inl (Z 0, 853, .inl (ar 853 sd))), (b 4, .inl (Z 0, 100, .inl (ar 100 t))), (b 5, .inl (Z 0, 128, .inl (ar 128 r)))]) rfl dX8_digest_2 (fun H locs w => ?_)
  have w := w.as (ws' := mdM Z b X sv sd sm 0 tl pl ro nu t r) rfl
  refine lv_ldc2 (v := 109523) S.1 S.2.1 S.2.2.2.1 (S.2.2.2.2 _ (by decide +kernel)) dX8_digest_5 ?_
  refine lv_aload_n S.1 S.2.1 dX8_digest_8 rfl (lv_at hl 0 rfl) ?_
  refine nv_get S w (C := RX8) (T := TX8) (N := 11) hn_X8_digest_8 0 rfl rfl 6 (by decide) (List.mem_of_getElem? (i := 3) rfl) (v := vI tl) rfl dX8_digest_9 ?_
  refine lv_i2l (v := (nI tl).toInt64) S.1 S.2.1 dX8_digest_12 rfl ?_
  refine lv_ladd S.1 S.2.1 dX8_digest_13 ?_
  refine lv_lstore_n (lv' := [(1, .long (109523 + ((nI tl).toInt64))), (0, .ref (b 0))]) S.1 S.2.1 dX8_digest_14 rfl hl (by decide) rfl (fun ls hl => ?_)
  refine lv_iconst (v := nI 0) S.1 S.2.1 dX8_digest_15 (ofInt_nI 0) ?_
  refine lv_istore_n (lv' := [(3, vI 0), (1, .long (109523 + ((nI tl).toInt64))), (0, .ref (b 0))]) S.1 S.2.1 dX8_digest_16 rfl hl (by decide) rfl (fun ls hl => ?_)
  exact k_X8_digest_a l D Z b X sv sd sm th tl pl ro nu t r hX S hr hlocks _ 0 (109523 + ((nI tl).toInt64)) (by omega) rfl (Nat.lt_succ_self _) _ _ _ (lv_sub hl [2, 1, 0] rfl) w
