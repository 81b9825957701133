theorem hdV_X7_pattern : yX7_pattern.cls = RX7 ∧ yX7_pattern.cls ≠ "java/lang/invoke/MethodHandle" ∧ yX7_pattern.cls ≠ "java/lang/invoke/VarHandle" ∧ (parseMethodDescriptor yX7_pattern.desc).map (fun d => d.parameters.length) = some 2 := by decide +kernel
theorem hdV_X7_silent : yX7_silent.cls = RX7 ∧ yX7_silent.cls ≠ "java/lang/invoke/MethodHandle" ∧ yX7_silent.cls ≠ "java/lang/invoke/VarHandle" ∧ (parseMethodDescriptor yX7_silent.desc).map (fun d => d.parameters.length) = some 2 := by decide +kernel
theorem hdV_X7_deepest : yX7_deepest.cls = RX7 ∧ yX7_deepest.cls ≠ "java/lang/invoke/MethodHandle" ∧ yX7_deepest.cls ≠ "java/lang/invoke/VarHandle" ∧ (parseMethodDescriptor yX7_deepest.desc).map (fun d => d.parameters.length) = some 2 := by decide +kernel
theorem hdV_X7_unheard : yX7_unheard.cls = RX7 ∧ yX7_unheard.cls ≠ "java/lang/invoke/MethodHandle" ∧ yX7_unheard.cls ≠ "java/lang/invoke/VarHandle" ∧ (parseMethodDescriptor yX7_unheard.desc).map (fun d => d.parameters.length) = some 2 := by decide +kernel
theorem hdV_X7_channel : yX7_channel.cls = RX7 ∧ yX7_channel.cls ≠ "java/lang/invoke/MethodHandle" ∧ yX7_channel.cls ≠ "java/lang/invoke/VarHandle" ∧ (parseMethodDescriptor yX7_channel.desc).map (fun d => d.parameters.length) = some 2 := by decide +kernel
theorem hdV_X7_ticksToRound : yX7_ticksToRound.cls = RX7 ∧ yX7_ticksToRound.cls ≠ "java/lang/invoke/MethodHandle" ∧ yX7_ticksToRound.cls ≠ "java/lang/invoke/VarHandle" ∧ (parseMethodDescriptor yX7_ticksToRound.desc).map (fun d => d.parameters.length) = some 0 := by decide +kernel
theorem hdV_X7_meanVolume : yX7_meanVolume.cls = RX7 ∧ yX7_meanVolume.cls ≠ "java/lang/invoke/MethodHandle" ∧ yX7_meanVolume.cls ≠ "java/lang/invoke/VarHandle" ∧ (parseMethodDescriptor yX7_meanVolume.desc).map (fun d => d.parameters.length) = some 0 := by decide +kernel
set_option maxRecDepth 100000 in
set_option maxHeartbeats 4000000 in
theorem k_L_areAlike_c (l : Launch) (hst : l.stackTraces = false) (D : va_G) (Z : Nat → ClassId) (z y : Nat → Nat → Nat) (X : ST) (o n : Nat) (Y : Nat → ST) (P : PG) (M : ST) (a b : Nat) (B : Nat → ST) (Q : PG) (hL : LPq X o n M a b) {p : Program} {e : Env} {s : State} {m : MethodId} {args : Array Value} {below : List Frame} {meth : Method} {c : Code} {A : Nat → Prop} (S : CallFix p m c cL_areAlike 5 s args wsL_areAlike RL) (hr : meth.sig.returnType = (some .boolean)) (hlocks : meth.locks = false) (X9 : XT A s s.heap) : ∀ (n9 : Nat), (∀ (d : Nat) (Pz Qz : PG) (hd : d ≤ 6) (hm : 100 * (6 - d) + 99 < n9), ∀ (H : Heap) (locs : List Loc) (ls : Array Slot) (hl : lv_has ls 5 [(0, .ref (z 0 0)), (1, .ref (y 0 0)), (2, vI 1), (3, vI d)]) (w : Wd D Z A s (qW Z z X o n Y Pz ++ qW Z y M a b B Qz) H locs), W p l e (rmX 8 141 320 1900) s m args below meth c H locs (192 + 20 * d) (1152 + 120 * d) (Qr (β := (PG × PG)) below D Z A args s (fun _ => True) (nI 1) (fun u => qW Z z X o n Y u.1 ++ qW Z y M a b B u.2) 320 1900) (F0 m 197 ls [])) ∧ (∀ (d j : Nat) (Pz Qz : PG) (hd : d < 6) (hj : j ≤ 5) (hm : 100 * (6 - d) + (5 - j) < n9), ∀ (H : Heap) (locs : List Loc) (ls : Array Slot) (hl : lv_has ls 5 [(0, .ref (z 0 0)), (1, .ref (y 0 0)), (2, vI 1), (3, vI d), (4, vI j)]) (w : Wd D Z A s (qW Z z X o n Y Pz ++ qW Z y M a b B Qz) H locs), W p l e (rmX 8 141 320 1900) s m args below meth c H locs (192 + 20 * d + 4 * j) (1152 + 120 * d + 24 * j) (Qr (β := (PG × PG)) below D Z A args s (fun _ => True) (nI 1) (fun u => qW Z z X o n Y u.1 ++ qW Z y M a b B u.2) 320 1900) (F0 m 210 ls [])) := by
  intro n9
  induction n9 with
  | zero => exact ⟨fun d Pz Qz hd hm => absurd hm (Nat.not_lt_zero _), fun d j Pz Qz hd hj hm => absurd hm (Nat.not_lt_zero _)⟩
  | succ n9 ih =>
    refine ⟨?_, ?_⟩
    · intro d Pz Qz hd hm H locs ls hl w
      have hX := hL.1
      obtain ⟨b0, b1, b2, b3, b4, b5⟩ := hX.2.1
      have hp1 := hX.1.2.2.1
      have hp8 := hX.1.2.2.2.1
      refine lv_iload_n S.1 S.2.1 dL_areAlike_197 rfl (lv_at hl 3 rfl) ?_
      refine lv_bipush (v := nI 6) S.1 S.2.1 dL_areAlike_198 (by decide +kernel) ?_
      refine nv_icmp_ge S (by omega) (by omega) (tgt := 255) dL_areAlike_200 (by decide) (fun h_1 => ?_) (fun h_1 => ?_)
      · skip
        refine lv_iload_n S.1 S.2.1 dL_areAlike_255 rfl (lv_at hl 2 rfl) ?_
        exact nr_iret S w hr hlocks (nI_bool (by decide)) (Pz, Qz) trivial rfl rfl (by omega) (by omega) dL_areAlike_256
      · skip
        refine lv_iload_n S.1 S.2.1 dL_areAlike_203 rfl (lv_at hl 2 rfl) ?_
        refine lv_if_eq (tgt := 255) S.1 S.2.1 dL_areAlike_204 (by decide) (fun h9 => absurd h9 (by decide)) (fun _ => ?_)
        refine lv_iconst (v := nI 0) S.1 S.2.1 dL_areAlike_207 (ofInt_nI 0) ?_
        refine lv_istore (lv' := [(4, vI 0), (0, .ref (z 0 0)), (1, .ref (y 0 0)), (2, vI 1), (3, vI d)]) S.1 S.2.1 dL_areAlike_208 hl (by decide) rfl (fun ls hl => ?_)
        refine W.widen (k := 192 + 20 * d + 4 * 0) (n := 1152 + 120 * d + 24 * 0) (by omega) (by omega) ?_
        exact (ih).2 d 0 Pz Qz (by omega) (by omega) (by omega) _ _ _ (lv_sub hl [1, 2, 3, 4, 0] rfl) w
    · intro d j Pz Qz hd hj hm H locs ls hl w
      have hX := hL.1
      obtain ⟨b0, b1, b2, b3, b4, b5⟩ := hX.2.1
      have hp1 := hX.1.2.2.1
      have hp8 := hX.1.2.2.2.1
      refine lv_iload S.1 S.2.1 dL_areAlike_210 (lv_at hl 4 rfl) ?_
      refine lv_iconst (v := nI 5) S.1 S.2.1 dL_areAlike_212 (ofInt_nI 5) ?_
      refine nv_icmp_ge S (by omega) (by omega) (tgt := 249) dL_areAlike_213 (by decide) (fun h_3 => ?_) (fun h_3 => ?_)
      · skip
        refine lv_iinc (v := nI (d + 1)) (lv' := [(3, vI (d + 1)), (0, .ref (z 0 0)), (1, .ref (y 0 0)), (2, vI 1), (4, vI j)]) S.1 S.2.1 dL_areAlike_249 hl (k := 3) rfl (nI_incI d 1) (by decide) rfl (fun ls hl => ?_)
        refine lv_goto (tgt := 197) S.1 S.2.1 dL_areAlike_252 (by decide) ?_
        refine W.widen (k := 192 + 20 * (d + 1)) (n := 1152 + 120 * (d + 1)) (by omega) (by omega) ?_
        exact (ih).1 (d + 1) Pz Qz (by omega) (by omega) _ _ _ (lv_sub hl [1, 2, 3, 0] rfl) w
      · skip
        refine lv_iload_n S.1 S.2.1 dL_areAlike_216 rfl (lv_at hl 2 rfl) ?_
        refine lv_if_eq (tgt := 241) S.1 S.2.1 dL_areAlike_217 (by decide) (fun h9 => absurd h9 (by decide)) (fun _ => ?_)
        refine lv_aload_n S.1 S.2.1 dL_areAlike_220 rfl (lv_at hl 0 rfl) ?_
        refine lv_iload_n S.1 S.2.1 dL_areAlike_221 rfl (lv_at hl 3 rfl) ?_
        refine lv_iload S.1 S.2.1 dL_areAlike_222 (lv_at hl 4 rfl) ?_
        obtain ⟨v11, P11, Q11, h1v11, h2v11⟩ := pa_pattern l hst D Z z y Y Pz B Qz hL (u := d) (w := j) (by omega) (by omega)
        refine nx_nVi ([]) (qW Z y M a b B Qz) (ws' := qW Z z X o n Y P11 ++ qW Z y M a b B Qz) (rest := []) S w X9 hl.1 (h1v11) (by simp only [List.nil_append, List.append_nil, List.append_assoc]) adr_q (by simp only [List.nil_append, List.append_nil, List.append_assoc]) gL_areAlike_X7_pattern rfl hdV_X7_pattern ⟨(Nat.le_of_ble_eq_true rfl), (Nat.le_of_ble_eq_true rfl)⟩ (q0 := 0) rfl rfl rfl rfl (Nat.le_of_ble_eq_true rfl) ⟨(by show _ ≤ 320; omega), (by show _ ≤ 1900; omega)⟩ dL_areAlike_224 (fun H locs w => ?_)
        refine lv_aload_n S.1 S.2.1 dL_areAlike_227 rfl (lv_at hl 1 rfl) ?_
        refine lv_iload_n S.1 S.2.1 dL_areAlike_228 rfl (lv_at hl 3 rfl) ?_
        refine lv_iload S.1 S.2.1 dL_areAlike_229 (lv_at hl 4 rfl) ?_
        refine nx_nVi (qW Z z X o n Y P11) ([]) (ws' := qW Z z X o n Y P11 ++ qW Z y M a b B Q11) (rest := [.int v11]) S w X9 hl.1 (h2v11) (by simp only [List.nil_append, List.append_nil, List.append_assoc]) adr_q (by simp only [List.nil_append, List.append_nil, List.append_assoc]) gL_areAlike_X7_pattern rfl hdV_X7_pattern ⟨(Nat.le_of_ble_eq_true rfl), (Nat.le_of_ble_eq_true rfl)⟩ (q0 := 0) rfl rfl rfl rfl (Nat.le_of_ble_eq_true rfl) ⟨(by show _ ≤ 320; omega), (by show _ ≤ 1900; omega)⟩ dL_areAlike_231 (fun H locs w => ?_)
        refine lv_icmp_ne (tgt := 241) S.1 S.2.1 dL_areAlike_234 (by decide) (fun h9 => absurd rfl h9) (fun _ => ?_)
        refine lv_iconst (v := nI 1) S.1 S.2.1 dL_areAlike_237 (ofInt_nI 1) ?_
        refine lv_goto (tgt := 242) S.1 S.2.1 dL_areAlike_238 (by decide) ?_
        refine lv_istore_n (lv' := [(2, vI 1), (0, .ref (z 0 0)), (1, .ref (y 0 0)), (3, vI d), (4, vI j)]) S.1 S.2.1 dL_areAlike_242 rfl hl (by decide) rfl (fun ls hl => ?_)
        refine lv_iinc (v := nI (j + 1)) (lv' := [(4, vI (j + 1)), (2, vI 1), (0, .ref (z 0 0)), (1, .ref (y 0 0)), (3, vI d)]) S.1 S.2.1 dL_areAlike_243 hl (k := 4) rfl (nI_incI j 1) (by decide) rfl (fun ls hl => ?_)
        refine lv_goto (tgt := 210) S.1 S.2.1 dL_areAlike_246 (by decide) ?_
        refine W.widen (k := 192 + 20 * d + 4 * (j + 1)) (n := 1152 + 120 * d + 24 * (j + 1)) (by omega) (by omega) ?_
        exact (ih).2 d (j + 1) P11 Q11 (by omega) (by omega) (by omega) _ _ _ (lv_sub hl [2, 3, 1, 4, 0] rfl) w
set_option maxRecDepth 100000 in
set_option maxHeartbeats 4000000 in
theorem k_L_areAlike_b (l : Launch) (hst : l.stackTraces = false) (D : va_G) (Z : Nat → ClassId) (z y : Nat → Nat → Nat) (X : ST) (o n : Nat) (Y : Nat → ST) (P : PG) (M : ST) (a b : Nat) (B : Nat → ST) (Q : PG) (hL : LPq X o n M a b) {p : Program} {e : Env} {s : State} {m : MethodId} {args : Array Value} {below : List Frame} {meth : Method} {c : Code} {A : Nat → Prop} (S : CallFix p m c cL_areAlike 5 s args wsL_areAlike RL) (hr : meth.sig.returnType = (some .boolean)) (hlocks : meth.locks = false) (X9 : XT A s s.heap) : ∀ (n9 : Nat), (∀ (d : Nat) (Pz Qz : PG) (hd : d ≤ 4) (hm : 100 * (4 - d) + 99 < n9), ∀ (H : Heap) (locs : List Loc) (ls : Array Slot) (hl : lv_has ls 5 [(0, .ref (z 0 0)), (1, .ref (y 0 0)), (2, vI 1), (3, vI d)]) (w : Wd D Z A s (qW Z z X o n Y Pz ++ qW Z y M a b B Qz) H locs), W p l e (rmX 8 141 320 1900) s m args below meth c H locs (16 + 44 * d) (96 + 264 * d) (Qr (β := (PG × PG)) below D Z A args s (fun _ => True) (nI 1) (fun u => qW Z z X o n Y u.1 ++ qW Z y M a b B u.2) 320 1900) (F0 m 68 ls [])) ∧ (∀ (d j : Nat) (Pz Qz : PG) (hd : d < 4) (hj : j ≤ 8) (hm : 100 * (4 - d) + (8 - j) < n9), ∀ (H : Heap) (locs : List Loc) (ls : Array Slot) (hl : lv_has ls 5 [(0, .ref (z 0 0)), (1, .ref (y 0 0)), (2, vI 1), (3, vI d), (4, vI j)]) (w : Wd D Z A s (qW Z z X o n Y Pz ++ qW Z y M a b B Qz) H locs), W p l e (rmX 8 141 320 1900) s m args below meth c H locs (16 + 44 * d + 4 * j) (96 + 264 * d + 24 * j) (Qr (β := (PG × PG)) below D Z A args s (fun _ => True) (nI 1) (fun u => qW Z z X o n Y u.1 ++ qW Z y M a b B u.2) 320 1900) (F0 m 80 ls [])) := by
  intro n9
  induction n9 with
  | zero => exact ⟨fun d Pz Qz hd hm => absurd hm (Nat.not_lt_zero _), fun d j Pz Qz hd hj hm => absurd hm (Nat.not_lt_zero _)⟩
  | succ n9 ih =>
    refine ⟨?_, ?_⟩
    · intro d Pz Qz hd hm H locs ls hl w
      have hX := hL.1
      obtain ⟨b0, b1, b2, b3, b4, b5⟩ := hX.2.1
      have hp1 := hX.1.2.2.1
      have hp8 := hX.1.2.2.2.1
      refine lv_iload_n S.1 S.2.1 dL_areAlike_68 rfl (lv_at hl 3 rfl) ?_
      refine lv_iconst (v := nI 4) S.1 S.2.1 dL_areAlike_69 (ofInt_nI 4) ?_
      refine nv_icmp_ge S (by omega) (by omega) (tgt := 195) dL_areAlike_70 (by decide) (fun h_5 => ?_) (fun h_5 => ?_)
      · skip
        refine lv_iconst (v := nI 0) S.1 S.2.1 dL_areAlike_195 (ofInt_nI 0) ?_
        refine lv_istore_n (lv' := [(3, vI 0), (0, .ref (z 0 0)), (1, .ref (y 0 0)), (2, vI 1)]) S.1 S.2.1 dL_areAlike_196 rfl hl (by decide) rfl (fun ls hl => ?_)
        refine W.widen (k := 192 + 20 * 0) (n := 1152 + 120 * 0) (by omega) (by omega) ?_
        exact (k_L_areAlike_c l hst D Z z y X o n Y P M a b B Q hL S hr hlocks X9 _).1 0 Pz Qz (by omega) (Nat.lt_succ_self _) _ _ _ (lv_sub hl [1, 2, 3, 0] rfl) w
      · skip
        refine lv_iload_n S.1 S.2.1 dL_areAlike_73 rfl (lv_at hl 2 rfl) ?_
        refine lv_if_eq (tgt := 195) S.1 S.2.1 dL_areAlike_74 (by decide) (fun h9 => absurd h9 (by decide)) (fun _ => ?_)
        refine lv_iconst (v := nI 0) S.1 S.2.1 dL_areAlike_77 (ofInt_nI 0) ?_
        refine lv_istore (lv' := [(4, vI 0), (0, .ref (z 0 0)), (1, .ref (y 0 0)), (2, vI 1), (3, vI d)]) S.1 S.2.1 dL_areAlike_78 hl (by decide) rfl (fun ls hl => ?_)
        refine W.widen (k := 16 + 44 * d + 4 * 0) (n := 96 + 264 * d + 24 * 0) (by omega) (by omega) ?_
        exact (ih).2 d 0 Pz Qz (by omega) (by omega) (by omega) _ _ _ (lv_sub hl [1, 2, 3, 4, 0] rfl) w
    · intro d j Pz Qz hd hj hm H locs ls hl w
      have hX := hL.1
      obtain ⟨b0, b1, b2, b3, b4, b5⟩ := hX.2.1
      have hp1 := hX.1.2.2.1
      have hp8 := hX.1.2.2.2.1
      refine lv_iload S.1 S.2.1 dL_areAlike_80 (lv_at hl 4 rfl) ?_
      refine lv_bipush (v := nI 8) S.1 S.2.1 dL_areAlike_82 (by decide +kernel) ?_
      refine nv_icmp_ge S (by omega) (by omega) (tgt := 122) dL_areAlike_84 (by decide) (fun h_7 => ?_) (fun h_7 => ?_)
      · skip
        refine lv_iload_n S.1 S.2.1 dL_areAlike_122 rfl (lv_at hl 2 rfl) ?_
        refine lv_if_eq (tgt := 187) S.1 S.2.1 dL_areAlike_123 (by decide) (fun h9 => absurd h9 (by decide)) (fun _ => ?_)
        refine lv_aload_n S.1 S.2.1 dL_areAlike_126 rfl (lv_at hl 0 rfl) ?_
        refine lv_iload_n S.1 S.2.1 dL_areAlike_127 rfl (lv_at hl 3 rfl) ?_
        refine lv_bipush (v := nI 30) S.1 S.2.1 dL_areAlike_128 (by decide +kernel) ?_
        obtain ⟨v12, P12, Q12, h1v12, h2v12⟩ := pa_silent l hst D Z z y Y Pz B Qz hL (c := d) (k := 30) (by omega) (by omega) (by omega)
        refine nx_nVi ([]) (qW Z y M a b B Qz) (ws' := qW Z z X o n Y P12 ++ qW Z y M a b B Qz) (rest := []) S w X9 hl.1 (h1v12) (by simp only [List.nil_append, List.append_nil, List.append_assoc]) adr_q (by simp only [List.nil_append, List.append_nil, List.append_assoc]) gL_areAlike_X7_silent rfl hdV_X7_silent ⟨(Nat.le_of_ble_eq_true rfl), (Nat.le_of_ble_eq_true rfl)⟩ (q0 := 0) rfl rfl rfl rfl (Nat.le_of_ble_eq_true rfl) ⟨(by show _ ≤ 320; omega), (by show _ ≤ 1900; omega)⟩ dL_areAlike_130 (fun H locs w => ?_)
        refine lv_aload_n S.1 S.2.1 dL_areAlike_133 rfl (lv_at hl 1 rfl) ?_
        refine lv_iconst (v := nI 3) S.1 S.2.1 dL_areAlike_134 (ofInt_nI 3) ?_
        refine lv_iload_n S.1 S.2.1 dL_areAlike_135 rfl (lv_at hl 3 rfl) ?_
        refine nv_isub S (by omega) dL_areAlike_136 ?_
        refine lv_bipush (v := nI 30) S.1 S.2.1 dL_areAlike_137 (by decide +kernel) ?_
        refine nx_nVi (qW Z z X o n Y P12) ([]) (ws' := qW Z z X o n Y P12 ++ qW Z y M a b B Q12) (rest := [.int v12]) S w X9 hl.1 (h2v12) (by simp only [List.nil_append, List.append_nil, List.append_assoc]) adr_q (by simp only [List.nil_append, List.append_nil, List.append_assoc]) gL_areAlike_X7_silent rfl hdV_X7_silent ⟨(Nat.le_of_ble_eq_true rfl), (Nat.le_of_ble_eq_true rfl)⟩ (q0 := 0) rfl rfl rfl rfl (Nat.le_of_ble_eq_true rfl) ⟨(by show _ ≤ 320; omega), (by show _ ≤ 1900; omega)⟩ dL_areAlike_139 (fun H locs w => ?_)
        refine lv_icmp_ne (tgt := 187) S.1 S.2.1 dL_areAlike_142 (by decide) (fun h9 => absurd rfl h9) (fun _ => ?_)
        refine lv_aload_n S.1 S.2.1 dL_areAlike_145 rfl (lv_at hl 0 rfl) ?_
        refine lv_iload_n S.1 S.2.1 dL_areAlike_146 rfl (lv_at hl 3 rfl) ?_
        refine lv_bipush (v := nI 30) S.1 S.2.1 dL_areAlike_147 (by decide +kernel) ?_
        obtain ⟨v13, P13, Q13, h1v13, h2v13⟩ := pa_deepest l hst D Z z y Y P12 B Q12 hL (c := d) (k := 30) (by omega) (by omega) (by omega)
        refine nx_nVi ([]) (qW Z y M a b B Q12) (ws' := qW Z z X o n Y P13 ++ qW Z y M a b B Q12) (rest := []) S w X9 hl.1 (h1v13) (by simp only [List.nil_append, List.append_nil, List.append_assoc]) adr_q (by simp only [List.nil_append, List.append_nil, List.append_assoc]) gL_areAlike_X7_deepest rfl hdV_X7_deepest ⟨(Nat.le_of_ble_eq_true rfl), (Nat.le_of_ble_eq_true rfl)⟩ (q0 := 0) rfl rfl rfl rfl (Nat.le_of_ble_eq_true rfl) ⟨(by show _ ≤ 320; omega), (by show _ ≤ 1900; omega)⟩ dL_areAlike_149 (fun H locs w => ?_)
        refine lv_aload_n S.1 S.2.1 dL_areAlike_152 rfl (lv_at hl 1 rfl) ?_
        refine lv_iconst (v := nI 3) S.1 S.2.1 dL_areAlike_153 (ofInt_nI 3) ?_
        refine lv_iload_n S.1 S.2.1 dL_areAlike_154 rfl (lv_at hl 3 rfl) ?_
        refine nv_isub S (by omega) dL_areAlike_155 ?_
        refine lv_bipush (v := nI 30) S.1 S.2.1 dL_areAlike_156 (by decide +kernel) ?_
        refine nx_nVi (qW Z z X o n Y P13) ([]) (ws' := qW Z z X o n Y P13 ++ qW Z y M a b B Q13) (rest := [.int v13]) S w X9 hl.1 (h2v13) (by simp only [List.nil_append, List.append_nil, List.append_assoc]) adr_q (by simp only [List.nil_append, List.append_nil, List.append_assoc]) gL_areAlike_X7_deepest rfl hdV_X7_deepest ⟨(Nat.le_of_ble_eq_true rfl), (Nat.le_of_ble_eq_true rfl)⟩ (q0 := 0) rfl rfl rfl rfl (Nat.le_of_ble_eq_true rfl) ⟨(by show _ ≤ 320; omega), (by show _ ≤ 1900; omega)⟩ dL_areAlike_158 (fun H locs w => ?_)
        refine lv_icmp_ne (tgt := 187) S.1 S.2.1 dL_areAlike_161 (by decide) (fun h9 => absurd rfl h9) (fun _ => ?_)
        refine lv_aload_n S.1 S.2.1 dL_areAlike_164 rfl (lv_at hl 0 rfl) ?_
        refine lv_iload_n S.1 S.2.1 dL_areAlike_165 rfl (lv_at hl 3 rfl) ?_
        refine lv_bipush (v := nI 20) S.1 S.2.1 dL_areAlike_166 (by decide +kernel) ?_
        obtain ⟨v14, P14, Q14, h1v14, h2v14⟩ := pa_unheard l hst D Z z y Y P13 B Q13 hL (c := d) (e := 20) (by omega) (by omega) (by omega)
        refine nx_nVi ([]) (qW Z y M a b B Q13) (ws' := qW Z z X o n Y P14 ++ qW Z y M a b B Q13) (rest := []) S w X9 hl.1 (h1v14) (by simp only [List.nil_append, List.append_nil, List.append_assoc]) adr_q (by simp only [List.nil_append, List.append_nil, List.append_assoc]) gL_areAlike_X7_unheard rfl hdV_X7_unheard ⟨(Nat.le_of_ble_eq_true rfl), (Nat.le_of_ble_eq_true rfl)⟩ (q0 := 0) rfl rfl rfl rfl (Nat.le_of_ble_eq_true rfl) ⟨(by show _ ≤ 320; omega), (by show _ ≤ 1900; omega)⟩ dL_areAlike_168 (fun H locs w => ?_)
        refine lv_aload_n S.1 S.2.1 dL_areAlike_171 rfl (lv_at hl 1 rfl) ?_
        refine lv_iconst (v := nI 3) S.1 S.2.1 dL_areAlike_172 (ofInt_nI 3) ?_
        refine lv_iload_n S.1 S.2.1 dL_areAlike_173 rfl (lv_at hl 3 rfl) ?_
        refine nv_isub S (by omega) dL_areAlike_174 ?_
        refine lv_bipush (v := nI 20) S.1 S.2.1 dL_areAlike_175 (by decide +kernel) ?_
        refine nx_nVi (qW Z z X o n Y P14) ([]) (ws' := qW Z z X o n Y P14 ++ qW Z y M a b B Q14) (rest := [.int v14]) S w X9 hl.1 (h2v14) (by simp only [List.nil_append, List.append_nil, List.append_assoc]) adr_q (by simp only [List.nil_append, List.append_nil, List.append_assoc]) gL_areAlike_X7_unheard rfl hdV_X7_unheard ⟨(Nat.le_of_ble_eq_true rfl), (Nat.le_of_ble_eq_true rfl)⟩ (q0 := 0) rfl rfl rfl rfl (Nat.le_of_ble_eq_true rfl) ⟨(by show _ ≤ 320; omega), (by show _ ≤ 1900; omega)⟩ dL_areAlike_177 (fun H locs w => ?_)
        refine lv_icmp_ne (tgt := 187) S.1 S.2.1 dL_areAlike_180 (by decide) (fun h9 => absurd rfl h9) (fun _ => ?_)
        refine lv_iconst (v := nI 1) S.1 S.2.1 dL_areAlike_183 (ofInt_nI 1) ?_
        refine lv_goto (tgt := 188) S.1 S.2.1 dL_areAlike_184 (by decide) ?_
        refine lv_istore_n (lv' := [(2, vI 1), (0, .ref (z 0 0)), (1, .ref (y 0 0)), (3, vI d), (4, vI j)]) S.1 S.2.1 dL_areAlike_188 rfl hl (by decide) rfl (fun ls hl => ?_)
        refine lv_iinc (v := nI (d + 1)) (lv' := [(3, vI (d + 1)), (2, vI 1), (0, .ref (z 0 0)), (1, .ref (y 0 0)), (4, vI j)]) S.1 S.2.1 dL_areAlike_189 hl (k := 3) rfl (nI_incI d 1) (by decide) rfl (fun ls hl => ?_)
        refine lv_goto (tgt := 68) S.1 S.2.1 dL_areAlike_192 (by decide) ?_
        refine W.widen (k := 16 + 44 * (d + 1)) (n := 96 + 264 * (d + 1)) (by omega) (by omega) ?_
        exact (ih).1 (d + 1) P14 Q14 (by omega) (by omega) _ _ _ (lv_sub hl [2, 3, 1, 0] rfl) w
      · skip
        refine lv_iload_n S.1 S.2.1 dL_areAlike_87 rfl (lv_at hl 2 rfl) ?_
        refine lv_if_eq (tgt := 114) S.1 S.2.1 dL_areAlike_88 (by decide) (fun h9 => absurd h9 (by decide)) (fun _ => ?_)
        refine lv_aload_n S.1 S.2.1 dL_areAlike_91 rfl (lv_at hl 0 rfl) ?_
        refine lv_iload_n S.1 S.2.1 dL_areAlike_92 rfl (lv_at hl 3 rfl) ?_
        refine lv_iload S.1 S.2.1 dL_areAlike_93 (lv_at hl 4 rfl) ?_
        obtain ⟨v15, P15, Q15, h1v15, h2v15⟩ := pa_channel l hst D Z z y Y Pz B Qz hL (c := d) (w := j) (by omega) (by omega)
        refine nx_nVi ([]) (qW Z y M a b B Qz) (ws' := qW Z z X o n Y P15 ++ qW Z y M a b B Qz) (rest := []) S w X9 hl.1 (h1v15) (by simp only [List.nil_append, List.append_nil, List.append_assoc]) adr_q (by simp only [List.nil_append, List.append_nil, List.append_assoc]) gL_areAlike_X7_channel rfl hdV_X7_channel ⟨(Nat.le_of_ble_eq_true rfl), (Nat.le_of_ble_eq_true rfl)⟩ (q0 := 0) rfl rfl rfl rfl (Nat.le_of_ble_eq_true rfl) ⟨(by show _ ≤ 320; omega), (by show _ ≤ 1900; omega)⟩ dL_areAlike_95 (fun H locs w => ?_)
        refine lv_aload_n S.1 S.2.1 dL_areAlike_98 rfl (lv_at hl 1 rfl) ?_
        refine lv_iconst (v := nI 3) S.1 S.2.1 dL_areAlike_99 (ofInt_nI 3) ?_
        refine lv_iload_n S.1 S.2.1 dL_areAlike_100 rfl (lv_at hl 3 rfl) ?_
        refine nv_isub S (by omega) dL_areAlike_101 ?_
        refine lv_iload S.1 S.2.1 dL_areAlike_102 (lv_at hl 4 rfl) ?_
        refine nx_nVi (qW Z z X o n Y P15) ([]) (ws' := qW Z z X o n Y P15 ++ qW Z y M a b B Q15) (rest := [.int v15]) S w X9 hl.1 (h2v15) (by simp only [List.nil_append, List.append_nil, List.append_assoc]) adr_q (by simp only [List.nil_append, List.append_nil, List.append_assoc]) gL_areAlike_X7_channel rfl hdV_X7_channel ⟨(Nat.le_of_ble_eq_true rfl), (Nat.le_of_ble_eq_true rfl)⟩ (q0 := 0) rfl rfl rfl rfl (Nat.le_of_ble_eq_true rfl) ⟨(by show _ ≤ 320; omega), (by show _ ≤ 1900; omega)⟩ dL_areAlike_104 (fun H locs w => ?_)
        refine lv_icmp_ne (tgt := 114) S.1 S.2.1 dL_areAlike_107 (by decide) (fun h9 => absurd rfl h9) (fun _ => ?_)
        refine lv_iconst (v := nI 1) S.1 S.2.1 dL_areAlike_110 (ofInt_nI 1) ?_
        refine lv_goto (tgt := 115) S.1 S.2.1 dL_areAlike_111 (by decide) ?_
        refine lv_istore_n (lv' := [(2, vI 1), (0, .ref (z 0 0)), (1, .ref (y 0 0)), (3, vI d), (4, vI j)]) S.1 S.2.1 dL_areAlike_115 rfl hl (by decide) rfl (fun ls hl => ?_)
        refine lv_iinc (v := nI (j + 1)) (lv' := [(4, vI (j + 1)), (2, vI 1), (0, .ref (z 0 0)), (1, .ref (y 0 0)), (3, vI d)]) S.1 S.2.1 dL_areAlike_116 hl (k := 4) rfl (nI_incI j 1) (by decide) rfl (fun ls hl => ?_)
        refine lv_goto (tgt := 80) S.1 S.2.1 dL_areAlike_119 (by decide) ?_
        refine W.widen (k := 16 + 44 * d + 4 * (j + 1)) (n := 96 + 264 * d + 24 * (j + 1)) (by omega) (by omega) ?_
        exact (ih).2 d (j + 1) P15 Q15 (by omega) (by omega) (by omega) _ _ _ (lv_sub hl [2, 3, 1, 4, 0] rfl) w
set_option maxRecDepth 100000 in
set_option maxHeartbeats 4000000 in
theorem k_L_areAlike_a (l : Launch) (hst : l.stackTraces = false) (D : va_G) (Z : Nat → ClassId) (z y : Nat → Nat → Nat) (X : ST) (o n : Nat) (Y : Nat → ST) (P : PG) (M : ST) (a b : Nat) (B : Nat → ST) (Q : PG) (hL : LPq X o n M a b) {p : Program} {e : Env} {s : State} {m : MethodId} {args : Array Value} {below : List Frame} {meth : Method} {c : Code} {A : Nat → Prop} (S : CallFix p m c cL_areAlike 5 s args wsL_areAlike RL) (hr : meth.sig.returnType = (some .boolean)) (hlocks : meth.locks = false) (X9 : XT A s s.heap) : ∀ (n9 : Nat), (∀ (j : Nat) (Pz Qz : PG) (hj : j ≤ 8) (hm : 8 - j < n9), ∀ (H : Heap) (locs : List Loc) (ls : Array Slot) (hl : lv_has ls 5 [(0, .ref (z 0 0)), (1, .ref (y 0 0)), (2, vI 1), (3, vI j)]) (w : Wd D Z A s (qW Z z X o n Y Pz ++ qW Z y M a b B Qz) H locs), W p l e (rmX 8 141 320 1900) s m args below meth c H locs (2 * j) (12 * j) (Qr (β := (PG × PG)) below D Z A args s (fun _ => True) (nI 1) (fun u => qW Z z X o n Y u.1 ++ qW Z y M a b B u.2) 320 1900) (F0 m 31 ls [])) := by
  intro n9
  induction n9 with
  | zero => intro j Pz Qz hj hm; exact absurd hm (Nat.not_lt_zero _)
  | succ n9 ih =>
    skip
    · intro j Pz Qz hj hm H locs ls hl w
      have hX := hL.1
      obtain ⟨b0, b1, b2, b3, b4, b5⟩ := hX.2.1
      have hp1 := hX.1.2.2.1
      have hp8 := hX.1.2.2.2.1
      refine lv_iload_n S.1 S.2.1 dL_areAlike_31 rfl (lv_at hl 3 rfl) ?_
      refine lv_bipush (v := nI 8) S.1 S.2.1 dL_areAlike_32 (by decide +kernel) ?_
      refine nv_icmp_ge S (by omega) (by omega) (tgt := 66) dL_areAlike_34 (by decide) (fun h_10 => ?_) (fun h_10 => ?_)
      · skip
        refine lv_iconst (v := nI 0) S.1 S.2.1 dL_areAlike_66 (ofInt_nI 0) ?_
        refine lv_istore_n (lv' := [(3, vI 0), (0, .ref (z 0 0)), (1, .ref (y 0 0)), (2, vI 1)]) S.1 S.2.1 dL_areAlike_67 rfl hl (by decide) rfl (fun ls hl => ?_)
        refine W.widen (k := 16 + 44 * 0) (n := 96 + 264 * 0) (by omega) (by omega) ?_
        exact (k_L_areAlike_b l hst D Z z y X o n Y P M a b B Q hL S hr hlocks X9 _).1 0 Pz Qz (by omega) (Nat.lt_succ_self _) _ _ _ (lv_sub hl [1, 2, 3, 0] rfl) w
      · skip
        refine lv_iload_n S.1 S.2.1 dL_areAlike_37 rfl (lv_at hl 2 rfl) ?_
        refine lv_if_eq (tgt := 58) S.1 S.2.1 dL_areAlike_38 (by decide) (fun h9 => absurd h9 (by decide)) (fun _ => ?_)
        refine lv_aload_n S.1 S.2.1 dL_areAlike_41 rfl (lv_at hl 0 rfl) ?_
        refine lv_iload_n S.1 S.2.1 dL_areAlike_42 rfl (lv_at hl 3 rfl) ?_
        obtain ⟨v16, P16, Q16, h1v16, h2v16⟩ := pa_value l hst D Z z y Y Pz B Qz hL (w := j) (by omega)
        refine nx_nVi ([]) (qW Z y M a b B Qz) (ws' := qW Z z X o n Y P16 ++ qW Z y M a b B Qz) (rest := []) S w X9 hl.1 (h1v16) (by simp only [List.nil_append, List.append_nil, List.append_assoc]) adr_q (by simp only [List.nil_append, List.append_nil, List.append_assoc]) gL_areAlike_X7_value rfl hdV_X7_value ⟨(Nat.le_of_ble_eq_true rfl), (Nat.le_of_ble_eq_true rfl)⟩ (q0 := 0) rfl rfl rfl rfl (Nat.le_of_ble_eq_true rfl) ⟨(by show _ ≤ 320; omega), (by show _ ≤ 1900; omega)⟩ dL_areAlike_43 (fun H locs w => ?_)
        refine lv_aload_n S.1 S.2.1 dL_areAlike_46 rfl (lv_at hl 1 rfl) ?_
        refine lv_iload_n S.1 S.2.1 dL_areAlike_47 rfl (lv_at hl 3 rfl) ?_
        refine nx_nVi (qW Z z X o n Y P16) ([]) (ws' := qW Z z X o n Y P16 ++ qW Z y M a b B Q16) (rest := [.int v16]) S w X9 hl.1 (h2v16) (by simp only [List.nil_append, List.append_nil, List.append_assoc]) adr_q (by simp only [List.nil_append, List.append_nil, List.append_assoc]) gL_areAlike_X7_value rfl hdV_X7_value ⟨(Nat.le_of_ble_eq_true rfl), (Nat.le_of_ble_eq_true rfl)⟩ (q0 := 0) rfl rfl rfl rfl (Nat.le_of_ble_eq_true rfl) ⟨(by show _ ≤ 320; omega), (by show _ ≤ 1900; omega)⟩ dL_areAlike_48 (fun H locs w => ?_)
        refine lv_icmp_ne (tgt := 58) S.1 S.2.1 dL_areAlike_51 (by decide) (fun h9 => absurd rfl h9) (fun _ => ?_)
        refine lv_iconst (v := nI 1) S.1 S.2.1 dL_areAlike_54 (ofInt_nI 1) ?_
        refine lv_goto (tgt := 59) S.1 S.2.1 dL_areAlike_55 (by decide) ?_
        refine lv_istore_n (lv' := [(2, vI 1), (0, .ref (z 0 0)), (1, .ref (y 0 0)), (3, vI j)]) S.1 S.2.1 dL_areAlike_59 rfl hl (by decide) rfl (fun ls hl => ?_)
        refine lv_iinc (v := nI (j + 1)) (lv' := [(3, vI (j + 1)), (2, vI 1), (0, .ref (z 0 0)), (1, .ref (y 0 0))]) S.1 S.2.1 dL_areAlike_60 hl (k := 3) rfl (nI_incI j 1) (by decide) rfl (fun ls hl => ?_)
        refine lv_goto (tgt := 31) S.1 S.2.1 dL_areAlike_63 (by decide) ?_
        refine W.widen (k := 2 * (j + 1)) (n := 12 * (j + 1)) (by omega) (by omega) ?_
        exact ih (j + 1) P16 Q16 (by omega) (by omega) _ _ _ (lv_sub hl [2, 3, 1, 0] rfl) w
set_option maxRecDepth 100000 in
set_option maxHeartbeats 4000000 in
theorem c_L_areAlike (l : Launch) (hst : l.stackTraces = false) (D : va_G) (Z : Nat → ClassId) (z y : Nat → Nat → Nat) (X : ST) (o n : Nat) (Y : Nat → ST) (P : PG) (M : ST) (a b : Nat) (B : Nat → ST) (Q : PG) (hL : LPq X o n M a b) : Cr (β := (PG × PG)) l yL_areAlike wsL_areAlike 8 141 320 1900 D Z [.ref (z 0 0), .ref (y 0 0)] (qW Z z X o n Y P ++ qW Z y M a b B Q) (fun _ => True) (nI 1) (fun u => qW Z z X o n Y u.1 ++ qW Z y M a b B u.2) := by
  refine ne_r (cc := cL_areAlike) (maxL := 5) (by decide +kernel) rfl (Nat.le_of_ble_eq_true rfl) (fun p e s m args below meth c A ls (S : CallFix p m c cL_areAlike 5 s args wsL_areAlike RL) hr hlocks X9 hl w => ?_)
  have hl : lv_has ls 5 [(0, .ref (z 0 0)), (1, .ref (y 0 0))] := hl
  refine lv_aload_n S.1 S.2.1 dL_areAlike_0 rfl (lv_at hl 0 rfl) ?_
  obtain ⟨v17, P17, Q17, h1v17, h2v17⟩ := pa_ticksToRound l D Z z y Y P B Q hL
  refine nv_fVi ([]) (qW Z y M a b B Q) (ws' := qW Z z X o n Y P17 ++ qW Z y M a b B Q) (rest := []) S w hl.1 (h1v17) (by simp only [List.nil_append, List.append_nil, List.append_assoc]) adr_q (by simp only [List.nil_append, List.append_nil, List.append_assoc]) gL_areAlike_X7_ticksToRound rfl hdV_X7_ticksToRound ⟨(Nat.le_of_ble_eq_true rfl), (Nat.le_of_ble_eq_true rfl)⟩ (q0 := 0) rfl rfl rfl rfl (Nat.le_of_ble_eq_true rfl) ⟨(by show _ ≤ 320; omega), (by show _ ≤ 1900; omega)⟩ dL_areAlike_1 (fun H locs w => ?_)
  refine lv_aload_n S.1 S.2.1 dL_areAlike_4 rfl (lv_at hl 1 rfl) ?_
  refine nv_fVi (qW Z z X o n Y P17) ([]) (ws' := qW Z z X o n Y P17 ++ qW Z y M a b B Q17) (rest := [.int v17]) S w hl.1 (h2v17) (by simp only [List.nil_append, List.append_nil, List.append_assoc]) adr_q (by simp only [List.nil_append, List.append_nil, List.append_assoc]) gL_areAlike_X7_ticksToRound rfl hdV_X7_ticksToRound ⟨(Nat.le_of_ble_eq_true rfl), (Nat.le_of_ble_eq_true rfl)⟩ (q0 := 0) rfl rfl rfl rfl (Nat.le_of_ble_eq_true rfl) ⟨(by show _ ≤ 320; omega), (by show _ ≤ 1900; omega)⟩ dL_areAlike_5 (fun H locs w => ?_)
  refine lv_icmp_ne (tgt := 27) S.1 S.2.1 dL_areAlike_8 (by decide) (fun h9 => absurd rfl h9) (fun _ => ?_)
  refine lv_aload_n S.1 S.2.1 dL_areAlike_11 rfl (lv_at hl 0 rfl) ?_
  obtain ⟨v18, hnan18, h1v18, h2v18⟩ := pa_meanVolume l D Z z y Y P17 B Q17 hL
  refine nl_d ([]) (qW Z y M a b B Q17) (ws' := qW Z z X o n Y P17 ++ qW Z y M a b B Q17) (rest := []) S w hl.1 (h1v18) (by simp only [List.nil_append, List.append_nil, List.append_assoc]) adr_q (by simp only [List.nil_append, List.append_nil, List.append_assoc]) gL_areAlike_X7_meanVolume rfl hdV_X7_meanVolume ⟨(Nat.le_of_ble_eq_true rfl), (Nat.le_of_ble_eq_true rfl)⟩ (q0 := 0) rfl rfl rfl rfl (Nat.le_of_ble_eq_true rfl) ⟨(by show _ ≤ 320; omega), (by show _ ≤ 1900; omega)⟩ dL_areAlike_12 (fun H locs w => ?_)
  refine lv_aload_n S.1 S.2.1 dL_areAlike_15 rfl (lv_at hl 1 rfl) ?_
  refine nl_d (qW Z z X o n Y P17) ([]) (ws' := qW Z z X o n Y P17 ++ qW Z y M a b B Q17) (rest := [.double v18]) S w hl.1 (h2v18) (by simp only [List.nil_append, List.append_nil, List.append_assoc]) adr_q (by simp only [List.nil_append, List.append_nil, List.append_assoc]) gL_areAlike_X7_meanVolume rfl hdV_X7_meanVolume ⟨(Nat.le_of_ble_eq_true rfl), (Nat.le_of_ble_eq_true rfl)⟩ (q0 := 0) rfl rfl rfl rfl (Nat.le_of_ble_eq_true rfl) ⟨(by show _ ≤ 320; omega), (by show _ ≤ 1900; omega)⟩ dL_areAlike_16 (fun H locs w => ?_)
  refine lv_dcmp S.1 S.2.1 dL_areAlike_19 ?_
  refine W.eq (g2 := F0 m 20 ls [.int 0]) (by rw [hnan18]) ?_
  refine lv_if_ne (tgt := 27) S.1 S.2.1 dL_areAlike_20 (by decide) (fun h9 => absurd rfl h9) (fun _ => ?_)
  refine lv_iconst (v := nI 1) S.1 S.2.1 dL_areAlike_23 (ofInt_nI 1) ?_
  refine lv_goto (tgt := 28) S.1 S.2.1 dL_areAlike_24 (by decide) ?_
  refine lv_istore_n (lv' := [(2, vI 1), (0, .ref (z 0 0)), (1, .ref (y 0 0))]) S.1 S.2.1 dL_areAlike_28 rfl hl (by decide) rfl (fun ls hl => ?_)
  refine lv_iconst (v := nI 0) S.1 S.2.1 dL_areAlike_29 (ofInt_nI 0) ?_
  refine lv_istore_n (lv' := [(3, vI 0), (2, vI 1), (0, .ref (z 0 0)), (1, .ref (y 0 0))]) S.1 S.2.1 dL_areAlike_30 rfl hl (by decide) rfl (fun ls hl => ?_)
  refine W.widen (k := 2 * 0) (n := 12 * 0) (by omega) (by omega) ?_
  exact k_L_areAlike_a l hst D Z z y X o n Y P M a b B Q hL S hr hlocks X9 _ 0 P17 Q17 (by omega) (Nat.lt_succ_self _) _ _ _ (lv_sub hl [2, 3, 1, 0] rfl) w
