theorem hdV_X7_order : yX7_order.cls = RX7 ∧ yX7_order.cls ≠ "java/lang/invoke/MethodHandle" ∧ yX7_order.cls ≠ "java/lang/invoke/VarHandle" ∧ (parseMethodDescriptor yX7_order.desc).map (fun d => d.parameters.length) = some 1 := by decide +kernel
set_option maxRecDepth 100000 in
set_option maxHeartbeats 4000000 in
theorem k_L_isSound (l : Launch) (hst : l.stackTraces = false) (D : va_G) (Z : Nat → ClassId) (z : Nat → Nat → Nat) (X : ST) (o n : Nat) (Y : Nat → ST) (P : PG) (hX : XB X) {p : Program} {e : Env} {s : State} {m : MethodId} {args : Array Value} {below : List Frame} {meth : Method} {c : Code} {A : Nat → Prop} (S : CallFix p m c cL_isSound 4 s args wsL_isSound RL) (hr : meth.sig.returnType = (some .boolean)) (hlocks : meth.locks = false) (X9 : XT A s s.heap) : ∀ (n9 : Nat), (∀ (d : Nat) (hd : d ≤ 4) (hm : 4 - d < n9), ∀ (H : Heap) (locs : List Loc) (ls : Array Slot) (hl : lv_has ls 4 [(0, .ref (z 0 0)), (1, vI 1), (2, vI d)]) (w : Wd D Z A s (qW Z z X o n Y P) H locs), W p l e (rmX 8 139 100 600) s m args below meth c H locs (12 + 20 * d) (90 + 120 * d) (Qr (β := Unit) below D Z A args s (fun _ => True) (nI 1) (fun _ => qW Z z X o n Y P) 100 600) (F0 m 84 ls [])) := by
  intro n9
  obtain ⟨b0, b1, b2, b3, b4, b5⟩ := hX.2.1
  have hp1 := hX.1.2.2.1
  have hp8 := hX.1.2.2.2.1
  induction n9 with
  | zero => intro d hd hm; exact absurd hm (Nat.not_lt_zero _)
  | succ n9 ih =>
    skip
    · intro d hd hm H locs ls hl w
      have hX := hX
      obtain ⟨b0, b1, b2, b3, b4, b5⟩ := hX.2.1
      have hp1 := hX.1.2.2.1
      have hp8 := hX.1.2.2.2.1
      refine lv_iload_n S.1 S.2.1 dL_isSound_84 rfl (lv_at hl 2 rfl) ?_
      refine lv_iconst (v := nI 4) S.1 S.2.1 dL_isSound_85 (ofInt_nI 4) ?_
      refine nv_icmp_ge S (by omega) (by omega) (tgt := 219) dL_isSound_86 (by decide) (fun h_1 => ?_) (fun h_1 => ?_)
      · skip
        refine lv_iload_n S.1 S.2.1 dL_isSound_219 rfl (lv_at hl 1 rfl) ?_
        exact nr_iret S w hr hlocks (nI_bool (by decide)) () trivial rfl rfl (by omega) (by omega) dL_isSound_220
      · skip
        have hvb := (b5 d (by omega)).1
        have hvf := VB_fp hvb
        unfold VB at hvb
        refine lv_aload_n S.1 S.2.1 dL_isSound_89 rfl (lv_at hl 0 rfl) ?_
        refine lv_iload_n S.1 S.2.1 dL_isSound_90 rfl (lv_at hl 2 rfl) ?_
        refine lv_iconst (v := nI 4) S.1 S.2.1 dL_isSound_91 (ofInt_nI 4) ?_
        refine nx_nVi ([]) ([]) (ws' := qW Z z X o n Y P) (rest := []) S w X9 hl.1 (n_channel l hst D Z z X o n Y P d 4 hX (by omega) (by decide)) (by simp only [List.nil_append, List.append_nil, List.append_assoc]) adr_q (by simp only [List.nil_append, List.append_nil, List.append_assoc]) gL_isSound_X7_channel rfl hdV_X7_channel ⟨(Nat.le_of_ble_eq_true rfl), (Nat.le_of_ble_eq_true rfl)⟩ (q0 := 0) rfl rfl rfl rfl (Nat.le_of_ble_eq_true rfl) ⟨(by show _ ≤ 100; omega), (by show _ ≤ 600; omega)⟩ dL_isSound_92 (fun H locs w => ?_)
        refine W.eq (g2 := F0 m 95 ls [vI (X.2.2 d 4)]) rfl ?_
        refine lv_istore_n (lv' := [(3, vI (X.2.2 d 4)), (0, .ref (z 0 0)), (1, vI 1), (2, vI d)]) S.1 S.2.1 dL_isSound_95 rfl hl (by decide) rfl (fun ls hl => ?_)
        refine lv_iload_n S.1 S.2.1 dL_isSound_96 rfl (lv_at hl 2 rfl) ?_
        refine lv_if_eq (tgt := 211) S.1 S.2.1 dL_isSound_97 (by decide) (fun h9 => absurd h9 (by decide)) (fun _ => ?_)
        refine lv_aload_n S.1 S.2.1 dL_isSound_100 rfl (lv_at hl 1 rfl) ?_
        refine lv_iload_n S.1 S.2.1 dL_isSound_101 rfl (lv_at hl 3 rfl) ?_
        refine lv_iconst (v := nI 0) S.1 S.2.1 dL_isSound_102 (ofInt_nI 0) ?_
        refine nx_nVi ([]) ([]) (ws' := qW Z z X o n Y P) (rest := []) S w X9 hl.1 (n_channel l hst D Z z X o n Y P d 0 hX (by omega) (by decide)) (by simp only [List.nil_append, List.append_nil, List.append_assoc]) adr_q (by simp only [List.nil_append, List.append_nil, List.append_assoc]) gL_isSound_X7_channel rfl hdV_X7_channel ⟨(Nat.le_of_ble_eq_true rfl), (Nat.le_of_ble_eq_true rfl)⟩ (q0 := 0) rfl rfl rfl rfl (Nat.le_of_ble_eq_true rfl) ⟨(by show _ ≤ 100; omega), (by show _ ≤ 600; omega)⟩ dL_isSound_103 (fun H locs w => ?_)
        refine W.eq (g2 := F0 m 106 ls [vI (X.2.2 d 0)]) rfl ?_
        refine nv_if_lt (tgt := 211) S (by omega) dL_isSound_106 (by decide) ?_
        refine lv_aload_n S.1 S.2.1 dL_isSound_109 rfl (lv_at hl 1 rfl) ?_
        refine lv_iload_n S.1 S.2.1 dL_isSound_110 rfl (lv_at hl 3 rfl) ?_
        refine lv_iconst (v := nI 0) S.1 S.2.1 dL_isSound_111 (ofInt_nI 0) ?_
        refine nx_nVi ([]) ([]) (ws' := qW Z z X o n Y P) (rest := []) S w X9 hl.1 (n_channel l hst D Z z X o n Y P d 0 hX (by omega) (by decide)) (by simp only [List.nil_append, List.append_nil, List.append_assoc]) adr_q (by simp only [List.nil_append, List.append_nil, List.append_assoc]) gL_isSound_X7_channel rfl hdV_X7_channel ⟨(Nat.le_of_ble_eq_true rfl), (Nat.le_of_ble_eq_true rfl)⟩ (q0 := 0) rfl rfl rfl rfl (Nat.le_of_ble_eq_true rfl) ⟨(by show _ ≤ 100; omega), (by show _ ≤ 600; omega)⟩ dL_isSound_112 (fun H locs w => ?_)
        refine W.eq (g2 := F0 m 115 ls [vI (X.2.2 d 0)]) rfl ?_
        refine lv_sipush (v := nI 999) S.1 S.2.1 dL_isSound_115 (by decide +kernel) ?_
        refine nv_icmp_gt S (by omega) (by omega) (tgt := 211) dL_isSound_118 (by decide) (fun h_4 => ?_) (fun h_4 => ?_)
        · skip
          exfalso; omega
        · skip
          refine lv_aload_n S.1 S.2.1 dL_isSound_121 rfl (lv_at hl 1 rfl) ?_
          refine lv_iload_n S.1 S.2.1 dL_isSound_122 rfl (lv_at hl 3 rfl) ?_
          refine lv_iconst (v := nI 1) S.1 S.2.1 dL_isSound_123 (ofInt_nI 1) ?_
          refine nx_nVi ([]) ([]) (ws' := qW Z z X o n Y P) (rest := []) S w X9 hl.1 (n_channel l hst D Z z X o n Y P d 1 hX (by omega) (by decide)) (by simp only [List.nil_append, List.append_nil, List.append_assoc]) adr_q (by simp only [List.nil_append, List.append_nil, List.append_assoc]) gL_isSound_X7_channel rfl hdV_X7_channel ⟨(Nat.le_of_ble_eq_true rfl), (Nat.le_of_ble_eq_true rfl)⟩ (q0 := 0) rfl rfl rfl rfl (Nat.le_of_ble_eq_true rfl) ⟨(by show _ ≤ 100; omega), (by show _ ≤ 600; omega)⟩ dL_isSound_124 (fun H locs w => ?_)
          refine W.eq (g2 := F0 m 127 ls [vI (X.2.2 d 1)]) rfl ?_
          refine nv_if_lt (tgt := 211) S (by omega) dL_isSound_127 (by decide) ?_
          refine lv_aload_n S.1 S.2.1 dL_isSound_130 rfl (lv_at hl 1 rfl) ?_
          refine lv_iload_n S.1 S.2.1 dL_isSound_131 rfl (lv_at hl 3 rfl) ?_
          refine lv_iconst (v := nI 1) S.1 S.2.1 dL_isSound_132 (ofInt_nI 1) ?_
          refine nx_nVi ([]) ([]) (ws' := qW Z z X o n Y P) (rest := []) S w X9 hl.1 (n_channel l hst D Z z X o n Y P d 1 hX (by omega) (by decide)) (by simp only [List.nil_append, List.append_nil, List.append_assoc]) adr_q (by simp only [List.nil_append, List.append_nil, List.append_assoc]) gL_isSound_X7_channel rfl hdV_X7_channel ⟨(Nat.le_of_ble_eq_true rfl), (Nat.le_of_ble_eq_true rfl)⟩ (q0 := 0) rfl rfl rfl rfl (Nat.le_of_ble_eq_true rfl) ⟨(by show _ ≤ 100; omega), (by show _ ≤ 600; omega)⟩ dL_isSound_133 (fun H locs w => ?_)
          refine W.eq (g2 := F0 m 136 ls [vI (X.2.2 d 1)]) rfl ?_
          refine lv_bipush (v := nI 15) S.1 S.2.1 dL_isSound_136 (by decide +kernel) ?_
          refine nv_icmp_gt S (by omega) (by omega) (tgt := 211) dL_isSound_138 (by decide) (fun h_6 => ?_) (fun h_6 => ?_)
          · skip
            exfalso; omega
          · skip
            refine lv_iload_n S.1 S.2.1 dL_isSound_141 rfl (lv_at hl 0 rfl) ?_
            refine nv_if_lt (tgt := 211) S (by omega) dL_isSound_142 (by decide) ?_
            refine lv_iload_n S.1 S.2.1 dL_isSound_145 rfl (lv_at hl 0 rfl) ?_
            refine lv_iconst (v := nI 3) S.1 S.2.1 dL_isSound_146 (ofInt_nI 3) ?_
            refine nv_icmp_gt S (by omega) (by omega) (tgt := 211) dL_isSound_147 (by decide) (fun h_8 => ?_) (fun h_8 => ?_)
            · skip
              exfalso; omega
            · skip
              refine lv_aload_n S.1 S.2.1 dL_isSound_150 rfl (lv_at hl 1 rfl) ?_
              refine lv_iload_n S.1 S.2.1 dL_isSound_151 rfl (lv_at hl 3 rfl) ?_
              refine lv_iconst (v := nI 5) S.1 S.2.1 dL_isSound_152 (ofInt_nI 5) ?_
              refine nx_nVi ([]) ([]) (ws' := qW Z z X o n Y P) (rest := []) S w X9 hl.1 (n_channel l hst D Z z X o n Y P d 5 hX (by omega) (by decide)) (by simp only [List.nil_append, List.append_nil, List.append_assoc]) adr_q (by simp only [List.nil_append, List.append_nil, List.append_assoc]) gL_isSound_X7_channel rfl hdV_X7_channel ⟨(Nat.le_of_ble_eq_true rfl), (Nat.le_of_ble_eq_true rfl)⟩ (q0 := 0) rfl rfl rfl rfl (Nat.le_of_ble_eq_true rfl) ⟨(by show _ ≤ 100; omega), (by show _ ≤ 600; omega)⟩ dL_isSound_153 (fun H locs w => ?_)
              by_cases h40 : X.2.2 d 4 = 0
              · skip
                refine W.eq (g2 := F0 m 156 ls [.int (-1)]) (by rw [factV_5n h40]) ?_
                refine lv_if_lt (tgt := 163) S.1 S.2.1 dL_isSound_156 (by decide) (fun _ => ?_) (fun h9 => absurd (by decide) h9)
                refine lv_iconst (v := nI 0) S.1 S.2.1 dL_isSound_163 (ofInt_nI 0) ?_
                refine lv_iload_n S.1 S.2.1 dL_isSound_164 rfl (lv_at hl 0 rfl) ?_
                refine nv_if_le S (by omega) (tgt := 172) dL_isSound_165 (by decide) (fun h_9 => ?_) (fun h_9 => ?_)
                · skip
                  refine lv_iconst (v := nI 0) S.1 S.2.1 dL_isSound_172 (ofInt_nI 0) ?_
                  refine nv_icmp_ne (tgt := 211) S (by decide) (by decide) dL_isSound_173 (by decide) (fun h9 => absurd h9 (by decide)) (fun _ => ?_)
                  refine lv_aload_n S.1 S.2.1 dL_isSound_176 rfl (lv_at hl 1 rfl) ?_
                  refine lv_iload_n S.1 S.2.1 dL_isSound_177 rfl (lv_at hl 3 rfl) ?_
                  refine lv_iconst (v := nI 2) S.1 S.2.1 dL_isSound_178 (ofInt_nI 2) ?_
                  refine nx_nVi ([]) ([]) (ws' := qW Z z X o n Y P) (rest := []) S w X9 hl.1 (n_channel l hst D Z z X o n Y P d 2 hX (by omega) (by decide)) (by simp only [List.nil_append, List.append_nil, List.append_assoc]) adr_q (by simp only [List.nil_append, List.append_nil, List.append_assoc]) gL_isSound_X7_channel rfl hdV_X7_channel ⟨(Nat.le_of_ble_eq_true rfl), (Nat.le_of_ble_eq_true rfl)⟩ (q0 := 0) rfl rfl rfl rfl (Nat.le_of_ble_eq_true rfl) ⟨(by show _ ≤ 100; omega), (by show _ ≤ 600; omega)⟩ dL_isSound_179 (fun H locs w => ?_)
                  refine W.eq (g2 := F0 m 182 ls [vI (X.2.2 d 2)]) rfl ?_
                  by_cases h20 : X.2.2 d 2 = 0
                  · skip
                    refine nv_if_le S (by omega) (tgt := 189) dL_isSound_182 (by decide) (fun h_11 => ?_) (fun h_11 => ?_)
                    · skip
                      refine lv_iconst (v := nI 0) S.1 S.2.1 dL_isSound_189 (ofInt_nI 0) ?_
                      refine lv_aload_n S.1 S.2.1 dL_isSound_190 rfl (lv_at hl 1 rfl) ?_
                      refine lv_iload_n S.1 S.2.1 dL_isSound_191 rfl (lv_at hl 3 rfl) ?_
                      refine lv_iconst (v := nI 3) S.1 S.2.1 dL_isSound_192 (ofInt_nI 3) ?_
                      refine nx_nVi ([]) ([]) (ws' := qW Z z X o n Y P) (rest := [vI 0]) S w X9 hl.1 (n_channel l hst D Z z X o n Y P d 3 hX (by omega) (by decide)) (by simp only [List.nil_append, List.append_nil, List.append_assoc]) adr_q (by simp only [List.nil_append, List.append_nil, List.append_assoc]) gL_isSound_X7_channel rfl hdV_X7_channel ⟨(Nat.le_of_ble_eq_true rfl), (Nat.le_of_ble_eq_true rfl)⟩ (q0 := 0) rfl rfl rfl rfl (Nat.le_of_ble_eq_true rfl) ⟨(by show _ ≤ 100; omega), (by show _ ≤ 600; omega)⟩ dL_isSound_193 (fun H locs w => ?_)
                      refine W.eq (g2 := F0 m 196 ls [.int (-1), vI 0]) (by rw [factV_3n h20]) ?_
                      refine lv_if_lt (tgt := 203) S.1 S.2.1 dL_isSound_196 (by decide) (fun _ => ?_) (fun h9 => absurd (by decide) h9)
                      refine lv_iconst (v := nI 0) S.1 S.2.1 dL_isSound_203 (ofInt_nI 0) ?_
                      refine nv_icmp_ne (tgt := 211) S (by decide) (by decide) dL_isSound_204 (by decide) (fun h9 => absurd h9 (by decide)) (fun _ => ?_)
                      refine lv_iconst (v := nI 1) S.1 S.2.1 dL_isSound_207 (ofInt_nI 1) ?_
                      refine lv_goto (tgt := 212) S.1 S.2.1 dL_isSound_208 (by decide) ?_
                      refine lv_istore_n (lv' := [(1, vI 1), (3, vI (X.2.2 d 4)), (0, .ref (z 0 0)), (2, vI d)]) S.1 S.2.1 dL_isSound_212 rfl hl (by decide) rfl (fun ls hl => ?_)
                      refine lv_iinc (v := nI (d + 1)) (lv' := [(2, vI (d + 1)), (1, vI 1), (3, vI (X.2.2 d 4)), (0, .ref (z 0 0))]) S.1 S.2.1 dL_isSound_213 hl (k := 3) rfl (nI_incI d 1) (by decide) rfl (fun ls hl => ?_)
                      refine lv_goto (tgt := 84) S.1 S.2.1 dL_isSound_216 (by decide) ?_
                      refine W.widen (k := 12 + 20 * (d + 1)) (n := 90 + 120 * (d + 1)) (by omega) (by omega) ?_
                      exact ih (d + 1) (by omega) (by omega) _ _ _ (lv_sub hl [3, 1, 0] rfl) w
                    · skip
                      exfalso; omega
                  · skip
                    refine nv_if_le S (by omega) (tgt := 189) dL_isSound_182 (by decide) (fun h_13 => ?_) (fun h_13 => ?_)
                    · skip
                      exfalso; omega
                    · skip
                      refine lv_iconst (v := nI 1) S.1 S.2.1 dL_isSound_185 (ofInt_nI 1) ?_
                      refine lv_goto (tgt := 190) S.1 S.2.1 dL_isSound_186 (by decide) ?_
                      refine lv_aload_n S.1 S.2.1 dL_isSound_190 rfl (lv_at hl 1 rfl) ?_
                      refine lv_iload_n S.1 S.2.1 dL_isSound_191 rfl (lv_at hl 3 rfl) ?_
                      refine lv_iconst (v := nI 3) S.1 S.2.1 dL_isSound_192 (ofInt_nI 3) ?_
                      refine nx_nVi ([]) ([]) (ws' := qW Z z X o n Y P) (rest := [vI 1]) S w X9 hl.1 (n_channel l hst D Z z X o n Y P d 3 hX (by omega) (by decide)) (by simp only [List.nil_append, List.append_nil, List.append_assoc]) adr_q (by simp only [List.nil_append, List.append_nil, List.append_assoc]) gL_isSound_X7_channel rfl hdV_X7_channel ⟨(Nat.le_of_ble_eq_true rfl), (Nat.le_of_ble_eq_true rfl)⟩ (q0 := 0) rfl rfl rfl rfl (Nat.le_of_ble_eq_true rfl) ⟨(by show _ ≤ 100; omega), (by show _ ≤ 600; omega)⟩ dL_isSound_193 (fun H locs w => ?_)
                      refine W.eq (g2 := F0 m 196 ls [vI (X.2.2 d 3), vI 1]) (by rw [factV_3y h20]) ?_
                      refine nv_if_lt (tgt := 203) S (by omega) dL_isSound_196 (by decide) ?_
                      refine lv_iconst (v := nI 1) S.1 S.2.1 dL_isSound_199 (ofInt_nI 1) ?_
                      refine lv_goto (tgt := 204) S.1 S.2.1 dL_isSound_200 (by decide) ?_
                      refine nv_icmp_ne (tgt := 211) S (by decide) (by decide) dL_isSound_204 (by decide) (fun h9 => absurd h9 (by decide)) (fun _ => ?_)
                      refine lv_iconst (v := nI 1) S.1 S.2.1 dL_isSound_207 (ofInt_nI 1) ?_
                      refine lv_goto (tgt := 212) S.1 S.2.1 dL_isSound_208 (by decide) ?_
                      refine lv_istore_n (lv' := [(1, vI 1), (3, vI (X.2.2 d 4)), (0, .ref (z 0 0)), (2, vI d)]) S.1 S.2.1 dL_isSound_212 rfl hl (by decide) rfl (fun ls hl => ?_)
                      refine lv_iinc (v := nI (d + 1)) (lv' := [(2, vI (d + 1)), (1, vI 1), (3, vI (X.2.2 d 4)), (0, .ref (z 0 0))]) S.1 S.2.1 dL_isSound_213 hl (k := 3) rfl (nI_incI d 1) (by decide) rfl (fun ls hl => ?_)
                      refine lv_goto (tgt := 84) S.1 S.2.1 dL_isSound_216 (by decide) ?_
                      refine W.widen (k := 12 + 20 * (d + 1)) (n := 90 + 120 * (d + 1)) (by omega) (by omega) ?_
                      exact ih (d + 1) (by omega) (by omega) _ _ _ (lv_sub hl [3, 1, 0] rfl) w
                · skip
                  exfalso; omega
              · skip
                have hvf2 := hvf h40
                refine W.eq (g2 := F0 m 156 ls [vI (X.2.2 d (5 + 2 * (X.2.2 d 4 - 1)))]) (by rw [factV_5y h40]) ?_
                refine nv_if_lt (tgt := 163) S (by omega) dL_isSound_156 (by decide) ?_
                refine lv_iconst (v := nI 1) S.1 S.2.1 dL_isSound_159 (ofInt_nI 1) ?_
                refine lv_goto (tgt := 164) S.1 S.2.1 dL_isSound_160 (by decide) ?_
                refine lv_iload_n S.1 S.2.1 dL_isSound_164 rfl (lv_at hl 0 rfl) ?_
                refine nv_if_le S (by omega) (tgt := 172) dL_isSound_165 (by decide) (fun h_17 => ?_) (fun h_17 => ?_)
                · skip
                  exfalso; omega
                · skip
                  refine lv_iconst (v := nI 1) S.1 S.2.1 dL_isSound_168 (ofInt_nI 1) ?_
                  refine lv_goto (tgt := 173) S.1 S.2.1 dL_isSound_169 (by decide) ?_
                  refine nv_icmp_ne (tgt := 211) S (by decide) (by decide) dL_isSound_173 (by decide) (fun h9 => absurd h9 (by decide)) (fun _ => ?_)
                  refine lv_aload_n S.1 S.2.1 dL_isSound_176 rfl (lv_at hl 1 rfl) ?_
                  refine lv_iload_n S.1 S.2.1 dL_isSound_177 rfl (lv_at hl 3 rfl) ?_
                  refine lv_iconst (v := nI 2) S.1 S.2.1 dL_isSound_178 (ofInt_nI 2) ?_
                  refine nx_nVi ([]) ([]) (ws' := qW Z z X o n Y P) (rest := []) S w X9 hl.1 (n_channel l hst D Z z X o n Y P d 2 hX (by omega) (by decide)) (by simp only [List.nil_append, List.append_nil, List.append_assoc]) adr_q (by simp only [List.nil_append, List.append_nil, List.append_assoc]) gL_isSound_X7_channel rfl hdV_X7_channel ⟨(Nat.le_of_ble_eq_true rfl), (Nat.le_of_ble_eq_true rfl)⟩ (q0 := 0) rfl rfl rfl rfl (Nat.le_of_ble_eq_true rfl) ⟨(by show _ ≤ 100; omega), (by show _ ≤ 600; omega)⟩ dL_isSound_179 (fun H locs w => ?_)
                  refine W.eq (g2 := F0 m 182 ls [vI (X.2.2 d 2)]) rfl ?_
                  by_cases h20 : X.2.2 d 2 = 0
                  · skip
                    refine nv_if_le S (by omega) (tgt := 189) dL_isSound_182 (by decide) (fun h_19 => ?_) (fun h_19 => ?_)
                    · skip
                      refine lv_iconst (v := nI 0) S.1 S.2.1 dL_isSound_189 (ofInt_nI 0) ?_
                      refine lv_aload_n S.1 S.2.1 dL_isSound_190 rfl (lv_at hl 1 rfl) ?_
                      refine lv_iload_n S.1 S.2.1 dL_isSound_191 rfl (lv_at hl 3 rfl) ?_
                      refine lv_iconst (v := nI 3) S.1 S.2.1 dL_isSound_192 (ofInt_nI 3) ?_
                      refine nx_nVi ([]) ([]) (ws' := qW Z z X o n Y P) (rest := [vI 0]) S w X9 hl.1 (n_channel l hst D Z z X o n Y P d 3 hX (by omega) (by decide)) (by simp only [List.nil_append, List.append_nil, List.append_assoc]) adr_q (by simp only [List.nil_append, List.append_nil, List.append_assoc]) gL_isSound_X7_channel rfl hdV_X7_channel ⟨(Nat.le_of_ble_eq_true rfl), (Nat.le_of_ble_eq_true rfl)⟩ (q0 := 0) rfl rfl rfl rfl (Nat.le_of_ble_eq_true rfl) ⟨(by show _ ≤ 100; omega), (by show _ ≤ 600; omega)⟩ dL_isSound_193 (fun H locs w => ?_)
                      refine W.eq (g2 := F0 m 196 ls [.int (-1), vI 0]) (by rw [factV_3n h20]) ?_
                      refine lv_if_lt (tgt := 203) S.1 S.2.1 dL_isSound_196 (by decide) (fun _ => ?_) (fun h9 => absurd (by decide) h9)
                      refine lv_iconst (v := nI 0) S.1 S.2.1 dL_isSound_203 (ofInt_nI 0) ?_
                      refine nv_icmp_ne (tgt := 211) S (by decide) (by decide) dL_isSound_204 (by decide) (fun h9 => absurd h9 (by decide)) (fun _ => ?_)
                      refine lv_iconst (v := nI 1) S.1 S.2.1 dL_isSound_207 (ofInt_nI 1) ?_
                      refine lv_goto (tgt := 212) S.1 S.2.1 dL_isSound_208 (by decide) ?_
                      refine lv_istore_n (lv' := [(1, vI 1), (3, vI (X.2.2 d 4)), (0, .ref (z 0 0)), (2, vI d)]) S.1 S.2.1 dL_isSound_212 rfl hl (by decide) rfl (fun ls hl => ?_)
                      refine lv_iinc (v := nI (d + 1)) (lv' := [(2, vI (d + 1)), (1, vI 1), (3, vI (X.2.2 d 4)), (0, .ref (z 0 0))]) S.1 S.2.1 dL_isSound_213 hl (k := 3) rfl (nI_incI d 1) (by decide) rfl (fun ls hl => ?_)
                      refine lv_goto (tgt := 84) S.1 S.2.1 dL_isSound_216 (by decide) ?_
                      refine W.widen (k := 12 + 20 * (d + 1)) (n := 90 + 120 * (d + 1)) (by omega) (by omega) ?_
                      exact ih (d + 1) (by omega) (by omega) _ _ _ (lv_sub hl [3, 1, 0] rfl) w
                    · skip
                      exfalso; omega
                  · skip
                    refine nv_if_le S (by omega) (tgt := 189) dL_isSound_182 (by decide) (fun h_21 => ?_) (fun h_21 => ?_)
                    · skip
                      exfalso; omega
                    · skip
                      refine lv_iconst (v := nI 1) S.1 S.2.1 dL_isSound_185 (ofInt_nI 1) ?_
                      refine lv_goto (tgt := 190) S.1 S.2.1 dL_isSound_186 (by decide) ?_
                      refine lv_aload_n S.1 S.2.1 dL_isSound_190 rfl (lv_at hl 1 rfl) ?_
                      refine lv_iload_n S.1 S.2.1 dL_isSound_191 rfl (lv_at hl 3 rfl) ?_
                      refine lv_iconst (v := nI 3) S.1 S.2.1 dL_isSound_192 (ofInt_nI 3) ?_
                      refine nx_nVi ([]) ([]) (ws' := qW Z z X o n Y P) (rest := [vI 1]) S w X9 hl.1 (n_channel l hst D Z z X o n Y P d 3 hX (by omega) (by decide)) (by simp only [List.nil_append, List.append_nil, List.append_assoc]) adr_q (by simp only [List.nil_append, List.append_nil, List.append_assoc]) gL_isSound_X7_channel rfl hdV_X7_channel ⟨(Nat.le_of_ble_eq_true rfl), (Nat.le_of_ble_eq_true rfl)⟩ (q0 := 0) rfl rfl rfl rfl (Nat.le_of_ble_eq_true rfl) ⟨(by show _ ≤ 100; omega), (by show _ ≤ 600; omega)⟩ dL_isSound_193 (fun H locs w => ?_)
                      refine W.eq (g2 := F0 m 196 ls [vI (X.2.2 d 3), vI 1]) (by rw [factV_3y h20]) ?_
                      refine nv_if_lt (tgt := 203) S (by omega) dL_isSound_196 (by decide) ?_
                      refine lv_iconst (v := nI 1) S.1 S.2.1 dL_isSound_199 (ofInt_nI 1) ?_
                      refine lv_goto (tgt := 204) S.1 S.2.1 dL_isSound_200 (by decide) ?_
                      refine nv_icmp_ne (tgt := 211) S (by decide) (by decide) dL_isSound_204 (by decide) (fun h9 => absurd h9 (by decide)) (fun _ => ?_)
                      refine lv_iconst (v := nI 1) S.1 S.2.1 dL_isSound_207 (ofInt_nI 1) ?_
                      refine lv_goto (tgt := 212) S.1 S.2.1 dL_isSound_208 (by decide) ?_
                      refine lv_istore_n (lv' := [(1, vI 1), (3, vI (X.2.2 d 4)), (0, .ref (z 0 0)), (2, vI d)]) S.1 S.2.1 dL_isSound_212 rfl hl (by decide) rfl (fun ls hl => ?_)
                      refine lv_iinc (v := nI (d + 1)) (lv' := [(2, vI (d + 1)), (1, vI 1), (3, vI (X.2.2 d 4)), (0, .ref (z 0 0))]) S.1 S.2.1 dL_isSound_213 hl (k := 3) rfl (nI_incI d 1) (by decide) rfl (fun ls hl => ?_)
                      refine lv_goto (tgt := 84) S.1 S.2.1 dL_isSound_216 (by decide) ?_
                      refine W.widen (k := 12 + 20 * (d + 1)) (n := 90 + 120 * (d + 1)) (by omega) (by omega) ?_
                      exact ih (d + 1) (by omega) (by omega) _ _ _ (lv_sub hl [3, 1, 0] rfl) w
set_option maxRecDepth 100000 in
set_option maxHeartbeats 4000000 in
theorem c_L_isSound (l : Launch) (hst : l.stackTraces = false) (D : va_G) (Z : Nat → ClassId) (z : Nat → Nat → Nat) (X : ST) (o n : Nat) (Y : Nat → ST) (P : PG) (hX : XB X) : Cr (β := Unit) l yL_isSound wsL_isSound 8 139 100 600 D Z [.ref (z 0 0)] (qW Z z X o n Y P) (fun _ => True) (nI 1) (fun _ => qW Z z X o n Y P) := by
  refine ne_r (cc := cL_isSound) (maxL := 4) (by decide +kernel) rfl (Nat.le_of_ble_eq_true rfl) (fun p e s m args below meth c A ls (S : CallFix p m c cL_isSound 4 s args wsL_isSound RL) hr hlocks X9 hl w => ?_)
  obtain ⟨b0, b1, b2, b3, b4, b5⟩ := hX.2.1
  have hp1 := hX.1.2.2.1
  have hp8 := hX.1.2.2.2.1
  have hl : lv_has ls 4 [(0, .ref (z 0 0))] := hl
  refine lv_aload_n S.1 S.2.1 dL_isSound_0 rfl (lv_at hl 0 rfl) ?_
  refine lv_iconst (v := nI 0) S.1 S.2.1 dL_isSound_1 (ofInt_nI 0) ?_
  refine nx_nVi ([]) ([]) (ws' := qW Z z X o n Y P) (rest := []) S w X9 hl.1 (n_value l hst D Z z X o n Y P 0 hX (by decide)) (by simp only [List.nil_append, List.append_nil, List.append_assoc]) adr_q (by simp only [List.nil_append, List.append_nil, List.append_assoc]) gL_isSound_X7_value rfl hdV_X7_value ⟨(Nat.le_of_ble_eq_true rfl), (Nat.le_of_ble_eq_true rfl)⟩ (q0 := 0) rfl rfl rfl rfl (Nat.le_of_ble_eq_true rfl) ⟨(by show _ ≤ 100; omega), (by show _ ≤ 600; omega)⟩ dL_isSound_2 (fun H locs w => ?_)
  refine W.eq (g2 := F0 m 5 ls [vI (X.2.1 0)]) rfl ?_
  refine lv_aload_n S.1 S.2.1 dL_isSound_5 rfl (lv_at hl 0 rfl) ?_
  refine lv_bipush (v := nI 6) S.1 S.2.1 dL_isSound_6 (by decide +kernel) ?_
  refine nx_nVi ([]) ([]) (ws' := qW Z z X o n Y P) (rest := [vI (X.2.1 0)]) S w X9 hl.1 (n_value l hst D Z z X o n Y P 6 hX (by decide)) (by simp only [List.nil_append, List.append_nil, List.append_assoc]) adr_q (by simp only [List.nil_append, List.append_nil, List.append_assoc]) gL_isSound_X7_value rfl hdV_X7_value ⟨(Nat.le_of_ble_eq_true rfl), (Nat.le_of_ble_eq_true rfl)⟩ (q0 := 0) rfl rfl rfl rfl (Nat.le_of_ble_eq_true rfl) ⟨(by show _ ≤ 100; omega), (by show _ ≤ 600; omega)⟩ dL_isSound_8 (fun H locs w => ?_)
  refine W.eq (g2 := F0 m 11 ls [vI X.1.2.2.2, vI (X.2.1 0)]) rfl ?_
  refine nv_icmp_ge S (by omega) (by omega) (tgt := 80) dL_isSound_11 (by decide) (fun h_24 => ?_) (fun h_24 => ?_)
  · skip
    exfalso; omega
  · skip
    refine lv_aload_n S.1 S.2.1 dL_isSound_14 rfl (lv_at hl 0 rfl) ?_
    refine lv_iconst (v := nI 2) S.1 S.2.1 dL_isSound_15 (ofInt_nI 2) ?_
    refine nx_nVi ([]) ([]) (ws' := qW Z z X o n Y P) (rest := []) S w X9 hl.1 (n_value l hst D Z z X o n Y P 2 hX (by decide)) (by simp only [List.nil_append, List.append_nil, List.append_assoc]) adr_q (by simp only [List.nil_append, List.append_nil, List.append_assoc]) gL_isSound_X7_value rfl hdV_X7_value ⟨(Nat.le_of_ble_eq_true rfl), (Nat.le_of_ble_eq_true rfl)⟩ (q0 := 0) rfl rfl rfl rfl (Nat.le_of_ble_eq_true rfl) ⟨(by show _ ≤ 100; omega), (by show _ ≤ 600; omega)⟩ dL_isSound_16 (fun H locs w => ?_)
    refine W.eq (g2 := F0 m 19 ls [vI (X.2.1 2)]) rfl ?_
    refine lv_bipush (v := nI 8) S.1 S.2.1 dL_isSound_19 (by decide +kernel) ?_
    refine nv_icmp_ge S (by omega) (by omega) (tgt := 80) dL_isSound_21 (by decide) (fun h_25 => ?_) (fun h_25 => ?_)
    · skip
      exfalso; omega
    · skip
      refine lv_aload_n S.1 S.2.1 dL_isSound_24 rfl (lv_at hl 0 rfl) ?_
      refine lv_iconst (v := nI 3) S.1 S.2.1 dL_isSound_25 (ofInt_nI 3) ?_
      refine nx_nVi ([]) ([]) (ws' := qW Z z X o n Y P) (rest := []) S w X9 hl.1 (n_value l hst D Z z X o n Y P 3 hX (by decide)) (by simp only [List.nil_append, List.append_nil, List.append_assoc]) adr_q (by simp only [List.nil_append, List.append_nil, List.append_assoc]) gL_isSound_X7_value rfl hdV_X7_value ⟨(Nat.le_of_ble_eq_true rfl), (Nat.le_of_ble_eq_true rfl)⟩ (q0 := 0) rfl rfl rfl rfl (Nat.le_of_ble_eq_true rfl) ⟨(by show _ ≤ 100; omega), (by show _ ≤ 600; omega)⟩ dL_isSound_26 (fun H locs w => ?_)
      refine W.eq (g2 := F0 m 29 ls [vI (X.2.1 3)]) rfl ?_
      refine lv_iconst (v := nI 1) S.1 S.2.1 dL_isSound_29 (ofInt_nI 1) ?_
      refine nv_icmp_lt S (by omega) (by omega) (tgt := 80) dL_isSound_30 (by decide) (fun h_26 => ?_) (fun h_26 => ?_)
      · skip
        exfalso; omega
      · skip
        refine lv_aload_n S.1 S.2.1 dL_isSound_33 rfl (lv_at hl 0 rfl) ?_
        refine lv_iconst (v := nI 3) S.1 S.2.1 dL_isSound_34 (ofInt_nI 3) ?_
        refine nx_nVi ([]) ([]) (ws' := qW Z z X o n Y P) (rest := []) S w X9 hl.1 (n_value l hst D Z z X o n Y P 3 hX (by decide)) (by simp only [List.nil_append, List.append_nil, List.append_assoc]) adr_q (by simp only [List.nil_append, List.append_nil, List.append_assoc]) gL_isSound_X7_value rfl hdV_X7_value ⟨(Nat.le_of_ble_eq_true rfl), (Nat.le_of_ble_eq_true rfl)⟩ (q0 := 0) rfl rfl rfl rfl (Nat.le_of_ble_eq_true rfl) ⟨(by show _ ≤ 100; omega), (by show _ ≤ 600; omega)⟩ dL_isSound_35 (fun H locs w => ?_)
        refine W.eq (g2 := F0 m 38 ls [vI (X.2.1 3)]) rfl ?_
        refine lv_bipush (v := nI 8) S.1 S.2.1 dL_isSound_38 (by decide +kernel) ?_
        refine nv_icmp_gt S (by omega) (by omega) (tgt := 80) dL_isSound_40 (by decide) (fun h_27 => ?_) (fun h_27 => ?_)
        · skip
          exfalso; omega
        · skip
          refine lv_aload_n S.1 S.2.1 dL_isSound_43 rfl (lv_at hl 0 rfl) ?_
          refine lv_bipush (v := nI 7) S.1 S.2.1 dL_isSound_44 (by decide +kernel) ?_
          refine nx_nVi ([]) ([]) (ws' := qW Z z X o n Y P) (rest := []) S w X9 hl.1 (n_value l hst D Z z X o n Y P 7 hX (by decide)) (by simp only [List.nil_append, List.append_nil, List.append_assoc]) adr_q (by simp only [List.nil_append, List.append_nil, List.append_assoc]) gL_isSound_X7_value rfl hdV_X7_value ⟨(Nat.le_of_ble_eq_true rfl), (Nat.le_of_ble_eq_true rfl)⟩ (q0 := 0) rfl rfl rfl rfl (Nat.le_of_ble_eq_true rfl) ⟨(by show _ ≤ 100; omega), (by show _ ≤ 600; omega)⟩ dL_isSound_46 (fun H locs w => ?_)
          refine W.eq (g2 := F0 m 49 ls [vI (X.1.2.2.1 (X.2.1 0))]) rfl ?_
          refine lv_aload_n S.1 S.2.1 dL_isSound_49 rfl (lv_at hl 0 rfl) ?_
          refine lv_aload_n S.1 S.2.1 dL_isSound_50 rfl (lv_at hl 0 rfl) ?_
          refine lv_iconst (v := nI 0) S.1 S.2.1 dL_isSound_51 (ofInt_nI 0) ?_
          refine nx_nVi ([]) ([]) (ws' := qW Z z X o n Y P) (rest := [.ref (z 0 0), vI (X.1.2.2.1 (X.2.1 0))]) S w X9 hl.1 (n_value l hst D Z z X o n Y P 0 hX (by decide)) (by simp only [List.nil_append, List.append_nil, List.append_assoc]) adr_q (by simp only [List.nil_append, List.append_nil, List.append_assoc]) gL_isSound_X7_value rfl hdV_X7_value ⟨(Nat.le_of_ble_eq_true rfl), (Nat.le_of_ble_eq_true rfl)⟩ (q0 := 0) rfl rfl rfl rfl (Nat.le_of_ble_eq_true rfl) ⟨(by show _ ≤ 100; omega), (by show _ ≤ 600; omega)⟩ dL_isSound_52 (fun H locs w => ?_)
          refine W.eq (g2 := F0 m 55 ls [vI (X.2.1 0), .ref (z 0 0), vI (X.1.2.2.1 (X.2.1 0))]) rfl ?_
          refine nx_nVi ([]) ([]) (ws' := qW Z z X o n Y P) (rest := [vI (X.1.2.2.1 (X.2.1 0))]) S w X9 hl.1 (n_order l hst D Z z X o n Y P (X.2.1 0) hX (by omega)) (by simp only [List.nil_append, List.append_nil, List.append_assoc]) adr_q (by simp only [List.nil_append, List.append_nil, List.append_assoc]) gL_isSound_X7_order rfl hdV_X7_order ⟨(Nat.le_of_ble_eq_true rfl), (Nat.le_of_ble_eq_true rfl)⟩ (q0 := 0) rfl rfl rfl rfl (Nat.le_of_ble_eq_true rfl) ⟨(by show _ ≤ 100; omega), (by show _ ≤ 600; omega)⟩ dL_isSound_55 (fun H locs w => ?_)
          refine lv_icmp_ne (tgt := 80) S.1 S.2.1 dL_isSound_58 (by decide) (fun h9 => absurd rfl h9) (fun _ => ?_)
          refine lv_aload_n S.1 S.2.1 dL_isSound_61 rfl (lv_at hl 0 rfl) ?_
          refine lv_aload_n S.1 S.2.1 dL_isSound_62 rfl (lv_at hl 0 rfl) ?_
          refine lv_bipush (v := nI 7) S.1 S.2.1 dL_isSound_63 (by decide +kernel) ?_
          refine nx_nVi ([]) ([]) (ws' := qW Z z X o n Y P) (rest := [.ref (z 0 0)]) S w X9 hl.1 (n_value l hst D Z z X o n Y P 7 hX (by decide)) (by simp only [List.nil_append, List.append_nil, List.append_assoc]) adr_q (by simp only [List.nil_append, List.append_nil, List.append_assoc]) gL_isSound_X7_value rfl hdV_X7_value ⟨(Nat.le_of_ble_eq_true rfl), (Nat.le_of_ble_eq_true rfl)⟩ (q0 := 0) rfl rfl rfl rfl (Nat.le_of_ble_eq_true rfl) ⟨(by show _ ≤ 100; omega), (by show _ ≤ 600; omega)⟩ dL_isSound_65 (fun H locs w => ?_)
          refine W.eq (g2 := F0 m 68 ls [vI (X.1.2.2.1 (X.2.1 0)), .ref (z 0 0)]) rfl ?_
          refine lv_iconst (v := nI 4) S.1 S.2.1 dL_isSound_68 (ofInt_nI 4) ?_
          refine nx_nVi ([]) ([]) (ws' := qW Z z X o n Y P) (rest := []) S w X9 hl.1 (n_pattern l hst D Z z X o n Y P (X.1.2.2.1 (X.2.1 0)) 4 hX (by have := hX.1.2.2.2.2 (X.2.1 0) (by omega); omega) (by decide)) (by simp only [List.nil_append, List.append_nil, List.append_assoc]) adr_q (by simp only [List.nil_append, List.append_nil, List.append_assoc]) gL_isSound_X7_pattern rfl hdV_X7_pattern ⟨(Nat.le_of_ble_eq_true rfl), (Nat.le_of_ble_eq_true rfl)⟩ (q0 := 0) rfl rfl rfl rfl (Nat.le_of_ble_eq_true rfl) ⟨(by show _ ≤ 100; omega), (by show _ ≤ 600; omega)⟩ dL_isSound_69 (fun H locs w => ?_)
          refine W.eq (g2 := F0 m 72 ls [vI 1]) (by rw [fact_play hX]) ?_
          refine lv_iconst (v := nI 1) S.1 S.2.1 dL_isSound_72 (ofInt_nI 1) ?_
          refine nv_icmp_ne (tgt := 80) S (by decide) (by decide) dL_isSound_73 (by decide) (fun h9 => absurd h9 (by decide)) (fun _ => ?_)
          refine lv_iconst (v := nI 1) S.1 S.2.1 dL_isSound_76 (ofInt_nI 1) ?_
          refine lv_goto (tgt := 81) S.1 S.2.1 dL_isSound_77 (by decide) ?_
          refine lv_istore_n (lv' := [(1, vI 1), (0, .ref (z 0 0))]) S.1 S.2.1 dL_isSound_81 rfl hl (by decide) rfl (fun ls hl => ?_)
          refine lv_iconst (v := nI 0) S.1 S.2.1 dL_isSound_82 (ofInt_nI 0) ?_
          refine lv_istore_n (lv' := [(2, vI 0), (1, vI 1), (0, .ref (z 0 0))]) S.1 S.2.1 dL_isSound_83 rfl hl (by decide) rfl (fun ls hl => ?_)
          refine W.widen (k := 12 + 20 * 0) (n := 90 + 120 * 0) (by omega) (by omega) ?_
          exact k_L_isSound l hst D Z z X o n Y P hX S hr hlocks X9 _ 0 (by omega) (Nat.lt_succ_self _) _ _ _ (lv_sub hl [2, 1, 0] rfl) w
