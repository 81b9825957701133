theorem hdV_X7_undo : yX7_undo.cls = RX7 ∧ yX7_undo.cls ≠ "java/lang/invoke/MethodHandle" ∧ yX7_undo.cls ≠ "java/lang/invoke/VarHandle" ∧ (parseMethodDescriptor yX7_undo.desc).map (fun d => d.parameters.length) = some 0 := by decide +kernel
theorem hdV_X7_restart : yX7_restart.cls = RX7 ∧ yX7_restart.cls ≠ "java/lang/invoke/MethodHandle" ∧ yX7_restart.cls ≠ "java/lang/invoke/VarHandle" ∧ (parseMethodDescriptor yX7_restart.desc).map (fun d => d.parameters.length) = some 0 := by decide +kernel
theorem hdS_L_isStep : yL_isStep.cls ≠ "java/lang/invoke/MethodHandle" ∧ yL_isStep.cls ≠ "java/lang/invoke/VarHandle" ∧ (parseMethodDescriptor yL_isStep.desc).map (fun d => d.parameters.length) = some 3 := by decide +kernel
theorem hdS_L_areAlike : yL_areAlike.cls ≠ "java/lang/invoke/MethodHandle" ∧ yL_areAlike.cls ≠ "java/lang/invoke/VarHandle" ∧ (parseMethodDescriptor yL_areAlike.desc).map (fun d => d.parameters.length) = some 2 := by decide +kernel
theorem hdS_L_isSound : yL_isSound.cls ≠ "java/lang/invoke/MethodHandle" ∧ yL_isSound.cls ≠ "java/lang/invoke/VarHandle" ∧ (parseMethodDescriptor yL_isSound.desc).map (fun d => d.parameters.length) = some 1 := by decide +kernel
set_option maxRecDepth 100000 in
set_option maxHeartbeats 4000000 in
theorem k_law (l : Launch) (hst : l.stackTraces = false) (D : va_G) (Z : Nat → ClassId) (z y : Nat → Nat → Nat) (bs L : Nat) (xs : Nat → Int32) {p : Program} {e : Env} {s : State} {m : MethodId} {args : Array Value} {below : List Frame} {meth : Method} {c : Code} {A : Nat → Prop} {Q : State → Prop} (S : CallFix p m c cL_law 9 s args wsL_law RL) (X9 : XT A s s.heap) (hscr : Scr bs L xs A s)
    (kend : ∀ (H : Heap) (locs : List Loc) (ls : Array Slot) (cells slots : Nat), cells ≤ 600000 → slots ≤ 7000000 → va_S A s.heap H locs → W p l e room_1 s m args below meth c H locs cells slots Q (F0 m 283 ls [vI 1])) :
    ∀ (n9 : Nat) (k : Nat) (X : ST) (o n : Nat) (Y : Nat → ST) (P : PG) (M : ST) (a b : Nat) (B : Nat → ST) (Q9 : PG) (hk : k ≤ 46) (hL : LPq X o n M a b) (ht : X.2.1 4 ≤ 20 * k) (hm : 46 - k < n9) (H : Heap) (locs : List Loc) (ls : Array Slot) (hl : lv_has ls 9 [(0, .ref bs), (1, .ref (z 0 0)), (2, .ref (y 0 0)), (3, vI 1), (4, vI k)]) (w : Wd D Z A s (qW Z z X o n Y P ++ qW Z y M a b B Q9) H locs), W p l e room_1 s m args below meth c H locs (300 + 520 * k) (8000 + 3100 * k) Q (F0 m 21 ls []) := by
  intro n9
  induction n9 with
  | zero => intro k X o n Y P M a b B Q9 hk hL ht hm; exact absurd hm (Nat.not_lt_zero _)
  | succ n9 ih =>
    intro k X o n Y P M a b B Q9 hk hL ht hm H locs ls hl w
    have hX := hL.1
    have hxb0 := hX.2.2
    refine lv_iload S.1 S.2.1 dL_law_21 (lv_at hl 4 rfl) ?_
    refine lv_bipush (v := nI 46) S.1 S.2.1 dL_law_23 (by decide +kernel) ?_
    refine nv_icmp_ge S (by omega) (by omega) (tgt := 73) dL_law_25 (by decide) (fun h_1 => ?_) (fun h_1 => ?_)
    · skip
      refine lv_aload_n S.1 S.2.1 dL_law_73 rfl (lv_at hl 1 rfl) ?_
      refine lv_iconst (v := nI 4) S.1 S.2.1 dL_law_74 (ofInt_nI 4) ?_
      refine nx_nVi ([]) (qW Z y M a b B Q9) (ws' := qW Z z X o n Y P ++ qW Z y M a b B Q9) (rest := []) S w X9 hl.1 (n_value l hst D Z z X o n Y P 4 hL.1 (by decide)) (by simp only [List.nil_append, List.append_nil, List.append_assoc]) adr_q (by simp only [List.nil_append, List.append_nil, List.append_assoc]) gL_law_X7_value rfl hdV_X7_value ⟨(Nat.le_of_ble_eq_true rfl), (Nat.le_of_ble_eq_true rfl)⟩ (q0 := 0) rfl rfl rfl rfl (Nat.le_of_ble_eq_true rfl) ⟨(by show _ ≤ 600086; omega), (by show _ ≤ 7301442; omega)⟩ dL_law_75 (fun H locs w => ?_)
      refine W.eq (g2 := F0 m 78 ls [vI (X.2.1 4)]) rfl ?_
      refine lv_istore (lv' := [(4, vI (X.2.1 4)), (0, .ref bs), (1, .ref (z 0 0)), (2, .ref (y 0 0)), (3, vI 1)]) S.1 S.2.1 dL_law_78 hl (by decide) rfl (fun ls hl => ?_)
      refine lv_aload_n S.1 S.2.1 dL_law_80 rfl (lv_at hl 2 rfl) ?_
      refine lv_bipush (v := nI 25) S.1 S.2.1 dL_law_81 (by decide +kernel) ?_
      obtain ⟨v11, X11, e11, hh11, hp11⟩ := q_hash l hst D Z z hL.1 (k := 25) (by omega)
      obtain ⟨P11, hq11⟩ := hh11 o n Y P
      obtain ⟨hB11, ht11, hp11⟩ := hp11 (by omega) (by omega)
      refine nx_nVi ([]) (qW Z y M a b B Q9) (ws' := qW Z z X o n Y P11 ++ qW Z y M a b B Q9) (rest := []) S w X9 hl.1 (hq11) (by simp only [List.nil_append, List.append_nil, List.append_assoc]) adr_q (by simp only [List.nil_append, List.append_nil, List.append_assoc]) gL_law_X7_hashOf rfl hdV_X7_hashOf ⟨(Nat.le_of_ble_eq_true rfl), (Nat.le_of_ble_eq_true rfl)⟩ (q0 := 0) rfl rfl rfl rfl (Nat.le_of_ble_eq_true rfl) ⟨(by show _ ≤ 600086; omega), (by show _ ≤ 7301442; omega)⟩ dL_law_83 (fun H locs w => ?_)
      refine lv_istore (lv' := [(5, .int v11), (4, vI (X.2.1 4)), (0, .ref bs), (1, .ref (z 0 0)), (2, .ref (y 0 0)), (3, vI 1)]) S.1 S.2.1 dL_law_86 hl (by decide) rfl (fun ls hl => ?_)
      refine lv_iload_n S.1 S.2.1 dL_law_88 rfl (lv_at hl 5 rfl) ?_
      refine lv_if_eq (tgt := 148) S.1 S.2.1 dL_law_89 (by decide) (fun h9 => absurd h9 (by decide)) (fun _ => ?_)
      refine lv_aload_n S.1 S.2.1 dL_law_92 rfl (lv_at hl 3 rfl) ?_
      refine lv_bipush (v := nI 25) S.1 S.2.1 dL_law_93 (by decide +kernel) ?_
      have hxb := hB11.2.2
      refine nx_nVi ([]) (qW Z y M a b B Q9) (ws' := qW Z z X11 (svO o n) (svN n + 1) (svX o n Y X) P11 ++ qW Z y M a b B Q9) (rest := []) S w X9 hl.1 (hp11 o n Y P11 hL.2.2.2.1 hL.2.2.2.2.1) (by simp only [List.nil_append, List.append_nil, List.append_assoc]) adr_q (by simp only [List.nil_append, List.append_nil, List.append_assoc]) gL_law_X7_play rfl hdV_X7_play ⟨(Nat.le_of_ble_eq_true rfl), (Nat.le_of_ble_eq_true rfl)⟩ (q0 := 0) rfl rfl rfl rfl (Nat.le_of_ble_eq_true rfl) ⟨(by show _ ≤ 600086; omega), (by show _ ≤ 7301442; omega)⟩ dL_law_95 (fun H locs w => ?_)
      refine lv_iload S.1 S.2.1 dL_law_98 (lv_at hl 0 rfl) ?_
      refine lv_icmp_ne (tgt := 148) S.1 S.2.1 dL_law_100 (by decide) (fun h9 => absurd rfl h9) (fun _ => ?_)
      refine lv_aload_n S.1 S.2.1 dL_law_103 rfl (lv_at hl 3 rfl) ?_
      refine lv_iconst (v := nI 4) S.1 S.2.1 dL_law_104 (ofInt_nI 4) ?_
      refine nx_nVi ([]) (qW Z y M a b B Q9) (ws' := qW Z z X11 (svO o n) (svN n + 1) (svX o n Y X) P11 ++ qW Z y M a b B Q9) (rest := []) S w X9 hl.1 (n_value l hst D Z z X11 (svO o n) (svN n + 1) (svX o n Y X) P11 4 hB11 (by decide)) (by simp only [List.nil_append, List.append_nil, List.append_assoc]) adr_q (by simp only [List.nil_append, List.append_nil, List.append_assoc]) gL_law_X7_value rfl hdV_X7_value ⟨(Nat.le_of_ble_eq_true rfl), (Nat.le_of_ble_eq_true rfl)⟩ (q0 := 0) rfl rfl rfl rfl (Nat.le_of_ble_eq_true rfl) ⟨(by show _ ≤ 600086; omega), (by show _ ≤ 7301442; omega)⟩ dL_law_105 (fun H locs w => ?_)
      refine W.eq (g2 := F0 m 108 ls [vI (X11.2.1 4)]) rfl ?_
      refine lv_iload S.1 S.2.1 dL_law_108 (lv_at hl 1 rfl) ?_
      refine lv_bipush (v := nI 25) S.1 S.2.1 dL_law_110 (by decide +kernel) ?_
      refine nv_iadd S dL_law_112 ?_
      refine nv_icmp_ne S (by omega) (by omega) (tgt := 148) dL_law_113 (by decide) (fun h_3 => ?_) (fun h_3 => ?_)
      · skip
        exfalso; omega
      · skip
        refine lv_aload_n S.1 S.2.1 dL_law_116 rfl (lv_at hl 3 rfl) ?_
        have hun := n_undo l hst D Z z X11 (svO o n) (svN n + 1) (svX o n Y X) P11 (svO_lt hL.2.2.2.1) (svN_le hL.2.2.2.2.1)  (by omega)
        rw [sv_undo] at hun
        have hsn := svN_le hL.2.2.2.2.1
        refine nx_nVi ([]) (qW Z y M a b B Q9) (ws' := qW Z z X (svO o n) ((svN n + 1) - 1) (svX o n Y X) P11 ++ qW Z y M a b B Q9) (rest := []) S w X9 hl.1 (hun) (by simp only [List.nil_append, List.append_nil, List.append_assoc]) adr_q (by simp only [List.nil_append, List.append_nil, List.append_assoc]) gL_law_X7_undo rfl hdV_X7_undo ⟨(Nat.le_of_ble_eq_true rfl), (Nat.le_of_ble_eq_true rfl)⟩ (q0 := 0) rfl rfl rfl rfl (Nat.le_of_ble_eq_true rfl) ⟨(by show _ ≤ 600086; omega), (by show _ ≤ 7301442; omega)⟩ dL_law_117 (fun H locs w => ?_)
        refine nv_if_lt (tgt := 148) S (by omega) dL_law_120 (by decide) ?_
        refine lv_aload_n S.1 S.2.1 dL_law_123 rfl (lv_at hl 3 rfl) ?_
        refine lv_iconst (v := nI 4) S.1 S.2.1 dL_law_124 (ofInt_nI 4) ?_
        refine nx_nVi ([]) (qW Z y M a b B Q9) (ws' := qW Z z X (svO o n) ((svN n + 1) - 1) (svX o n Y X) P11 ++ qW Z y M a b B Q9) (rest := []) S w X9 hl.1 (n_value l hst D Z z X (svO o n) ((svN n + 1) - 1) (svX o n Y X) P11 4 hL.1 (by decide)) (by simp only [List.nil_append, List.append_nil, List.append_assoc]) adr_q (by simp only [List.nil_append, List.append_nil, List.append_assoc]) gL_law_X7_value rfl hdV_X7_value ⟨(Nat.le_of_ble_eq_true rfl), (Nat.le_of_ble_eq_true rfl)⟩ (q0 := 0) rfl rfl rfl rfl (Nat.le_of_ble_eq_true rfl) ⟨(by show _ ≤ 600086; omega), (by show _ ≤ 7301442; omega)⟩ dL_law_125 (fun H locs w => ?_)
        refine W.eq (g2 := F0 m 128 ls [vI (X.2.1 4)]) rfl ?_
        refine lv_iload S.1 S.2.1 dL_law_128 (lv_at hl 1 rfl) ?_
        refine lv_icmp_ne (tgt := 148) S.1 S.2.1 dL_law_130 (by decide) (fun h9 => absurd rfl h9) (fun _ => ?_)
        refine lv_aload_n S.1 S.2.1 dL_law_133 rfl (lv_at hl 3 rfl) ?_
        refine lv_bipush (v := nI 25) S.1 S.2.1 dL_law_134 (by decide +kernel) ?_
        obtain ⟨P12, hq12⟩ := hh11 (svO o n) ((svN n + 1) - 1) (svX o n Y X) P11
        refine nx_nVi ([]) (qW Z y M a b B Q9) (ws' := qW Z z X (svO o n) ((svN n + 1) - 1) (svX o n Y X) P12 ++ qW Z y M a b B Q9) (rest := []) S w X9 hl.1 (hq12) (by simp only [List.nil_append, List.append_nil, List.append_assoc]) adr_q (by simp only [List.nil_append, List.append_nil, List.append_assoc]) gL_law_X7_hashOf rfl hdV_X7_hashOf ⟨(Nat.le_of_ble_eq_true rfl), (Nat.le_of_ble_eq_true rfl)⟩ (q0 := 0) rfl rfl rfl rfl (Nat.le_of_ble_eq_true rfl) ⟨(by show _ ≤ 600086; omega), (by show _ ≤ 7301442; omega)⟩ dL_law_136 (fun H locs w => ?_)
        refine lv_iload S.1 S.2.1 dL_law_139 (lv_at hl 0 rfl) ?_
        refine lv_icmp_ne (tgt := 148) S.1 S.2.1 dL_law_141 (by decide) (fun h9 => absurd rfl h9) (fun _ => ?_)
        refine lv_iconst (v := nI 1) S.1 S.2.1 dL_law_144 (ofInt_nI 1) ?_
        refine lv_goto (tgt := 149) S.1 S.2.1 dL_law_145 (by decide) ?_
        refine lv_istore_n (lv' := [(3, vI 1), (5, .int v11), (4, vI (X.2.1 4)), (0, .ref bs), (1, .ref (z 0 0)), (2, .ref (y 0 0))]) S.1 S.2.1 dL_law_149 rfl hl (by decide) rfl (fun ls hl => ?_)
        refine lv_aload_n S.1 S.2.1 dL_law_150 rfl (lv_at hl 4 rfl) ?_
        obtain ⟨r, P8, hr8, hrc, hr0⟩ := q_round l D Z z (svO o n) ((svN n + 1) - 1) (svX o n Y X) P12 hL.1
        refine nv_fVi ([]) (qW Z y M a b B Q9) (ws' := qW Z z X (svO o n) ((svN n + 1) - 1) (svX o n Y X) P8 ++ qW Z y M a b B Q9) (rest := []) S w hl.1 (hrc) (by simp only [List.nil_append, List.append_nil, List.append_assoc]) adr_q (by simp only [List.nil_append, List.append_nil, List.append_assoc]) gL_law_X7_ticksToRound rfl hdV_X7_ticksToRound ⟨(Nat.le_of_ble_eq_true rfl), (Nat.le_of_ble_eq_true rfl)⟩ (q0 := 0) rfl rfl rfl rfl (Nat.le_of_ble_eq_true rfl) ⟨(by show _ ≤ 600086; omega), (by show _ ≤ 7301442; omega)⟩ dL_law_151 (fun H locs w => ?_)
        by_cases hrz : r = 0
        · skip
          refine W.eq (g2 := F0 m 154 ls [.int (-1)]) (by rw [show rtA r = -1 from if_pos hrz]) ?_
          refine lv_istore (lv' := [(6, .int (-1)), (3, vI 1), (5, .int v11), (4, vI (X.2.1 4)), (0, .ref bs), (1, .ref (z 0 0)), (2, .ref (y 0 0))]) S.1 S.2.1 dL_law_154 hl (by decide) rfl (fun ls hl => ?_)
          refine lv_aload_n S.1 S.2.1 dL_law_156 rfl (lv_at hl 5 rfl) ?_
          refine lv_iconst (v := nI 5) S.1 S.2.1 dL_law_157 (ofInt_nI 5) ?_
          refine nx_nVi ([]) (qW Z y M a b B Q9) (ws' := qW Z z X (svO o n) ((svN n + 1) - 1) (svX o n Y X) P8 ++ qW Z y M a b B Q9) (rest := []) S w X9 hl.1 (n_value l hst D Z z X (svO o n) ((svN n + 1) - 1) (svX o n Y X) P8 5 hL.1 (by decide)) (by simp only [List.nil_append, List.append_nil, List.append_assoc]) adr_q (by simp only [List.nil_append, List.append_nil, List.append_assoc]) gL_law_X7_value rfl hdV_X7_value ⟨(Nat.le_of_ble_eq_true rfl), (Nat.le_of_ble_eq_true rfl)⟩ (q0 := 0) rfl rfl rfl rfl (Nat.le_of_ble_eq_true rfl) ⟨(by show _ ≤ 600086; omega), (by show _ ≤ 7301442; omega)⟩ dL_law_158 (fun H locs w => ?_)
          refine W.eq (g2 := F0 m 161 ls [vI (X.2.1 5)]) rfl ?_
          refine lv_istore (lv' := [(7, vI (X.2.1 5)), (6, .int (-1)), (3, vI 1), (5, .int v11), (4, vI (X.2.1 4)), (0, .ref bs), (1, .ref (z 0 0)), (2, .ref (y 0 0))]) S.1 S.2.1 dL_law_161 hl (by decide) rfl (fun ls hl => ?_)
          refine lv_iload_n S.1 S.2.1 dL_law_163 rfl (lv_at hl 2 rfl) ?_
          refine lv_if_eq (tgt := 241) S.1 S.2.1 dL_law_164 (by decide) (fun h9 => absurd h9 (by decide)) (fun _ => ?_)
          refine lv_iload S.1 S.2.1 dL_law_167 (lv_at hl 1 rfl) ?_
          refine lv_if_le (tgt := 241) S.1 S.2.1 dL_law_169 (by decide) (fun _ => ?_) (fun h9 => absurd (by decide) h9)
          refine lv_aload_n S.1 S.2.1 dL_law_241 rfl (lv_at hl 6 rfl) ?_
          refine lv_iconst (v := nI 4) S.1 S.2.1 dL_law_242 (ofInt_nI 4) ?_
          refine nx_nVi ([]) (qW Z y M a b B Q9) (ws' := qW Z z X (svO o n) ((svN n + 1) - 1) (svX o n Y X) P8 ++ qW Z y M a b B Q9) (rest := []) S w X9 hl.1 (n_value l hst D Z z X (svO o n) ((svN n + 1) - 1) (svX o n Y X) P8 4 hL.1 (by decide)) (by simp only [List.nil_append, List.append_nil, List.append_assoc]) adr_q (by simp only [List.nil_append, List.append_nil, List.append_assoc]) gL_law_X7_value rfl hdV_X7_value ⟨(Nat.le_of_ble_eq_true rfl), (Nat.le_of_ble_eq_true rfl)⟩ (q0 := 0) rfl rfl rfl rfl (Nat.le_of_ble_eq_true rfl) ⟨(by show _ ≤ 600086; omega), (by show _ ≤ 7301442; omega)⟩ dL_law_243 (fun H locs w => ?_)
          refine W.eq (g2 := F0 m 246 ls [vI (X.2.1 4)]) rfl ?_
          refine lv_istore (lv' := [(8, vI (X.2.1 4)), (7, vI (X.2.1 5)), (6, .int (-1)), (3, vI 1), (5, .int v11), (4, vI (X.2.1 4)), (0, .ref bs), (1, .ref (z 0 0)), (2, .ref (y 0 0))]) S.1 S.2.1 dL_law_246 hl (by decide) rfl (fun ls hl => ?_)
          refine lv_iload_n S.1 S.2.1 dL_law_248 rfl (lv_at hl 3 rfl) ?_
          refine lv_if_eq (tgt := 282) S.1 S.2.1 dL_law_249 (by decide) (fun h9 => absurd h9 (by decide)) (fun _ => ?_)
          refine lv_aload_n S.1 S.2.1 dL_law_252 rfl (lv_at hl 7 rfl) ?_
          refine nv_fVi ([]) (qW Z y M a b B Q9) (ws' := qW Z z (X.1, gbP X.2) (svO (svO o n) ((svN n + 1) - 1)) (svN ((svN n + 1) - 1) + 1) (svX (svO o n) ((svN n + 1) - 1) (svX o n Y X) X) P8 ++ qW Z y M a b B Q9) (rest := []) S w hl.1 (n_restart l D Z z X (svO o n) ((svN n + 1) - 1) (svX o n Y X) P8 (svO_lt hL.2.2.2.1) (show svN n + 1 - 1 ≤ 4 by omega) hL.1) (by simp only [List.nil_append, List.append_nil, List.append_assoc]) adr_q (by simp only [List.nil_append, List.append_nil, List.append_assoc]) gL_law_X7_restart rfl hdV_X7_restart ⟨(Nat.le_of_ble_eq_true rfl), (Nat.le_of_ble_eq_true rfl)⟩ (q0 := 0) rfl rfl rfl rfl (Nat.le_of_ble_eq_true rfl) ⟨(by show _ ≤ 600086; omega), (by show _ ≤ 7301442; omega)⟩ dL_law_253 (fun H locs w => ?_)
          refine lv_iload S.1 S.2.1 dL_law_256 (lv_at hl 0 rfl) ?_
          refine lv_icmp_ne (tgt := 282) S.1 S.2.1 dL_law_258 (by decide) (fun h9 => absurd rfl h9) (fun _ => ?_)
          refine lv_aload_n S.1 S.2.1 dL_law_261 rfl (lv_at hl 7 rfl) ?_
          refine lv_iconst (v := nI 4) S.1 S.2.1 dL_law_262 (ofInt_nI 4) ?_
          refine nx_nVi ([]) (qW Z y M a b B Q9) (ws' := qW Z z (X.1, gbP X.2) (svO (svO o n) ((svN n + 1) - 1)) (svN ((svN n + 1) - 1) + 1) (svX (svO o n) ((svN n + 1) - 1) (svX o n Y X) X) P8 ++ qW Z y M a b B Q9) (rest := []) S w X9 hl.1 (n_value l hst D Z z (X.1, gbP X.2) (svO (svO o n) ((svN n + 1) - 1)) (svN ((svN n + 1) - 1) + 1) (svX (svO o n) ((svN n + 1) - 1) (svX o n Y X) X) P8 4 (B_gb hL.1) (by decide)) (by simp only [List.nil_append, List.append_nil, List.append_assoc]) adr_q (by simp only [List.nil_append, List.append_nil, List.append_assoc]) gL_law_X7_value rfl hdV_X7_value ⟨(Nat.le_of_ble_eq_true rfl), (Nat.le_of_ble_eq_true rfl)⟩ (q0 := 0) rfl rfl rfl rfl (Nat.le_of_ble_eq_true rfl) ⟨(by show _ ≤ 600086; omega), (by show _ ≤ 7301442; omega)⟩ dL_law_263 (fun H locs w => ?_)
          refine W.eq (g2 := F0 m 266 ls [vI 0]) rfl ?_
          refine lv_if_ne (tgt := 282) S.1 S.2.1 dL_law_266 (by decide) (fun h9 => absurd h9 (by decide)) (fun _ => ?_)
          refine lv_aload_n S.1 S.2.1 dL_law_269 rfl (lv_at hl 7 rfl) ?_
          refine lv_iconst (v := nI 3) S.1 S.2.1 dL_law_270 (ofInt_nI 3) ?_
          refine nx_nVi ([]) (qW Z y M a b B Q9) (ws' := qW Z z (X.1, gbP X.2) (svO (svO o n) ((svN n + 1) - 1)) (svN ((svN n + 1) - 1) + 1) (svX (svO o n) ((svN n + 1) - 1) (svX o n Y X) X) P8 ++ qW Z y M a b B Q9) (rest := []) S w X9 hl.1 (n_value l hst D Z z (X.1, gbP X.2) (svO (svO o n) ((svN n + 1) - 1)) (svN ((svN n + 1) - 1) + 1) (svX (svO o n) ((svN n + 1) - 1) (svX o n Y X) X) P8 3 (B_gb hL.1) (by decide)) (by simp only [List.nil_append, List.append_nil, List.append_assoc]) adr_q (by simp only [List.nil_append, List.append_nil, List.append_assoc]) gL_law_X7_value rfl hdV_X7_value ⟨(Nat.le_of_ble_eq_true rfl), (Nat.le_of_ble_eq_true rfl)⟩ (q0 := 0) rfl rfl rfl rfl (Nat.le_of_ble_eq_true rfl) ⟨(by show _ ≤ 600086; omega), (by show _ ≤ 7301442; omega)⟩ dL_law_271 (fun H locs w => ?_)
          refine W.eq (g2 := F0 m 274 ls [vI 3]) rfl ?_
          refine lv_iconst (v := nI 3) S.1 S.2.1 dL_law_274 (ofInt_nI 3) ?_
          refine nv_icmp_ne (tgt := 282) S (by decide) (by decide) dL_law_275 (by decide) (fun h9 => absurd h9 (by decide)) (fun _ => ?_)
          refine lv_iconst (v := nI 1) S.1 S.2.1 dL_law_278 (ofInt_nI 1) ?_
          refine lv_goto (tgt := 283) S.1 S.2.1 dL_law_279 (by decide) ?_
          exact kend H locs ls _ _ (by omega) (by omega) w.2.2.2.1
        · skip
          refine W.eq (g2 := F0 m 154 ls [vI r]) (by rw [show rtA r = nI r from if_neg hrz]) ?_
          have hr9 := hr0 hrz
          refine lv_istore (lv' := [(6, vI r), (3, vI 1), (5, .int v11), (4, vI (X.2.1 4)), (0, .ref bs), (1, .ref (z 0 0)), (2, .ref (y 0 0))]) S.1 S.2.1 dL_law_154 hl (by decide) rfl (fun ls hl => ?_)
          refine lv_aload_n S.1 S.2.1 dL_law_156 rfl (lv_at hl 5 rfl) ?_
          refine lv_iconst (v := nI 5) S.1 S.2.1 dL_law_157 (ofInt_nI 5) ?_
          refine nx_nVi ([]) (qW Z y M a b B Q9) (ws' := qW Z z X (svO o n) ((svN n + 1) - 1) (svX o n Y X) P8 ++ qW Z y M a b B Q9) (rest := []) S w X9 hl.1 (n_value l hst D Z z X (svO o n) ((svN n + 1) - 1) (svX o n Y X) P8 5 hL.1 (by decide)) (by simp only [List.nil_append, List.append_nil, List.append_assoc]) adr_q (by simp only [List.nil_append, List.append_nil, List.append_assoc]) gL_law_X7_value rfl hdV_X7_value ⟨(Nat.le_of_ble_eq_true rfl), (Nat.le_of_ble_eq_true rfl)⟩ (q0 := 0) rfl rfl rfl rfl (Nat.le_of_ble_eq_true rfl) ⟨(by show _ ≤ 600086; omega), (by show _ ≤ 7301442; omega)⟩ dL_law_158 (fun H locs w => ?_)
          refine W.eq (g2 := F0 m 161 ls [vI (X.2.1 5)]) rfl ?_
          refine lv_istore (lv' := [(7, vI (X.2.1 5)), (6, vI r), (3, vI 1), (5, .int v11), (4, vI (X.2.1 4)), (0, .ref bs), (1, .ref (z 0 0)), (2, .ref (y 0 0))]) S.1 S.2.1 dL_law_161 hl (by decide) rfl (fun ls hl => ?_)
          refine lv_iload_n S.1 S.2.1 dL_law_163 rfl (lv_at hl 2 rfl) ?_
          refine lv_if_eq (tgt := 241) S.1 S.2.1 dL_law_164 (by decide) (fun h9 => absurd h9 (by decide)) (fun _ => ?_)
          refine lv_iload S.1 S.2.1 dL_law_167 (lv_at hl 1 rfl) ?_
          refine nv_if_le S (by omega) (tgt := 241) dL_law_169 (by decide) (fun h_10 => ?_) (fun h_10 => ?_)
          · skip
            refine lv_aload_n S.1 S.2.1 dL_law_241 rfl (lv_at hl 6 rfl) ?_
            refine lv_iconst (v := nI 4) S.1 S.2.1 dL_law_242 (ofInt_nI 4) ?_
            refine nx_nVi ([]) (qW Z y M a b B Q9) (ws' := qW Z z X (svO o n) ((svN n + 1) - 1) (svX o n Y X) P8 ++ qW Z y M a b B Q9) (rest := []) S w X9 hl.1 (n_value l hst D Z z X (svO o n) ((svN n + 1) - 1) (svX o n Y X) P8 4 hL.1 (by decide)) (by simp only [List.nil_append, List.append_nil, List.append_assoc]) adr_q (by simp only [List.nil_append, List.append_nil, List.append_assoc]) gL_law_X7_value rfl hdV_X7_value ⟨(Nat.le_of_ble_eq_true rfl), (Nat.le_of_ble_eq_true rfl)⟩ (q0 := 0) rfl rfl rfl rfl (Nat.le_of_ble_eq_true rfl) ⟨(by show _ ≤ 600086; omega), (by show _ ≤ 7301442; omega)⟩ dL_law_243 (fun H locs w => ?_)
            refine W.eq (g2 := F0 m 246 ls [vI (X.2.1 4)]) rfl ?_
            refine lv_istore (lv' := [(8, vI (X.2.1 4)), (7, vI (X.2.1 5)), (6, vI r), (3, vI 1), (5, .int v11), (4, vI (X.2.1 4)), (0, .ref bs), (1, .ref (z 0 0)), (2, .ref (y 0 0))]) S.1 S.2.1 dL_law_246 hl (by decide) rfl (fun ls hl => ?_)
            refine lv_iload_n S.1 S.2.1 dL_law_248 rfl (lv_at hl 3 rfl) ?_
            refine lv_if_eq (tgt := 282) S.1 S.2.1 dL_law_249 (by decide) (fun h9 => absurd h9 (by decide)) (fun _ => ?_)
            refine lv_aload_n S.1 S.2.1 dL_law_252 rfl (lv_at hl 7 rfl) ?_
            refine nv_fVi ([]) (qW Z y M a b B Q9) (ws' := qW Z z (X.1, gbP X.2) (svO (svO o n) ((svN n + 1) - 1)) (svN ((svN n + 1) - 1) + 1) (svX (svO o n) ((svN n + 1) - 1) (svX o n Y X) X) P8 ++ qW Z y M a b B Q9) (rest := []) S w hl.1 (n_restart l D Z z X (svO o n) ((svN n + 1) - 1) (svX o n Y X) P8 (svO_lt hL.2.2.2.1) (show svN n + 1 - 1 ≤ 4 by omega) hL.1) (by simp only [List.nil_append, List.append_nil, List.append_assoc]) adr_q (by simp only [List.nil_append, List.append_nil, List.append_assoc]) gL_law_X7_restart rfl hdV_X7_restart ⟨(Nat.le_of_ble_eq_true rfl), (Nat.le_of_ble_eq_true rfl)⟩ (q0 := 0) rfl rfl rfl rfl (Nat.le_of_ble_eq_true rfl) ⟨(by show _ ≤ 600086; omega), (by show _ ≤ 7301442; omega)⟩ dL_law_253 (fun H locs w => ?_)
            refine lv_iload S.1 S.2.1 dL_law_256 (lv_at hl 0 rfl) ?_
            refine lv_icmp_ne (tgt := 282) S.1 S.2.1 dL_law_258 (by decide) (fun h9 => absurd rfl h9) (fun _ => ?_)
            refine lv_aload_n S.1 S.2.1 dL_law_261 rfl (lv_at hl 7 rfl) ?_
            refine lv_iconst (v := nI 4) S.1 S.2.1 dL_law_262 (ofInt_nI 4) ?_
            refine nx_nVi ([]) (qW Z y M a b B Q9) (ws' := qW Z z (X.1, gbP X.2) (svO (svO o n) ((svN n + 1) - 1)) (svN ((svN n + 1) - 1) + 1) (svX (svO o n) ((svN n + 1) - 1) (svX o n Y X) X) P8 ++ qW Z y M a b B Q9) (rest := []) S w X9 hl.1 (n_value l hst D Z z (X.1, gbP X.2) (svO (svO o n) ((svN n + 1) - 1)) (svN ((svN n + 1) - 1) + 1) (svX (svO o n) ((svN n + 1) - 1) (svX o n Y X) X) P8 4 (B_gb hL.1) (by decide)) (by simp only [List.nil_append, List.append_nil, List.append_assoc]) adr_q (by simp only [List.nil_append, List.append_nil, List.append_assoc]) gL_law_X7_value rfl hdV_X7_value ⟨(Nat.le_of_ble_eq_true rfl), (Nat.le_of_ble_eq_true rfl)⟩ (q0 := 0) rfl rfl rfl rfl (Nat.le_of_ble_eq_true rfl) ⟨(by show _ ≤ 600086; omega), (by show _ ≤ 7301442; omega)⟩ dL_law_263 (fun H locs w => ?_)
            refine W.eq (g2 := F0 m 266 ls [vI 0]) rfl ?_
            refine lv_if_ne (tgt := 282) S.1 S.2.1 dL_law_266 (by decide) (fun h9 => absurd h9 (by decide)) (fun _ => ?_)
            refine lv_aload_n S.1 S.2.1 dL_law_269 rfl (lv_at hl 7 rfl) ?_
            refine lv_iconst (v := nI 3) S.1 S.2.1 dL_law_270 (ofInt_nI 3) ?_
            refine nx_nVi ([]) (qW Z y M a b B Q9) (ws' := qW Z z (X.1, gbP X.2) (svO (svO o n) ((svN n + 1) - 1)) (svN ((svN n + 1) - 1) + 1) (svX (svO o n) ((svN n + 1) - 1) (svX o n Y X) X) P8 ++ qW Z y M a b B Q9) (rest := []) S w X9 hl.1 (n_value l hst D Z z (X.1, gbP X.2) (svO (svO o n) ((svN n + 1) - 1)) (svN ((svN n + 1) - 1) + 1) (svX (svO o n) ((svN n + 1) - 1) (svX o n Y X) X) P8 3 (B_gb hL.1) (by decide)) (by simp only [List.nil_append, List.append_nil, List.append_assoc]) adr_q (by simp only [List.nil_append, List.append_nil, List.append_assoc]) gL_law_X7_value rfl hdV_X7_value ⟨(Nat.le_of_ble_eq_true rfl), (Nat.le_of_ble_eq_true rfl)⟩ (q0 := 0) rfl rfl rfl rfl (Nat.le_of_ble_eq_true rfl) ⟨(by show _ ≤ 600086; omega), (by show _ ≤ 7301442; omega)⟩ dL_law_271 (fun H locs w => ?_)
            refine W.eq (g2 := F0 m 274 ls [vI 3]) rfl ?_
            refine lv_iconst (v := nI 3) S.1 S.2.1 dL_law_274 (ofInt_nI 3) ?_
            refine nv_icmp_ne (tgt := 282) S (by decide) (by decide) dL_law_275 (by decide) (fun h9 => absurd h9 (by decide)) (fun _ => ?_)
            refine lv_iconst (v := nI 1) S.1 S.2.1 dL_law_278 (ofInt_nI 1) ?_
            refine lv_goto (tgt := 283) S.1 S.2.1 dL_law_279 (by decide) ?_
            exact kend H locs ls _ _ (by omega) (by omega) w.2.2.2.1
          · skip
            refine lv_iload S.1 S.2.1 dL_law_172 (lv_at hl 1 rfl) ?_
            refine lv_sipush (v := nI 500) S.1 S.2.1 dL_law_174 (by decide +kernel) ?_
            refine nv_icmp_gt S (by omega) (by omega) (tgt := 241) dL_law_177 (by decide) (fun h_14 => ?_) (fun h_14 => ?_)
            · skip
              refine lv_aload_n S.1 S.2.1 dL_law_241 rfl (lv_at hl 6 rfl) ?_
              refine lv_iconst (v := nI 4) S.1 S.2.1 dL_law_242 (ofInt_nI 4) ?_
              refine nx_nVi ([]) (qW Z y M a b B Q9) (ws' := qW Z z X (svO o n) ((svN n + 1) - 1) (svX o n Y X) P8 ++ qW Z y M a b B Q9) (rest := []) S w X9 hl.1 (n_value l hst D Z z X (svO o n) ((svN n + 1) - 1) (svX o n Y X) P8 4 hL.1 (by decide)) (by simp only [List.nil_append, List.append_nil, List.append_assoc]) adr_q (by simp only [List.nil_append, List.append_nil, List.append_assoc]) gL_law_X7_value rfl hdV_X7_value ⟨(Nat.le_of_ble_eq_true rfl), (Nat.le_of_ble_eq_true rfl)⟩ (q0 := 0) rfl rfl rfl rfl (Nat.le_of_ble_eq_true rfl) ⟨(by show _ ≤ 600086; omega), (by show _ ≤ 7301442; omega)⟩ dL_law_243 (fun H locs w => ?_)
              refine W.eq (g2 := F0 m 246 ls [vI (X.2.1 4)]) rfl ?_
              refine lv_istore (lv' := [(8, vI (X.2.1 4)), (7, vI (X.2.1 5)), (6, vI r), (3, vI 1), (5, .int v11), (4, vI (X.2.1 4)), (0, .ref bs), (1, .ref (z 0 0)), (2, .ref (y 0 0))]) S.1 S.2.1 dL_law_246 hl (by decide) rfl (fun ls hl => ?_)
              refine lv_iload_n S.1 S.2.1 dL_law_248 rfl (lv_at hl 3 rfl) ?_
              refine lv_if_eq (tgt := 282) S.1 S.2.1 dL_law_249 (by decide) (fun h9 => absurd h9 (by decide)) (fun _ => ?_)
              refine lv_aload_n S.1 S.2.1 dL_law_252 rfl (lv_at hl 7 rfl) ?_
              refine nv_fVi ([]) (qW Z y M a b B Q9) (ws' := qW Z z (X.1, gbP X.2) (svO (svO o n) ((svN n + 1) - 1)) (svN ((svN n + 1) - 1) + 1) (svX (svO o n) ((svN n + 1) - 1) (svX o n Y X) X) P8 ++ qW Z y M a b B Q9) (rest := []) S w hl.1 (n_restart l D Z z X (svO o n) ((svN n + 1) - 1) (svX o n Y X) P8 (svO_lt hL.2.2.2.1) (show svN n + 1 - 1 ≤ 4 by omega) hL.1) (by simp only [List.nil_append, List.append_nil, List.append_assoc]) adr_q (by simp only [List.nil_append, List.append_nil, List.append_assoc]) gL_law_X7_restart rfl hdV_X7_restart ⟨(Nat.le_of_ble_eq_true rfl), (Nat.le_of_ble_eq_true rfl)⟩ (q0 := 0) rfl rfl rfl rfl (Nat.le_of_ble_eq_true rfl) ⟨(by show _ ≤ 600086; omega), (by show _ ≤ 7301442; omega)⟩ dL_law_253 (fun H locs w => ?_)
              refine lv_iload S.1 S.2.1 dL_law_256 (lv_at hl 0 rfl) ?_
              refine lv_icmp_ne (tgt := 282) S.1 S.2.1 dL_law_258 (by decide) (fun h9 => absurd rfl h9) (fun _ => ?_)
              refine lv_aload_n S.1 S.2.1 dL_law_261 rfl (lv_at hl 7 rfl) ?_
              refine lv_iconst (v := nI 4) S.1 S.2.1 dL_law_262 (ofInt_nI 4) ?_
              refine nx_nVi ([]) (qW Z y M a b B Q9) (ws' := qW Z z (X.1, gbP X.2) (svO (svO o n) ((svN n + 1) - 1)) (svN ((svN n + 1) - 1) + 1) (svX (svO o n) ((svN n + 1) - 1) (svX o n Y X) X) P8 ++ qW Z y M a b B Q9) (rest := []) S w X9 hl.1 (n_value l hst D Z z (X.1, gbP X.2) (svO (svO o n) ((svN n + 1) - 1)) (svN ((svN n + 1) - 1) + 1) (svX (svO o n) ((svN n + 1) - 1) (svX o n Y X) X) P8 4 (B_gb hL.1) (by decide)) (by simp only [List.nil_append, List.append_nil, List.append_assoc]) adr_q (by simp only [List.nil_append, List.append_nil, List.append_assoc]) gL_law_X7_value rfl hdV_X7_value ⟨(Nat.le_of_ble_eq_true rfl), (Nat.le_of_ble_eq_true rfl)⟩ (q0 := 0) rfl rfl rfl rfl (Nat.le_of_ble_eq_true rfl) ⟨(by show _ ≤ 600086; omega), (by show _ ≤ 7301442; omega)⟩ dL_law_263 (fun H locs w => ?_)
              refine W.eq (g2 := F0 m 266 ls [vI 0]) rfl ?_
              refine lv_if_ne (tgt := 282) S.1 S.2.1 dL_law_266 (by decide) (fun h9 => absurd h9 (by decide)) (fun _ => ?_)
              refine lv_aload_n S.1 S.2.1 dL_law_269 rfl (lv_at hl 7 rfl) ?_
              refine lv_iconst (v := nI 3) S.1 S.2.1 dL_law_270 (ofInt_nI 3) ?_
              refine nx_nVi ([]) (qW Z y M a b B Q9) (ws' := qW Z z (X.1, gbP X.2) (svO (svO o n) ((svN n + 1) - 1)) (svN ((svN n + 1) - 1) + 1) (svX (svO o n) ((svN n + 1) - 1) (svX o n Y X) X) P8 ++ qW Z y M a b B Q9) (rest := []) S w X9 hl.1 (n_value l hst D Z z (X.1, gbP X.2) (svO (svO o n) ((svN n + 1) - 1)) (svN ((svN n + 1) - 1) + 1) (svX (svO o n) ((svN n + 1) - 1) (svX o n Y X) X) P8 3 (B_gb hL.1) (by decide)) (by simp only [List.nil_append, List.append_nil, List.append_assoc]) adr_q (by simp only [List.nil_append, List.append_nil, List.append_assoc]) gL_law_X7_value rfl hdV_X7_value ⟨(Nat.le_of_ble_eq_true rfl), (Nat.le_of_ble_eq_true rfl)⟩ (q0 := 0) rfl rfl rfl rfl (Nat.le_of_ble_eq_true rfl) ⟨(by show _ ≤ 600086; omega), (by show _ ≤ 7301442; omega)⟩ dL_law_271 (fun H locs w => ?_)
              refine W.eq (g2 := F0 m 274 ls [vI 3]) rfl ?_
              refine lv_iconst (v := nI 3) S.1 S.2.1 dL_law_274 (ofInt_nI 3) ?_
              refine nv_icmp_ne (tgt := 282) S (by decide) (by decide) dL_law_275 (by decide) (fun h9 => absurd h9 (by decide)) (fun _ => ?_)
              refine lv_iconst (v := nI 1) S.1 S.2.1 dL_law_278 (ofInt_nI 1) ?_
              refine lv_goto (tgt := 283) S.1 S.2.1 dL_law_279 (by decide) ?_
              exact kend H locs ls _ _ (by omega) (by omega) w.2.2.2.1
            · skip
              refine lv_aload_n S.1 S.2.1 dL_law_180 rfl (lv_at hl 6 rfl) ?_
              refine lv_iload S.1 S.2.1 dL_law_181 (lv_at hl 1 rfl) ?_
              obtain ⟨v13, X13, e13, hh13, hp13⟩ := q_hash l hst D Z z hL.1 (k := r) (by omega)
              obtain ⟨P13, hq13⟩ := hh13 (svO o n) ((svN n + 1) - 1) (svX o n Y X) P8
              obtain ⟨hB13, ht13, hp13⟩ := hp13 (by omega) (by omega)
              refine nx_nVi ([]) (qW Z y M a b B Q9) (ws' := qW Z z X (svO o n) ((svN n + 1) - 1) (svX o n Y X) P13 ++ qW Z y M a b B Q9) (rest := []) S w X9 hl.1 (hq13) (by simp only [List.nil_append, List.append_nil, List.append_assoc]) adr_q (by simp only [List.nil_append, List.append_nil, List.append_assoc]) gL_law_X7_hashOf rfl hdV_X7_hashOf ⟨(Nat.le_of_ble_eq_true rfl), (Nat.le_of_ble_eq_true rfl)⟩ (q0 := 0) rfl rfl rfl rfl (Nat.le_of_ble_eq_true rfl) ⟨(by show _ ≤ 600086; omega), (by show _ ≤ 7301442; omega)⟩ dL_law_183 (fun H locs w => ?_)
              refine lv_istore (lv' := [(8, .int v13), (7, vI (X.2.1 5)), (6, vI r), (3, vI 1), (5, .int v11), (4, vI (X.2.1 4)), (0, .ref bs), (1, .ref (z 0 0)), (2, .ref (y 0 0))]) S.1 S.2.1 dL_law_186 hl (by decide) rfl (fun ls hl => ?_)
              refine lv_aload_n S.1 S.2.1 dL_law_188 rfl (lv_at hl 7 rfl) ?_
              refine lv_iload S.1 S.2.1 dL_law_189 (lv_at hl 2 rfl) ?_
              have hk5 : X13.2.1 5 = X.2.1 5 + 1 := by rw [e13]; exact hr9.2.1
              have hk0 : X13.2.1 0 = 0 := by rw [e13]; exact hr9.2.2.1
              have hk1 : X13.2.1 1 = 0 := by rw [e13]; exact hr9.2.2.2.1
              have hk2 : X13.2.1 2 = 0 := by rw [e13]; exact hr9.2.2.2.2
              have hxb := hB13.2.2
              refine nx_nVi ([]) (qW Z y M a b B Q9) (ws' := qW Z z X13 (svO (svO o n) ((svN n + 1) - 1)) (svN ((svN n + 1) - 1) + 1) (svX (svO o n) ((svN n + 1) - 1) (svX o n Y X) X) P13 ++ qW Z y M a b B Q9) (rest := []) S w X9 hl.1 (hp13 (svO o n) ((svN n + 1) - 1) (svX o n Y X) P13 (svO_lt hL.2.2.2.1) (show svN n + 1 - 1 ≤ 4 by omega)) (by simp only [List.nil_append, List.append_nil, List.append_assoc]) adr_q (by simp only [List.nil_append, List.append_nil, List.append_assoc]) gL_law_X7_play rfl hdV_X7_play ⟨(Nat.le_of_ble_eq_true rfl), (Nat.le_of_ble_eq_true rfl)⟩ (q0 := 0) rfl rfl rfl rfl (Nat.le_of_ble_eq_true rfl) ⟨(by show _ ≤ 600086; omega), (by show _ ≤ 7301442; omega)⟩ dL_law_191 (fun H locs w => ?_)
              refine lv_iload S.1 S.2.1 dL_law_194 (lv_at hl 0 rfl) ?_
              refine lv_icmp_ne (tgt := 239) S.1 S.2.1 dL_law_196 (by decide) (fun h9 => absurd rfl h9) (fun _ => ?_)
              refine lv_aload_n S.1 S.2.1 dL_law_199 rfl (lv_at hl 7 rfl) ?_
              refine lv_iconst (v := nI 5) S.1 S.2.1 dL_law_200 (ofInt_nI 5) ?_
              refine nx_nVi ([]) (qW Z y M a b B Q9) (ws' := qW Z z X13 (svO (svO o n) ((svN n + 1) - 1)) (svN ((svN n + 1) - 1) + 1) (svX (svO o n) ((svN n + 1) - 1) (svX o n Y X) X) P13 ++ qW Z y M a b B Q9) (rest := []) S w X9 hl.1 (n_value l hst D Z z X13 (svO (svO o n) ((svN n + 1) - 1)) (svN ((svN n + 1) - 1) + 1) (svX (svO o n) ((svN n + 1) - 1) (svX o n Y X) X) P13 5 hB13 (by decide)) (by simp only [List.nil_append, List.append_nil, List.append_assoc]) adr_q (by simp only [List.nil_append, List.append_nil, List.append_assoc]) gL_law_X7_value rfl hdV_X7_value ⟨(Nat.le_of_ble_eq_true rfl), (Nat.le_of_ble_eq_true rfl)⟩ (q0 := 0) rfl rfl rfl rfl (Nat.le_of_ble_eq_true rfl) ⟨(by show _ ≤ 600086; omega), (by show _ ≤ 7301442; omega)⟩ dL_law_201 (fun H locs w => ?_)
              refine W.eq (g2 := F0 m 204 ls [vI (X13.2.1 5)]) rfl ?_
              refine lv_iload S.1 S.2.1 dL_law_204 (lv_at hl 1 rfl) ?_
              refine lv_iconst (v := nI 1) S.1 S.2.1 dL_law_206 (ofInt_nI 1) ?_
              refine nv_iadd S dL_law_207 ?_
              refine nv_icmp_ne S (by omega) (by omega) (tgt := 239) dL_law_208 (by decide) (fun h_18 => ?_) (fun h_18 => ?_)
              · skip
                exfalso; omega
              · skip
                refine lv_aload_n S.1 S.2.1 dL_law_211 rfl (lv_at hl 7 rfl) ?_
                refine lv_iconst (v := nI 0) S.1 S.2.1 dL_law_212 (ofInt_nI 0) ?_
                refine nx_nVi ([]) (qW Z y M a b B Q9) (ws' := qW Z z X13 (svO (svO o n) ((svN n + 1) - 1)) (svN ((svN n + 1) - 1) + 1) (svX (svO o n) ((svN n + 1) - 1) (svX o n Y X) X) P13 ++ qW Z y M a b B Q9) (rest := []) S w X9 hl.1 (n_value l hst D Z z X13 (svO (svO o n) ((svN n + 1) - 1)) (svN ((svN n + 1) - 1) + 1) (svX (svO o n) ((svN n + 1) - 1) (svX o n Y X) X) P13 0 hB13 (by decide)) (by simp only [List.nil_append, List.append_nil, List.append_assoc]) adr_q (by simp only [List.nil_append, List.append_nil, List.append_assoc]) gL_law_X7_value rfl hdV_X7_value ⟨(Nat.le_of_ble_eq_true rfl), (Nat.le_of_ble_eq_true rfl)⟩ (q0 := 0) rfl rfl rfl rfl (Nat.le_of_ble_eq_true rfl) ⟨(by show _ ≤ 600086; omega), (by show _ ≤ 7301442; omega)⟩ dL_law_213 (fun H locs w => ?_)
                refine W.eq (g2 := F0 m 216 ls [vI (X13.2.1 0)]) rfl ?_
                refine nv_if_ne S (by omega) (tgt := 239) dL_law_216 (by decide) (fun h_19 => ?_) (fun h_19 => ?_)
                · skip
                  exfalso; omega
                · skip
                  refine lv_aload_n S.1 S.2.1 dL_law_219 rfl (lv_at hl 7 rfl) ?_
                  refine lv_iconst (v := nI 1) S.1 S.2.1 dL_law_220 (ofInt_nI 1) ?_
                  refine nx_nVi ([]) (qW Z y M a b B Q9) (ws' := qW Z z X13 (svO (svO o n) ((svN n + 1) - 1)) (svN ((svN n + 1) - 1) + 1) (svX (svO o n) ((svN n + 1) - 1) (svX o n Y X) X) P13 ++ qW Z y M a b B Q9) (rest := []) S w X9 hl.1 (n_value l hst D Z z X13 (svO (svO o n) ((svN n + 1) - 1)) (svN ((svN n + 1) - 1) + 1) (svX (svO o n) ((svN n + 1) - 1) (svX o n Y X) X) P13 1 hB13 (by decide)) (by simp only [List.nil_append, List.append_nil, List.append_assoc]) adr_q (by simp only [List.nil_append, List.append_nil, List.append_assoc]) gL_law_X7_value rfl hdV_X7_value ⟨(Nat.le_of_ble_eq_true rfl), (Nat.le_of_ble_eq_true rfl)⟩ (q0 := 0) rfl rfl rfl rfl (Nat.le_of_ble_eq_true rfl) ⟨(by show _ ≤ 600086; omega), (by show _ ≤ 7301442; omega)⟩ dL_law_221 (fun H locs w => ?_)
                  refine W.eq (g2 := F0 m 224 ls [vI (X13.2.1 1)]) rfl ?_
                  refine nv_if_ne S (by omega) (tgt := 239) dL_law_224 (by decide) (fun h_20 => ?_) (fun h_20 => ?_)
                  · skip
                    exfalso; omega
                  · skip
                    refine lv_aload_n S.1 S.2.1 dL_law_227 rfl (lv_at hl 7 rfl) ?_
                    refine lv_iconst (v := nI 2) S.1 S.2.1 dL_law_228 (ofInt_nI 2) ?_
                    refine nx_nVi ([]) (qW Z y M a b B Q9) (ws' := qW Z z X13 (svO (svO o n) ((svN n + 1) - 1)) (svN ((svN n + 1) - 1) + 1) (svX (svO o n) ((svN n + 1) - 1) (svX o n Y X) X) P13 ++ qW Z y M a b B Q9) (rest := []) S w X9 hl.1 (n_value l hst D Z z X13 (svO (svO o n) ((svN n + 1) - 1)) (svN ((svN n + 1) - 1) + 1) (svX (svO o n) ((svN n + 1) - 1) (svX o n Y X) X) P13 2 hB13 (by decide)) (by simp only [List.nil_append, List.append_nil, List.append_assoc]) adr_q (by simp only [List.nil_append, List.append_nil, List.append_assoc]) gL_law_X7_value rfl hdV_X7_value ⟨(Nat.le_of_ble_eq_true rfl), (Nat.le_of_ble_eq_true rfl)⟩ (q0 := 0) rfl rfl rfl rfl (Nat.le_of_ble_eq_true rfl) ⟨(by show _ ≤ 600086; omega), (by show _ ≤ 7301442; omega)⟩ dL_law_229 (fun H locs w => ?_)
                    refine W.eq (g2 := F0 m 232 ls [vI (X13.2.1 2)]) rfl ?_
                    refine nv_if_ne S (by omega) (tgt := 239) dL_law_232 (by decide) (fun h_21 => ?_) (fun h_21 => ?_)
                    · skip
                      exfalso; omega
                    · skip
                      refine lv_iconst (v := nI 1) S.1 S.2.1 dL_law_235 (ofInt_nI 1) ?_
                      refine lv_goto (tgt := 240) S.1 S.2.1 dL_law_236 (by decide) ?_
                      refine lv_istore_n (lv' := [(3, vI 1), (8, .int v13), (7, vI (X.2.1 5)), (6, vI r), (5, .int v11), (4, vI (X.2.1 4)), (0, .ref bs), (1, .ref (z 0 0)), (2, .ref (y 0 0))]) S.1 S.2.1 dL_law_240 rfl hl (by decide) rfl (fun ls hl => ?_)
                      refine lv_aload_n S.1 S.2.1 dL_law_241 rfl (lv_at hl 7 rfl) ?_
                      refine lv_iconst (v := nI 4) S.1 S.2.1 dL_law_242 (ofInt_nI 4) ?_
                      refine nx_nVi ([]) (qW Z y M a b B Q9) (ws' := qW Z z X13 (svO (svO o n) ((svN n + 1) - 1)) (svN ((svN n + 1) - 1) + 1) (svX (svO o n) ((svN n + 1) - 1) (svX o n Y X) X) P13 ++ qW Z y M a b B Q9) (rest := []) S w X9 hl.1 (n_value l hst D Z z X13 (svO (svO o n) ((svN n + 1) - 1)) (svN ((svN n + 1) - 1) + 1) (svX (svO o n) ((svN n + 1) - 1) (svX o n Y X) X) P13 4 hB13 (by decide)) (by simp only [List.nil_append, List.append_nil, List.append_assoc]) adr_q (by simp only [List.nil_append, List.append_nil, List.append_assoc]) gL_law_X7_value rfl hdV_X7_value ⟨(Nat.le_of_ble_eq_true rfl), (Nat.le_of_ble_eq_true rfl)⟩ (q0 := 0) rfl rfl rfl rfl (Nat.le_of_ble_eq_true rfl) ⟨(by show _ ≤ 600086; omega), (by show _ ≤ 7301442; omega)⟩ dL_law_243 (fun H locs w => ?_)
                      refine W.eq (g2 := F0 m 246 ls [vI (X13.2.1 4)]) rfl ?_
                      refine lv_istore (lv' := [(8, vI (X13.2.1 4)), (3, vI 1), (7, vI (X.2.1 5)), (6, vI r), (5, .int v11), (4, vI (X.2.1 4)), (0, .ref bs), (1, .ref (z 0 0)), (2, .ref (y 0 0))]) S.1 S.2.1 dL_law_246 hl (by decide) rfl (fun ls hl => ?_)
                      refine lv_iload_n S.1 S.2.1 dL_law_248 rfl (lv_at hl 1 rfl) ?_
                      refine lv_if_eq (tgt := 282) S.1 S.2.1 dL_law_249 (by decide) (fun h9 => absurd h9 (by decide)) (fun _ => ?_)
                      refine lv_aload_n S.1 S.2.1 dL_law_252 rfl (lv_at hl 7 rfl) ?_
                      refine nv_fVi ([]) (qW Z y M a b B Q9) (ws' := qW Z z (X13.1, gbP X13.2) (svO (svO (svO o n) ((svN n + 1) - 1)) (svN ((svN n + 1) - 1) + 1)) (svN (svN ((svN n + 1) - 1) + 1) + 1) (svX (svO (svO o n) ((svN n + 1) - 1)) (svN ((svN n + 1) - 1) + 1) (svX (svO o n) ((svN n + 1) - 1) (svX o n Y X) X) X13) P13 ++ qW Z y M a b B Q9) (rest := []) S w hl.1 (n_restart l D Z z X13 (svO (svO o n) ((svN n + 1) - 1)) (svN ((svN n + 1) - 1) + 1) (svX (svO o n) ((svN n + 1) - 1) (svX o n Y X) X) P13 (svO_lt (svO_lt hL.2.2.2.1)) (svN_le (show svN n + 1 - 1 ≤ 4 by omega)) hB13) (by simp only [List.nil_append, List.append_nil, List.append_assoc]) adr_q (by simp only [List.nil_append, List.append_nil, List.append_assoc]) gL_law_X7_restart rfl hdV_X7_restart ⟨(Nat.le_of_ble_eq_true rfl), (Nat.le_of_ble_eq_true rfl)⟩ (q0 := 0) rfl rfl rfl rfl (Nat.le_of_ble_eq_true rfl) ⟨(by show _ ≤ 600086; omega), (by show _ ≤ 7301442; omega)⟩ dL_law_253 (fun H locs w => ?_)
                      refine lv_iload S.1 S.2.1 dL_law_256 (lv_at hl 0 rfl) ?_
                      refine lv_icmp_ne (tgt := 282) S.1 S.2.1 dL_law_258 (by decide) (fun h9 => absurd rfl h9) (fun _ => ?_)
                      refine lv_aload_n S.1 S.2.1 dL_law_261 rfl (lv_at hl 7 rfl) ?_
                      refine lv_iconst (v := nI 4) S.1 S.2.1 dL_law_262 (ofInt_nI 4) ?_
                      refine nx_nVi ([]) (qW Z y M a b B Q9) (ws' := qW Z z (X13.1, gbP X13.2) (svO (svO (svO o n) ((svN n + 1) - 1)) (svN ((svN n + 1) - 1) + 1)) (svN (svN ((svN n + 1) - 1) + 1) + 1) (svX (svO (svO o n) ((svN n + 1) - 1)) (svN ((svN n + 1) - 1) + 1) (svX (svO o n) ((svN n + 1) - 1) (svX o n Y X) X) X13) P13 ++ qW Z y M a b B Q9) (rest := []) S w X9 hl.1 (n_value l hst D Z z (X13.1, gbP X13.2) (svO (svO (svO o n) ((svN n + 1) - 1)) (svN ((svN n + 1) - 1) + 1)) (svN (svN ((svN n + 1) - 1) + 1) + 1) (svX (svO (svO o n) ((svN n + 1) - 1)) (svN ((svN n + 1) - 1) + 1) (svX (svO o n) ((svN n + 1) - 1) (svX o n Y X) X) X13) P13 4 (B_gb hB13) (by decide)) (by simp only [List.nil_append, List.append_nil, List.append_assoc]) adr_q (by simp only [List.nil_append, List.append_nil, List.append_assoc]) gL_law_X7_value rfl hdV_X7_value ⟨(Nat.le_of_ble_eq_true rfl), (Nat.le_of_ble_eq_true rfl)⟩ (q0 := 0) rfl rfl rfl rfl (Nat.le_of_ble_eq_true rfl) ⟨(by show _ ≤ 600086; omega), (by show _ ≤ 7301442; omega)⟩ dL_law_263 (fun H locs w => ?_)
                      refine W.eq (g2 := F0 m 266 ls [vI 0]) rfl ?_
                      refine lv_if_ne (tgt := 282) S.1 S.2.1 dL_law_266 (by decide) (fun h9 => absurd h9 (by decide)) (fun _ => ?_)
                      refine lv_aload_n S.1 S.2.1 dL_law_269 rfl (lv_at hl 7 rfl) ?_
                      refine lv_iconst (v := nI 3) S.1 S.2.1 dL_law_270 (ofInt_nI 3) ?_
                      refine nx_nVi ([]) (qW Z y M a b B Q9) (ws' := qW Z z (X13.1, gbP X13.2) (svO (svO (svO o n) ((svN n + 1) - 1)) (svN ((svN n + 1) - 1) + 1)) (svN (svN ((svN n + 1) - 1) + 1) + 1) (svX (svO (svO o n) ((svN n + 1) - 1)) (svN ((svN n + 1) - 1) + 1) (svX (svO o n) ((svN n + 1) - 1) (svX o n Y X) X) X13) P13 ++ qW Z y M a b B Q9) (rest := []) S w X9 hl.1 (n_value l hst D Z z (X13.1, gbP X13.2) (svO (svO (svO o n) ((svN n + 1) - 1)) (svN ((svN n + 1) - 1) + 1)) (svN (svN ((svN n + 1) - 1) + 1) + 1) (svX (svO (svO o n) ((svN n + 1) - 1)) (svN ((svN n + 1) - 1) + 1) (svX (svO o n) ((svN n + 1) - 1) (svX o n Y X) X) X13) P13 3 (B_gb hB13) (by decide)) (by simp only [List.nil_append, List.append_nil, List.append_assoc]) adr_q (by simp only [List.nil_append, List.append_nil, List.append_assoc]) gL_law_X7_value rfl hdV_X7_value ⟨(Nat.le_of_ble_eq_true rfl), (Nat.le_of_ble_eq_true rfl)⟩ (q0 := 0) rfl rfl rfl rfl (Nat.le_of_ble_eq_true rfl) ⟨(by show _ ≤ 600086; omega), (by show _ ≤ 7301442; omega)⟩ dL_law_271 (fun H locs w => ?_)
                      refine W.eq (g2 := F0 m 274 ls [vI 3]) rfl ?_
                      refine lv_iconst (v := nI 3) S.1 S.2.1 dL_law_274 (ofInt_nI 3) ?_
                      refine nv_icmp_ne (tgt := 282) S (by decide) (by decide) dL_law_275 (by decide) (fun h9 => absurd h9 (by decide)) (fun _ => ?_)
                      refine lv_iconst (v := nI 1) S.1 S.2.1 dL_law_278 (ofInt_nI 1) ?_
                      refine lv_goto (tgt := 283) S.1 S.2.1 dL_law_279 (by decide) ?_
                      exact kend H locs ls _ _ (by omega) (by omega) w.2.2.2.1
    · skip
      refine lv_iload_n S.1 S.2.1 dL_law_28 rfl (lv_at hl 3 rfl) ?_
      refine lv_if_eq (tgt := 73) S.1 S.2.1 dL_law_29 (by decide) (fun h9 => absurd h9 (by decide)) (fun _ => ?_)
      refine lv_aload_n S.1 S.2.1 dL_law_32 rfl (lv_at hl 1 rfl) ?_
      refine lv_aload_n S.1 S.2.1 dL_law_33 rfl (lv_at hl 2 rfl) ?_
      refine lv_aload_n S.1 S.2.1 dL_law_34 rfl (lv_at hl 0 rfl) ?_
      refine lv_iload S.1 S.2.1 dL_law_35 (lv_at hl 4 rfl) ?_
      refine nr_cell (rest := [.ref (y 0 0), .ref (z 0 0)]) S w hscr hl.1 (c_L_cell l bs L xs k hscr.2.2.2 (by omega)) gL_law_L_cell ⟨(Nat.le_of_ble_eq_true rfl), (Nat.le_of_ble_eq_true rfl)⟩ (Nat.le_of_ble_eq_true rfl) ⟨(by show _ ≤ 600086; omega), (by show _ ≤ 7301442; omega)⟩ dL_law_37 (fun x14 H locs w => ?_)
      refine nr_S [] [] (rest := []) S w X9 hl.1 (c_L_isStep l hst D Z z y X o n Y P M a b B Q9 x14 hL (by omega)) (by simp only [List.nil_append, List.append_nil, List.append_assoc]) (fun u => adr_zb) gL_law_L_isStep rfl hdS_L_isStep ⟨(Nat.le_of_ble_eq_true rfl), (Nat.le_of_ble_eq_true rfl)⟩ rfl rfl (Nat.le_of_ble_eq_true rfl) ⟨(by show _ ≤ 600086; omega), (by show _ ≤ 7301442; omega)⟩ dL_law_40 (fun u9 hu9 H locs w => ?_)
      obtain ⟨X15, o15, n15, Y15, P15, M15, a15, b15, B15, Q15⟩ := u9
      have hL15 : LPq X15 o15 n15 M15 a15 b15 := hu9.1
      have ht15 : X15.2.1 4 ≤ X.2.1 4 + 20 := hu9.2
      have w := w.as (ws' := qW Z z X15 o15 n15 Y15 P15 ++ qW Z y M15 a15 b15 B15 Q15) (nilapp.trans rfl)
      refine lv_if_eq (tgt := 65) S.1 S.2.1 dL_law_43 (by decide) (fun h9 => absurd h9 (by decide)) (fun _ => ?_)
      refine lv_aload_n S.1 S.2.1 dL_law_46 rfl (lv_at hl 1 rfl) ?_
      refine lv_aload_n S.1 S.2.1 dL_law_47 rfl (lv_at hl 2 rfl) ?_
      refine nr_S [] [] (rest := []) S w X9 hl.1 (c_L_areAlike l hst D Z z y X15 o15 n15 Y15 P15 M15 a15 b15 B15 Q15 hL15) (by simp only [List.nil_append, List.append_nil, List.append_assoc]) (fun u => adr_pq) gL_law_L_areAlike rfl hdS_L_areAlike ⟨(Nat.le_of_ble_eq_true rfl), (Nat.le_of_ble_eq_true rfl)⟩ rfl rfl (Nat.le_of_ble_eq_true rfl) ⟨(by show _ ≤ 600086; omega), (by show _ ≤ 7301442; omega)⟩ dL_law_48 (fun u9 hu9 H locs w => ?_)
      obtain ⟨P16, Q16⟩ := u9
      have w := w.as (ws' := qW Z z X15 o15 n15 Y15 P16 ++ qW Z y M15 a15 b15 B15 Q16) (nilapp.trans rfl)
      refine lv_if_eq (tgt := 65) S.1 S.2.1 dL_law_51 (by decide) (fun h9 => absurd h9 (by decide)) (fun _ => ?_)
      refine lv_aload_n S.1 S.2.1 dL_law_54 rfl (lv_at hl 1 rfl) ?_
      refine nr_S [] (qW Z y M15 a15 b15 B15 Q16) (rest := []) S w X9 hl.1 (c_L_isSound l hst D Z z X15 o15 n15 Y15 P16 hL15.1) rfl (fun u => adr_q) gL_law_L_isSound rfl hdS_L_isSound ⟨(Nat.le_of_ble_eq_true rfl), (Nat.le_of_ble_eq_true rfl)⟩ rfl rfl (Nat.le_of_ble_eq_true rfl) ⟨(by show _ ≤ 600086; omega), (by show _ ≤ 7301442; omega)⟩ dL_law_55 (fun u9 hu9 H locs w => ?_)
      have w := w.as (ws' := qW Z z X15 o15 n15 Y15 P16 ++ qW Z y M15 a15 b15 B15 Q16) rfl
      refine lv_if_eq (tgt := 65) S.1 S.2.1 dL_law_58 (by decide) (fun h9 => absurd h9 (by decide)) (fun _ => ?_)
      refine lv_iconst (v := nI 1) S.1 S.2.1 dL_law_61 (ofInt_nI 1) ?_
      refine lv_goto (tgt := 66) S.1 S.2.1 dL_law_62 (by decide) ?_
      refine lv_istore_n (lv' := [(3, vI 1), (0, .ref bs), (1, .ref (z 0 0)), (2, .ref (y 0 0)), (4, vI k)]) S.1 S.2.1 dL_law_66 rfl hl (by decide) rfl (fun ls hl => ?_)
      refine lv_iinc (v := nI (k + 1)) (lv' := [(4, vI (k + 1)), (3, vI 1), (0, .ref bs), (1, .ref (z 0 0)), (2, .ref (y 0 0))]) S.1 S.2.1 dL_law_67 hl (k := 4) rfl (nI_incI k 1) (by decide) rfl (fun ls hl => ?_)
      refine lv_goto (tgt := 21) S.1 S.2.1 dL_law_70 (by decide) ?_
      refine W.widen (k := 300 + 520 * (k + 1)) (n := 8000 + 3100 * (k + 1)) (by omega) (by omega) ?_
      exact ih (k + 1) X15 o15 n15 Y15 P16 M15 a15 b15 B15 Q16 (by omega) hL15 (by omega) (by omega) _ _ _ (lv_sub hl [2, 3, 4, 1, 0] rfl) w
