theorem hdS_L_play : yL_play.cls ≠ "java/lang/invoke/MethodHandle" ∧ yL_play.cls ≠ "java/lang/invoke/VarHandle" ∧ (parseMethodDescriptor yL_play.desc).map (fun d => d.parameters.length) = some 3 := by decide +kernel
theorem hdV_X8_play : yX8_play.cls = RX8 ∧ yX8_play.cls ≠ "java/lang/invoke/MethodHandle" ∧ yX8_play.cls ≠ "java/lang/invoke/VarHandle" ∧ (parseMethodDescriptor yX8_play.desc).map (fun d => d.parameters.length) = some 1 := by decide +kernel
set_option maxRecDepth 100000 in
set_option maxHeartbeats 4000000 in
theorem cs_8 (l : Launch) (hst : l.stackTraces = false) (D : va_G) (Z : Nat → ClassId) (z : Nat → Nat → Nat) (b : Nat → Nat) (qo bs L : Nat) (xs : Nat → Int32) {p : Program} {e : Env} {s : State} {m : MethodId} {args : Array Value} {below : List Frame} {meth : Method} {c : Code} {A : Nat → Prop} {Q : State → Prop} (S : CallFix p m c cL_law 9 s args wsL_law RL) (X9 : XT A s s.heap) (hnc : NC s) (hscr : Scr bs L xs A s) (i : Nat) (hi : i + 6 ≤ L) (T : LawS) (hI : LI T) (H : Heap) (locs : List Loc) (ls : Array Slot) (cells slots : Nat) (hcl : cells + 3 ≤ 601024) (hsl : slots + 18 ≤ 7293034) (hl : lv_has ls 9 [(0, .ref bs), (1, .ref (z 0 0)), (2, .ref (b 0)), (3, .ref qo), (4, vI i)]) (w : Wd D Z A s (czW Z z T ++ joW Z qo T.fo ++ mdW Z b T) H locs) (kk : ∀ (T2 : LawS) (H2 : Heap) (locs2 : List Loc) (ls2 : Array Slot), LI T2 → lv_has ls2 9 [(0, .ref bs), (1, .ref (z 0 0)), (2, .ref (b 0)), (3, .ref qo), (4, vI i)] → Wd D Z A s (czW Z z T2 ++ joW Z qo T2.fo ++ mdW Z b T2) H2 locs2 → W p l e room_1 s m args below meth c H2 locs2 (cells + 3) (slots + 18) Q (F0 m 1543 ls2 [])) : W p l e room_1 s m args below meth c H locs cells slots Q (F0 m 760 ls []) := by
  refine lv_aload_n S.1 S.2.1 dL_law_760 rfl (lv_at hl 1 rfl) ?_
  refine lv_aload_n S.1 S.2.1 dL_law_761 rfl (lv_at hl 0 rfl) ?_
  refine lv_iload S.1 S.2.1 dL_law_762 (lv_at hl 4 rfl) ?_
  refine lv_iconst (v := nI 1) S.1 S.2.1 dL_law_764 (ofInt_nI 1) ?_
  refine nv_iadd S dL_law_765 ?_
  refine nl_sld S w hscr (i := (i + 1)) (by omega) dL_law_766 ?_
  refine lv_aload_n S.1 S.2.1 dL_law_767 rfl (lv_at hl 3 rfl) ?_
  obtain ⟨K, N, T2, hI2, hth, hK2, hfo, hc, hm⟩ := pr_play l hst D Z z b qo T hI (xs (i + 1))
  refine nl_h (rest := []) S w X9 hnc hl.1 hc adr_jo gL_law_L_play rfl hdS_L_play ⟨(Nat.le_of_ble_eq_true rfl), (Nat.le_of_ble_eq_true rfl)⟩ rfl rfl (Nat.le_of_ble_eq_true rfl) ⟨Nat.le_trans (show cells + 2 ≤ cells + 3 by omega) hcl, Nat.le_trans (show slots + 12 ≤ slots + 18 by omega) hsl⟩ dL_law_768 (fun H locs w => ?_)
  refine lv_istore (lv' := [(5, vI K), (0, .ref bs), (1, .ref (z 0 0)), (2, .ref (b 0)), (3, .ref qo), (4, vI i)]) S.1 S.2.1 dL_law_771 hl (by decide) rfl (fun ls hl => ?_)
  refine lv_aload_n S.1 S.2.1 dL_law_773 rfl (lv_at hl 3 rfl) ?_
  refine lv_aload_n S.1 S.2.1 dL_law_774 rfl (lv_at hl 1 rfl) ?_
  refine lv_iload S.1 S.2.1 dL_law_775 (lv_at hl 5 rfl) ?_
  refine lv_iconst (v := nI 1) S.1 S.2.1 dL_law_777 (ofInt_nI 1) ?_
  refine nv_iadd S dL_law_778 ?_
  refine nl_sld S w hscr (i := (i + 1)) (by omega) dL_law_779 ?_
  refine nv_fVi (czW Z z T2 ++ joW Z qo T2.fo) [] (ws' := czW Z z T2 ++ joW Z qo T2.fo ++ mdW Z b T2) (rest := []) S w hl.1 hm (by simp only [List.append_nil]) adr_md (by simp only [List.append_nil]) gL_law_X8_play rfl hdV_X8_play ⟨(Nat.le_of_ble_eq_true rfl), (Nat.le_of_ble_eq_true rfl)⟩ (q0 := 0) rfl rfl rfl rfl (Nat.le_of_ble_eq_true rfl) ⟨Nat.le_trans (show cells + 2 ≤ cells + 3 by omega) hcl, Nat.le_trans (show slots + 12 ≤ slots + 18 by omega) hsl⟩ dL_law_780 (fun H locs w => ?_)
  refine lv_istore (lv' := [(6, .int N), (5, vI K), (0, .ref bs), (1, .ref (z 0 0)), (2, .ref (b 0)), (3, .ref qo), (4, vI i)]) S.1 S.2.1 dL_law_783 hl (by decide) rfl (fun ls hl => ?_)
  refine lv_aload_n S.1 S.2.1 dL_law_785 rfl (lv_at hl 4 rfl) ?_
  refine nv_gVi (wc := mdW Z b T2) (czW Z z T2 ++ joW Z qo T2.fo) [] (rest := []) S w hl.1 (c_X8_thrown l D Z b T2.M T2.sv T2.sd T2.n T2.th T2.tl T2.pl T2.ro T2.nu T2.t T2.r) (by simp only [List.append_nil]) gL_law_X8_thrown rfl hdV_X8_thrown ⟨(Nat.le_of_ble_eq_true rfl), (Nat.le_of_ble_eq_true rfl)⟩ (q0 := 0) rfl rfl rfl rfl (Nat.le_of_ble_eq_true rfl) ⟨Nat.le_trans (show cells + 2 ≤ cells + 3 by omega) hcl, Nat.le_trans (show slots + 12 ≤ slots + 18 by omega) hsl⟩ dL_law_786 (fun H locs w => ?_)
  refine W.eq (g2 := F0 m 789 ls [vI K]) (by rw [hth]) ?_
  refine lv_iload S.1 S.2.1 dL_law_789 (lv_at hl 1 rfl) ?_
  refine lv_icmp_eq (tgt := 796) S.1 S.2.1 dL_law_791 (by decide) (fun _ => ?_) (fun h9 => absurd rfl h9)
  refine lv_iload S.1 S.2.1 dL_law_796 (lv_at hl 1 rfl) ?_
  refine nv_if_ne S (by omega) (tgt := 813) dL_law_798 (by decide) (fun h_1 => ?_) (fun h_1 => ?_)
  · skip
    refine lv_goto (tgt := 1543) S.1 S.2.1 dL_law_813 (by decide) ?_
    refine W.widen (k := cells + 3) (n := slots + 18) (by omega) (by omega) ?_
    exact kk T2 _ _ _ hI2 (lv_sub hl [2, 3, 4, 5, 6] rfl) w
  · skip
    refine lv_aload_n S.1 S.2.1 dL_law_801 rfl (lv_at hl 5 rfl) ?_
    refine lv_iconst (v := nI 0) S.1 S.2.1 dL_law_802 (ofInt_nI 0) ?_
    refine nl_lald (czW Z z T2) (mdW Z b T2) S w dL_law_803 ?_
    refine W.eq (g2 := F0 m 804 ls [.long (N.toInt64)]) (by rw [hfo h_1]) ?_
    refine lv_iload S.1 S.2.1 dL_law_804 (lv_at hl 0 rfl) ?_
    refine lv_i2l (v := N.toInt64) S.1 S.2.1 dL_law_806 rfl ?_
    refine W.lcmp S.1 S.2.1 dL_law_807 ?_
    refine W.eq (g2 := F0 m 808 ls [.int 0]) (by rw [lg_cmp_self]) ?_
    refine lv_if_eq (tgt := 813) S.1 S.2.1 dL_law_808 (by decide) (fun _ => ?_) (fun h9 => absurd rfl h9)
    refine lv_goto (tgt := 1543) S.1 S.2.1 dL_law_813 (by decide) ?_
    refine W.widen (k := cells + 3) (n := slots + 18) (by omega) (by omega) ?_
    exact kk T2 _ _ _ hI2 (lv_sub hl [2, 3, 4, 5, 6] rfl) w

theorem hdV_X7_restart : yX7_restart.cls = RX7 ∧ yX7_restart.cls ≠ "java/lang/invoke/MethodHandle" ∧ yX7_restart.cls ≠ "java/lang/invoke/VarHandle" ∧ (parseMethodDescriptor yX7_restart.desc).map (fun d => d.parameters.length) = some 0 := by decide +kernel
theorem hdV_X8_restart : yX8_restart.cls = RX8 ∧ yX8_restart.cls ≠ "java/lang/invoke/MethodHandle" ∧ yX8_restart.cls ≠ "java/lang/invoke/VarHandle" ∧ (parseMethodDescriptor yX8_restart.desc).map (fun d => d.parameters.length) = some 0 := by decide +kernel
set_option maxRecDepth 100000 in
set_option maxHeartbeats 4000000 in
theorem cs_9 (l : Launch) (hst : l.stackTraces = false) (D : va_G) (Z : Nat → ClassId) (z : Nat → Nat → Nat) (b : Nat → Nat) (qo bs L : Nat) (xs : Nat → Int32) {p : Program} {e : Env} {s : State} {m : MethodId} {args : Array Value} {below : List Frame} {meth : Method} {c : Code} {A : Nat → Prop} {Q : State → Prop} (S : CallFix p m c cL_law 9 s args wsL_law RL) (X9 : XT A s s.heap) (hnc : NC s) (hscr : Scr bs L xs A s) (i : Nat) (hi : i + 6 ≤ L) (T : LawS) (hI : LI T) (H : Heap) (locs : List Loc) (ls : Array Slot) (cells slots : Nat) (hcl : cells + 3 ≤ 601024) (hsl : slots + 18 ≤ 7293034) (hl : lv_has ls 9 [(0, .ref bs), (1, .ref (z 0 0)), (2, .ref (b 0)), (3, .ref qo), (4, vI i)]) (w : Wd D Z A s (czW Z z T ++ joW Z qo T.fo ++ mdW Z b T) H locs) (kk : ∀ (T2 : LawS) (H2 : Heap) (locs2 : List Loc) (ls2 : Array Slot), LI T2 → lv_has ls2 9 [(0, .ref bs), (1, .ref (z 0 0)), (2, .ref (b 0)), (3, .ref qo), (4, vI i)] → Wd D Z A s (czW Z z T2 ++ joW Z qo T2.fo ++ mdW Z b T2) H2 locs2 → W p l e room_1 s m args below meth c H2 locs2 (cells + 3) (slots + 18) Q (F0 m 1543 ls2 [])) : W p l e room_1 s m args below meth c H locs cells slots Q (F0 m 816 ls []) := by
  refine lv_aload_n S.1 S.2.1 dL_law_816 rfl (lv_at hl 1 rfl) ?_
  obtain ⟨N, T2, hI2, hfo, h7, hm⟩ := pd_restart l D Z z b T hI
  refine nv_fVi [] (joW Z qo T.fo ++ mdW Z b T) (ws' := czW Z z T2 ++ joW Z qo T.fo ++ mdW Z b T) (rest := []) S w hl.1 h7 (by simp only [List.nil_append, List.append_assoc]) adr_cz (by simp only [List.nil_append, List.append_assoc]) gL_law_X7_restart rfl hdV_X7_restart ⟨(Nat.le_of_ble_eq_true rfl), (Nat.le_of_ble_eq_true rfl)⟩ (q0 := 0) rfl rfl rfl rfl (Nat.le_of_ble_eq_true rfl) ⟨Nat.le_trans (show cells ≤ cells + 3 by omega) hcl, Nat.le_trans (show slots ≤ slots + 18 by omega) hsl⟩ dL_law_817 (fun H locs w => ?_)
  refine lv_aload_n S.1 S.2.1 dL_law_820 rfl (lv_at hl 2 rfl) ?_
  refine nv_fVi (czW Z z T2 ++ joW Z qo T.fo) [] (ws' := czW Z z T2 ++ joW Z qo T2.fo ++ mdW Z b T2) (rest := [.int N]) S w hl.1 hm (by simp only [List.append_nil]) adr_md (by simp only [List.append_nil, hfo]) gL_law_X8_restart rfl hdV_X8_restart ⟨(Nat.le_of_ble_eq_true rfl), (Nat.le_of_ble_eq_true rfl)⟩ (q0 := 0) rfl rfl rfl rfl (Nat.le_of_ble_eq_true rfl) ⟨Nat.le_trans (show cells ≤ cells + 3 by omega) hcl, Nat.le_trans (show slots ≤ slots + 18 by omega) hsl⟩ dL_law_821 (fun H locs w => ?_)
  refine lv_icmp_eq (tgt := 1543) S.1 S.2.1 dL_law_824 (by decide) (fun _ => ?_) (fun h9 => absurd rfl h9)
  refine W.widen (k := cells + 3) (n := slots + 18) (by omega) (by omega) ?_
  exact kk T2 _ _ _ hI2 (lv_sub hl [0, 1, 2, 3, 4] rfl) w

theorem hdS_L_steal : yL_steal.cls ≠ "java/lang/invoke/MethodHandle" ∧ yL_steal.cls ≠ "java/lang/invoke/VarHandle" ∧ (parseMethodDescriptor yL_steal.desc).map (fun d => d.parameters.length) = some 5 := by decide +kernel
theorem hdV_X8_steal : yX8_steal.cls = RX8 ∧ yX8_steal.cls ≠ "java/lang/invoke/MethodHandle" ∧ yX8_steal.cls ≠ "java/lang/invoke/VarHandle" ∧ (parseMethodDescriptor yX8_steal.desc).map (fun d => d.parameters.length) = some 3 := by decide +kernel
set_option maxRecDepth 100000 in
set_option maxHeartbeats 4000000 in
theorem cs_10 (l : Launch) (hst : l.stackTraces = false) (D : va_G) (Z : Nat → ClassId) (z : Nat → Nat → Nat) (b : Nat → Nat) (qo bs L : Nat) (xs : Nat → Int32) {p : Program} {e : Env} {s : State} {m : MethodId} {args : Array Value} {below : List Frame} {meth : Method} {c : Code} {A : Nat → Prop} {Q : State → Prop} (S : CallFix p m c cL_law 9 s args wsL_law RL) (X9 : XT A s s.heap) (hnc : NC s) (hscr : Scr bs L xs A s) (i : Nat) (hi : i + 6 ≤ L) (T : LawS) (hI : LI T) (H : Heap) (locs : List Loc) (ls : Array Slot) (cells slots : Nat) (hcl : cells + 3 ≤ 601024) (hsl : slots + 18 ≤ 7293034) (hl : lv_has ls 9 [(0, .ref bs), (1, .ref (z 0 0)), (2, .ref (b 0)), (3, .ref qo), (4, vI i)]) (w : Wd D Z A s (czW Z z T ++ joW Z qo T.fo ++ mdW Z b T) H locs) (kk : ∀ (T2 : LawS) (H2 : Heap) (locs2 : List Loc) (ls2 : Array Slot), LI T2 → lv_has ls2 9 [(0, .ref bs), (1, .ref (z 0 0)), (2, .ref (b 0)), (3, .ref qo), (4, vI i)] → Wd D Z A s (czW Z z T2 ++ joW Z qo T2.fo ++ mdW Z b T2) H2 locs2 → W p l e room_1 s m args below meth c H2 locs2 (cells + 3) (slots + 18) Q (F0 m 1543 ls2 [])) : W p l e room_1 s m args below meth c H locs cells slots Q (F0 m 829 ls []) := by
  refine lv_aload_n S.1 S.2.1 dL_law_829 rfl (lv_at hl 1 rfl) ?_
  refine lv_aload_n S.1 S.2.1 dL_law_830 rfl (lv_at hl 0 rfl) ?_
  refine lv_iload S.1 S.2.1 dL_law_831 (lv_at hl 4 rfl) ?_
  refine lv_iconst (v := nI 1) S.1 S.2.1 dL_law_833 (ofInt_nI 1) ?_
  refine nv_iadd S dL_law_834 ?_
  refine nl_sld S w hscr (i := (i + 1)) (by omega) dL_law_835 ?_
  refine lv_aload_n S.1 S.2.1 dL_law_836 rfl (lv_at hl 0 rfl) ?_
  refine lv_iload S.1 S.2.1 dL_law_837 (lv_at hl 4 rfl) ?_
  refine lv_iconst (v := nI 2) S.1 S.2.1 dL_law_839 (ofInt_nI 2) ?_
  refine nv_iadd S dL_law_840 ?_
  refine nl_sld S w hscr (i := (i + 2)) (by omega) dL_law_841 ?_
  refine lv_aload_n S.1 S.2.1 dL_law_842 rfl (lv_at hl 0 rfl) ?_
  refine lv_iload S.1 S.2.1 dL_law_843 (lv_at hl 4 rfl) ?_
  refine lv_iconst (v := nI 3) S.1 S.2.1 dL_law_845 (ofInt_nI 3) ?_
  refine nv_iadd S dL_law_846 ?_
  refine nl_sld S w hscr (i := (i + 3)) (by omega) dL_law_847 ?_
  refine lv_aload_n S.1 S.2.1 dL_law_848 rfl (lv_at hl 3 rfl) ?_
  obtain ⟨K, N, T2, hI2, hth, hK2, hfo, hc, hm⟩ := pr_steal l hst D Z z b qo T hI (xs (i + 1)) (xs (i + 2)) (xs (i + 3))
  refine nl_h (rest := []) S w X9 hnc hl.1 hc adr_jo gL_law_L_steal rfl hdS_L_steal ⟨(Nat.le_of_ble_eq_true rfl), (Nat.le_of_ble_eq_true rfl)⟩ rfl rfl (Nat.le_of_ble_eq_true rfl) ⟨Nat.le_trans (show cells + 3 ≤ cells + 3 by omega) hcl, Nat.le_trans (show slots + 18 ≤ slots + 18 by omega) hsl⟩ dL_law_849 (fun H locs w => ?_)
  refine lv_istore (lv' := [(5, vI K), (0, .ref bs), (1, .ref (z 0 0)), (2, .ref (b 0)), (3, .ref qo), (4, vI i)]) S.1 S.2.1 dL_law_852 hl (by decide) rfl (fun ls hl => ?_)
  refine lv_aload_n S.1 S.2.1 dL_law_854 rfl (lv_at hl 3 rfl) ?_
  refine lv_aload_n S.1 S.2.1 dL_law_855 rfl (lv_at hl 1 rfl) ?_
  refine lv_iload S.1 S.2.1 dL_law_856 (lv_at hl 5 rfl) ?_
  refine lv_iconst (v := nI 1) S.1 S.2.1 dL_law_858 (ofInt_nI 1) ?_
  refine nv_iadd S dL_law_859 ?_
  refine nl_sld S w hscr (i := (i + 1)) (by omega) dL_law_860 ?_
  refine lv_aload_n S.1 S.2.1 dL_law_861 rfl (lv_at hl 1 rfl) ?_
  refine lv_iload S.1 S.2.1 dL_law_862 (lv_at hl 5 rfl) ?_
  refine lv_iconst (v := nI 2) S.1 S.2.1 dL_law_864 (ofInt_nI 2) ?_
  refine nv_iadd S dL_law_865 ?_
  refine nl_sld S w hscr (i := (i + 2)) (by omega) dL_law_866 ?_
  refine lv_aload_n S.1 S.2.1 dL_law_867 rfl (lv_at hl 1 rfl) ?_
  refine lv_iload S.1 S.2.1 dL_law_868 (lv_at hl 5 rfl) ?_
  refine lv_iconst (v := nI 3) S.1 S.2.1 dL_law_870 (ofInt_nI 3) ?_
  refine nv_iadd S dL_law_871 ?_
  refine nl_sld S w hscr (i := (i + 3)) (by omega) dL_law_872 ?_
  refine nv_fVi (czW Z z T2 ++ joW Z qo T2.fo) [] (ws' := czW Z z T2 ++ joW Z qo T2.fo ++ mdW Z b T2) (rest := []) S w hl.1 hm (by simp only [List.append_nil]) adr_md (by simp only [List.append_nil]) gL_law_X8_steal rfl hdV_X8_steal ⟨(Nat.le_of_ble_eq_true rfl), (Nat.le_of_ble_eq_true rfl)⟩ (q0 := 0) rfl rfl rfl rfl (Nat.le_of_ble_eq_true rfl) ⟨Nat.le_trans (show cells + 3 ≤ cells + 3 by omega) hcl, Nat.le_trans (show slots + 18 ≤ slots + 18 by omega) hsl⟩ dL_law_873 (fun H locs w => ?_)
  refine lv_istore (lv' := [(6, .int N), (5, vI K), (0, .ref bs), (1, .ref (z 0 0)), (2, .ref (b 0)), (3, .ref qo), (4, vI i)]) S.1 S.2.1 dL_law_876 hl (by decide) rfl (fun ls hl => ?_)
  refine lv_aload_n S.1 S.2.1 dL_law_878 rfl (lv_at hl 4 rfl) ?_
  refine nv_gVi (wc := mdW Z b T2) (czW Z z T2 ++ joW Z qo T2.fo) [] (rest := []) S w hl.1 (c_X8_thrown l D Z b T2.M T2.sv T2.sd T2.n T2.th T2.tl T2.pl T2.ro T2.nu T2.t T2.r) (by simp only [List.append_nil]) gL_law_X8_thrown rfl hdV_X8_thrown ⟨(Nat.le_of_ble_eq_true rfl), (Nat.le_of_ble_eq_true rfl)⟩ (q0 := 0) rfl rfl rfl rfl (Nat.le_of_ble_eq_true rfl) ⟨Nat.le_trans (show cells + 3 ≤ cells + 3 by omega) hcl, Nat.le_trans (show slots + 18 ≤ slots + 18 by omega) hsl⟩ dL_law_879 (fun H locs w => ?_)
  refine W.eq (g2 := F0 m 882 ls [vI K]) (by rw [hth]) ?_
  refine lv_iload S.1 S.2.1 dL_law_882 (lv_at hl 1 rfl) ?_
  refine lv_icmp_eq (tgt := 889) S.1 S.2.1 dL_law_884 (by decide) (fun _ => ?_) (fun h9 => absurd rfl h9)
  refine lv_iload S.1 S.2.1 dL_law_889 (lv_at hl 1 rfl) ?_
  refine nv_if_ne S (by omega) (tgt := 906) dL_law_891 (by decide) (fun h_1 => ?_) (fun h_1 => ?_)
  · skip
    refine lv_goto (tgt := 1543) S.1 S.2.1 dL_law_906 (by decide) ?_
    refine W.widen (k := cells + 3) (n := slots + 18) (by omega) (by omega) ?_
    exact kk T2 _ _ _ hI2 (lv_sub hl [2, 3, 4, 5, 6] rfl) w
  · skip
    refine lv_aload_n S.1 S.2.1 dL_law_894 rfl (lv_at hl 5 rfl) ?_
    refine lv_iconst (v := nI 0) S.1 S.2.1 dL_law_895 (ofInt_nI 0) ?_
    refine nl_lald (czW Z z T2) (mdW Z b T2) S w dL_law_896 ?_
    refine W.eq (g2 := F0 m 897 ls [.long (N.toInt64)]) (by rw [hfo h_1]) ?_
    refine lv_iload S.1 S.2.1 dL_law_897 (lv_at hl 0 rfl) ?_
    refine lv_i2l (v := N.toInt64) S.1 S.2.1 dL_law_899 rfl ?_
    refine W.lcmp S.1 S.2.1 dL_law_900 ?_
    refine W.eq (g2 := F0 m 901 ls [.int 0]) (by rw [lg_cmp_self]) ?_
    refine lv_if_eq (tgt := 906) S.1 S.2.1 dL_law_901 (by decide) (fun _ => ?_) (fun h9 => absurd rfl h9)
    refine lv_goto (tgt := 1543) S.1 S.2.1 dL_law_906 (by decide) ?_
    refine W.widen (k := cells + 3) (n := slots + 18) (by omega) (by omega) ?_
    exact kk T2 _ _ _ hI2 (lv_sub hl [2, 3, 4, 5, 6] rfl) w

theorem hdS_L_giveBack : yL_giveBack.cls ≠ "java/lang/invoke/MethodHandle" ∧ yL_giveBack.cls ≠ "java/lang/invoke/VarHandle" ∧ (parseMethodDescriptor yL_giveBack.desc).map (fun d => d.parameters.length) = some 3 := by decide +kernel
theorem hdV_X8_giveBack : yX8_giveBack.cls = RX8 ∧ yX8_giveBack.cls ≠ "java/lang/invoke/MethodHandle" ∧ yX8_giveBack.cls ≠ "java/lang/invoke/VarHandle" ∧ (parseMethodDescriptor yX8_giveBack.desc).map (fun d => d.parameters.length) = some 1 := by decide +kernel
set_option maxRecDepth 100000 in
set_option maxHeartbeats 4000000 in
theorem cs_11 (l : Launch) (hst : l.stackTraces = false) (D : va_G) (Z : Nat → ClassId) (z : Nat → Nat → Nat) (b : Nat → Nat) (qo bs L : Nat) (xs : Nat → Int32) {p : Program} {e : Env} {s : State} {m : MethodId} {args : Array Value} {below : List Frame} {meth : Method} {c : Code} {A : Nat → Prop} {Q : State → Prop} (S : CallFix p m c cL_law 9 s args wsL_law RL) (X9 : XT A s s.heap) (hnc : NC s) (hscr : Scr bs L xs A s) (i : Nat) (hi : i + 6 ≤ L) (T : LawS) (hI : LI T) (H : Heap) (locs : List Loc) (ls : Array Slot) (cells slots : Nat) (hcl : cells + 3 ≤ 601024) (hsl : slots + 18 ≤ 7293034) (hl : lv_has ls 9 [(0, .ref bs), (1, .ref (z 0 0)), (2, .ref (b 0)), (3, .ref qo), (4, vI i)]) (w : Wd D Z A s (czW Z z T ++ joW Z qo T.fo ++ mdW Z b T) H locs) (kk : ∀ (T2 : LawS) (H2 : Heap) (locs2 : List Loc) (ls2 : Array Slot), LI T2 → lv_has ls2 9 [(0, .ref bs), (1, .ref (z 0 0)), (2, .ref (b 0)), (3, .ref qo), (4, vI i)] → Wd D Z A s (czW Z z T2 ++ joW Z qo T2.fo ++ mdW Z b T2) H2 locs2 → W p l e room_1 s m args below meth c H2 locs2 (cells + 3) (slots + 18) Q (F0 m 1543 ls2 [])) : W p l e room_1 s m args below meth c H locs cells slots Q (F0 m 909 ls []) := by
  refine lv_aload_n S.1 S.2.1 dL_law_909 rfl (lv_at hl 1 rfl) ?_
  refine lv_aload_n S.1 S.2.1 dL_law_910 rfl (lv_at hl 0 rfl) ?_
  refine lv_iload S.1 S.2.1 dL_law_911 (lv_at hl 4 rfl) ?_
  refine lv_iconst (v := nI 1) S.1 S.2.1 dL_law_913 (ofInt_nI 1) ?_
  refine nv_iadd S dL_law_914 ?_
  refine nl_sld S w hscr (i := (i + 1)) (by omega) dL_law_915 ?_
  refine lv_aload_n S.1 S.2.1 dL_law_916 rfl (lv_at hl 3 rfl) ?_
  obtain ⟨K, N, T2, hI2, hth, hK2, hfo, hc, hm⟩ := pr_giveBack l hst D Z z b qo T hI (xs (i + 1))
  refine nl_h (rest := []) S w X9 hnc hl.1 hc adr_jo gL_law_L_giveBack rfl hdS_L_giveBack ⟨(Nat.le_of_ble_eq_true rfl), (Nat.le_of_ble_eq_true rfl)⟩ rfl rfl (Nat.le_of_ble_eq_true rfl) ⟨Nat.le_trans (show cells + 1 ≤ cells + 3 by omega) hcl, Nat.le_trans (show slots + 6 ≤ slots + 18 by omega) hsl⟩ dL_law_917 (fun H locs w => ?_)
  refine lv_istore (lv' := [(5, vI K), (0, .ref bs), (1, .ref (z 0 0)), (2, .ref (b 0)), (3, .ref qo), (4, vI i)]) S.1 S.2.1 dL_law_920 hl (by decide) rfl (fun ls hl => ?_)
  refine lv_aload_n S.1 S.2.1 dL_law_922 rfl (lv_at hl 3 rfl) ?_
  refine lv_aload_n S.1 S.2.1 dL_law_923 rfl (lv_at hl 1 rfl) ?_
  refine lv_iload S.1 S.2.1 dL_law_924 (lv_at hl 5 rfl) ?_
  refine lv_iconst (v := nI 1) S.1 S.2.1 dL_law_926 (ofInt_nI 1) ?_
  refine nv_iadd S dL_law_927 ?_
  refine nl_sld S w hscr (i := (i + 1)) (by omega) dL_law_928 ?_
  refine nv_fVi (czW Z z T2 ++ joW Z qo T2.fo) [] (ws' := czW Z z T2 ++ joW Z qo T2.fo ++ mdW Z b T2) (rest := []) S w hl.1 hm (by simp only [List.append_nil]) adr_md (by simp only [List.append_nil]) gL_law_X8_giveBack rfl hdV_X8_giveBack ⟨(Nat.le_of_ble_eq_true rfl), (Nat.le_of_ble_eq_true rfl)⟩ (q0 := 0) rfl rfl rfl rfl (Nat.le_of_ble_eq_true rfl) ⟨Nat.le_trans (show cells + 1 ≤ cells + 3 by omega) hcl, Nat.le_trans (show slots + 6 ≤ slots + 18 by omega) hsl⟩ dL_law_929 (fun H locs w => ?_)
  refine lv_istore (lv' := [(6, .int N), (5, vI K), (0, .ref bs), (1, .ref (z 0 0)), (2, .ref (b 0)), (3, .ref qo), (4, vI i)]) S.1 S.2.1 dL_law_932 hl (by decide) rfl (fun ls hl => ?_)
  refine lv_aload_n S.1 S.2.1 dL_law_934 rfl (lv_at hl 4 rfl) ?_
  refine nv_gVi (wc := mdW Z b T2) (czW Z z T2 ++ joW Z qo T2.fo) [] (rest := []) S w hl.1 (c_X8_thrown l D Z b T2.M T2.sv T2.sd T2.n T2.th T2.tl T2.pl T2.ro T2.nu T2.t T2.r) (by simp only [List.append_nil]) gL_law_X8_thrown rfl hdV_X8_thrown ⟨(Nat.le_of_ble_eq_true rfl), (Nat.le_of_ble_eq_true rfl)⟩ (q0 := 0) rfl rfl rfl rfl (Nat.le_of_ble_eq_true rfl) ⟨Nat.le_trans (show cells + 1 ≤ cells + 3 by omega) hcl, Nat.le_trans (show slots + 6 ≤ slots + 18 by omega) hsl⟩ dL_law_935 (fun H locs w => ?_)
  refine W.eq (g2 := F0 m 938 ls [vI K]) (by rw [hth]) ?_
  refine lv_iload S.1 S.2.1 dL_law_938 (lv_at hl 1 rfl) ?_
  refine lv_icmp_eq (tgt := 945) S.1 S.2.1 dL_law_940 (by decide) (fun _ => ?_) (fun h9 => absurd rfl h9)
  refine lv_iload S.1 S.2.1 dL_law_945 (lv_at hl 1 rfl) ?_
  refine nv_if_ne S (by omega) (tgt := 962) dL_law_947 (by decide) (fun h_1 => ?_) (fun h_1 => ?_)
  · skip
    refine lv_goto (tgt := 1543) S.1 S.2.1 dL_law_962 (by decide) ?_
    refine W.widen (k := cells + 3) (n := slots + 18) (by omega) (by omega) ?_
    exact kk T2 _ _ _ hI2 (lv_sub hl [2, 3, 4, 5, 6] rfl) w
  · skip
    refine lv_aload_n S.1 S.2.1 dL_law_950 rfl (lv_at hl 5 rfl) ?_
    refine lv_iconst (v := nI 0) S.1 S.2.1 dL_law_951 (ofInt_nI 0) ?_
    refine nl_lald (czW Z z T2) (mdW Z b T2) S w dL_law_952 ?_
    refine W.eq (g2 := F0 m 953 ls [.long (N.toInt64)]) (by rw [hfo h_1]) ?_
    refine lv_iload S.1 S.2.1 dL_law_953 (lv_at hl 0 rfl) ?_
    refine lv_i2l (v := N.toInt64) S.1 S.2.1 dL_law_955 rfl ?_
    refine W.lcmp S.1 S.2.1 dL_law_956 ?_
    refine W.eq (g2 := F0 m 957 ls [.int 0]) (by rw [lg_cmp_self]) ?_
    refine lv_if_eq (tgt := 962) S.1 S.2.1 dL_law_957 (by decide) (fun _ => ?_) (fun h9 => absurd rfl h9)
    refine lv_goto (tgt := 1543) S.1 S.2.1 dL_law_962 (by decide) ?_
    refine W.widen (k := cells + 3) (n := slots + 18) (by omega) (by omega) ?_
    exact kk T2 _ _ _ hI2 (lv_sub hl [2, 3, 4, 5, 6] rfl) w
