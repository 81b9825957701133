theorem hdS_L_silent : yL_silent.cls ≠ "java/lang/invoke/MethodHandle" ∧ yL_silent.cls ≠ "java/lang/invoke/VarHandle" ∧ (parseMethodDescriptor yL_silent.desc).map (fun d => d.parameters.length) = some 4 := by decide +kernel
theorem hdV_X8_silent : yX8_silent.cls = RX8 ∧ yX8_silent.cls ≠ "java/lang/invoke/MethodHandle" ∧ yX8_silent.cls ≠ "java/lang/invoke/VarHandle" ∧ (parseMethodDescriptor yX8_silent.desc).map (fun d => d.parameters.length) = some 2 := by decide +kernel
set_option maxRecDepth 100000 in
set_option maxHeartbeats 4000000 in
theorem cs_16 (l : Launch) (hst : l.stackTraces = false) (D : va_G) (Z : Nat → ClassId) (z : Nat → Nat → Nat) (b : Nat → Nat) (qo bs L : Nat) (xs : Nat → Int32) {p : Program} {e : Env} {s : State} {m : MethodId} {args : Array Value} {below : List Frame} {meth : Method} {c : Code} {A : Nat → Prop} {Q : State → Prop} (S : CallFix p m c cL_law 9 s args wsL_law RL) (X9 : XT A s s.heap) (hnc : NC s) (hscr : Scr bs L xs A s) (i : Nat) (hi : i + 6 ≤ L) (T : LawS) (hI : LI T) (H : Heap) (locs : List Loc) (ls : Array Slot) (cells slots : Nat) (hcl : cells + 3 ≤ 601024) (hsl : slots + 18 ≤ 7293034) (hl : lv_has ls 9 [(0, .ref bs), (1, .ref (z 0 0)), (2, .ref (b 0)), (3, .ref qo), (4, vI i)]) (w : Wd D Z A s (czW Z z T ++ joW Z qo T.fo ++ mdW Z b T) H locs) (kk : ∀ (T2 : LawS) (H2 : Heap) (locs2 : List Loc) (ls2 : Array Slot), LI T2 → lv_has ls2 9 [(0, .ref bs), (1, .ref (z 0 0)), (2, .ref (b 0)), (3, .ref qo), (4, vI i)] → Wd D Z A s (czW Z z T2 ++ joW Z qo T2.fo ++ mdW Z b T2) H2 locs2 → W p l e room_1 s m args below meth c H2 locs2 (cells + 3) (slots + 18) Q (F0 m 1543 ls2 [])) : W p l e room_1 s m args below meth c H locs cells slots Q (F0 m 1158 ls []) := by
  refine lv_aload_n S.1 S.2.1 dL_law_1158 rfl (lv_at hl 1 rfl) ?_
  refine lv_aload_n S.1 S.2.1 dL_law_1159 rfl (lv_at hl 0 rfl) ?_
  refine lv_iload S.1 S.2.1 dL_law_1160 (lv_at hl 4 rfl) ?_
  refine lv_iconst (v := nI 1) S.1 S.2.1 dL_law_1162 (ofInt_nI 1) ?_
  refine nv_iadd S dL_law_1163 ?_
  refine nl_sld S w hscr (i := (i + 1)) (by omega) dL_law_1164 ?_
  refine lv_aload_n S.1 S.2.1 dL_law_1165 rfl (lv_at hl 0 rfl) ?_
  refine lv_iload S.1 S.2.1 dL_law_1166 (lv_at hl 4 rfl) ?_
  refine lv_iconst (v := nI 2) S.1 S.2.1 dL_law_1168 (ofInt_nI 2) ?_
  refine nv_iadd S dL_law_1169 ?_
  refine nl_sld S w hscr (i := (i + 2)) (by omega) dL_law_1170 ?_
  refine lv_aload_n S.1 S.2.1 dL_law_1171 rfl (lv_at hl 3 rfl) ?_
  obtain ⟨K, N, T2, hI2, hth, hK2, hfo, hc, hm⟩ := pr_silent l hst D Z z b qo T hI (xs (i + 1)) (xs (i + 2))
  refine nl_h (rest := []) S w X9 hnc hl.1 hc adr_jo gL_law_L_silent rfl hdS_L_silent ⟨(Nat.le_of_ble_eq_true rfl), (Nat.le_of_ble_eq_true rfl)⟩ rfl rfl (Nat.le_of_ble_eq_true rfl) ⟨Nat.le_trans (show cells + 2 ≤ cells + 3 by omega) hcl, Nat.le_trans (show slots + 12 ≤ slots + 18 by omega) hsl⟩ dL_law_1172 (fun H locs w => ?_)
  refine lv_istore (lv' := [(5, vI K), (0, .ref bs), (1, .ref (z 0 0)), (2, .ref (b 0)), (3, .ref qo), (4, vI i)]) S.1 S.2.1 dL_law_1175 hl (by decide) rfl (fun ls hl => ?_)
  refine lv_aload_n S.1 S.2.1 dL_law_1177 rfl (lv_at hl 3 rfl) ?_
  refine lv_aload_n S.1 S.2.1 dL_law_1178 rfl (lv_at hl 1 rfl) ?_
  refine lv_iload S.1 S.2.1 dL_law_1179 (lv_at hl 5 rfl) ?_
  refine lv_iconst (v := nI 1) S.1 S.2.1 dL_law_1181 (ofInt_nI 1) ?_
  refine nv_iadd S dL_law_1182 ?_
  refine nl_sld S w hscr (i := (i + 1)) (by omega) dL_law_1183 ?_
  refine lv_aload_n S.1 S.2.1 dL_law_1184 rfl (lv_at hl 1 rfl) ?_
  refine lv_iload S.1 S.2.1 dL_law_1185 (lv_at hl 5 rfl) ?_
  refine lv_iconst (v := nI 2) S.1 S.2.1 dL_law_1187 (ofInt_nI 2) ?_
  refine nv_iadd S dL_law_1188 ?_
  refine nl_sld S w hscr (i := (i + 2)) (by omega) dL_law_1189 ?_
  refine nv_fVi (czW Z z T2 ++ joW Z qo T2.fo) [] (ws' := czW Z z T2 ++ joW Z qo T2.fo ++ mdW Z b T2) (rest := []) S w hl.1 hm (by simp only [List.append_nil]) adr_md (by simp only [List.append_nil]) gL_law_X8_silent rfl hdV_X8_silent ⟨(Nat.le_of_ble_eq_true rfl), (Nat.le_of_ble_eq_true rfl)⟩ (q0 := 0) rfl rfl rfl rfl (Nat.le_of_ble_eq_true rfl) ⟨Nat.le_trans (show cells + 2 ≤ cells + 3 by omega) hcl, Nat.le_trans (show slots + 12 ≤ slots + 18 by omega) hsl⟩ dL_law_1190 (fun H locs w => ?_)
  refine lv_istore (lv' := [(6, .int N), (5, vI K), (0, .ref bs), (1, .ref (z 0 0)), (2, .ref (b 0)), (3, .ref qo), (4, vI i)]) S.1 S.2.1 dL_law_1193 hl (by decide) rfl (fun ls hl => ?_)
  refine lv_aload_n S.1 S.2.1 dL_law_1195 rfl (lv_at hl 4 rfl) ?_
  refine nv_gVi (wc := mdW Z b T2) (czW Z z T2 ++ joW Z qo T2.fo) [] (rest := []) S w hl.1 (c_X8_thrown l D Z b T2.M T2.sv T2.sd T2.n T2.th T2.tl T2.pl T2.ro T2.nu T2.t T2.r) (by simp only [List.append_nil]) gL_law_X8_thrown rfl hdV_X8_thrown ⟨(Nat.le_of_ble_eq_true rfl), (Nat.le_of_ble_eq_true rfl)⟩ (q0 := 0) rfl rfl rfl rfl (Nat.le_of_ble_eq_true rfl) ⟨Nat.le_trans (show cells + 2 ≤ cells + 3 by omega) hcl, Nat.le_trans (show slots + 12 ≤ slots + 18 by omega) hsl⟩ dL_law_1196 (fun H locs w => ?_)
  refine W.eq (g2 := F0 m 1199 ls [vI K]) (by rw [hth]) ?_
  refine lv_iload S.1 S.2.1 dL_law_1199 (lv_at hl 1 rfl) ?_
  refine lv_icmp_eq (tgt := 1206) S.1 S.2.1 dL_law_1201 (by decide) (fun _ => ?_) (fun h9 => absurd rfl h9)
  refine lv_iload S.1 S.2.1 dL_law_1206 (lv_at hl 1 rfl) ?_
  refine nv_if_ne S (by omega) (tgt := 1223) dL_law_1208 (by decide) (fun h_1 => ?_) (fun h_1 => ?_)
  · skip
    refine lv_goto (tgt := 1543) S.1 S.2.1 dL_law_1223 (by decide) ?_
    refine W.widen (k := cells + 3) (n := slots + 18) (by omega) (by omega) ?_
    exact kk T2 _ _ _ hI2 (lv_sub hl [2, 3, 4, 5, 6] rfl) w
  · skip
    refine lv_aload_n S.1 S.2.1 dL_law_1211 rfl (lv_at hl 5 rfl) ?_
    refine lv_iconst (v := nI 0) S.1 S.2.1 dL_law_1212 (ofInt_nI 0) ?_
    refine nl_lald (czW Z z T2) (mdW Z b T2) S w dL_law_1213 ?_
    refine W.eq (g2 := F0 m 1214 ls [.long (N.toInt64)]) (by rw [hfo h_1]) ?_
    refine lv_iload S.1 S.2.1 dL_law_1214 (lv_at hl 0 rfl) ?_
    refine lv_i2l (v := N.toInt64) S.1 S.2.1 dL_law_1216 rfl ?_
    refine W.lcmp S.1 S.2.1 dL_law_1217 ?_
    refine W.eq (g2 := F0 m 1218 ls [.int 0]) (by rw [lg_cmp_self]) ?_
    refine lv_if_eq (tgt := 1223) S.1 S.2.1 dL_law_1218 (by decide) (fun _ => ?_) (fun h9 => absurd rfl h9)
    refine lv_goto (tgt := 1543) S.1 S.2.1 dL_law_1223 (by decide) ?_
    refine W.widen (k := cells + 3) (n := slots + 18) (by omega) (by omega) ?_
    exact kk T2 _ _ _ hI2 (lv_sub hl [2, 3, 4, 5, 6] rfl) w

theorem hdS_L_deepest : yL_deepest.cls ≠ "java/lang/invoke/MethodHandle" ∧ yL_deepest.cls ≠ "java/lang/invoke/VarHandle" ∧ (parseMethodDescriptor yL_deepest.desc).map (fun d => d.parameters.length) = some 4 := by decide +kernel
theorem hdV_X8_deepest : yX8_deepest.cls = RX8 ∧ yX8_deepest.cls ≠ "java/lang/invoke/MethodHandle" ∧ yX8_deepest.cls ≠ "java/lang/invoke/VarHandle" ∧ (parseMethodDescriptor yX8_deepest.desc).map (fun d => d.parameters.length) = some 2 := by decide +kernel
set_option maxRecDepth 100000 in
set_option maxHeartbeats 4000000 in
theorem cs_17 (l : Launch) (hst : l.stackTraces = false) (D : va_G) (Z : Nat → ClassId) (z : Nat → Nat → Nat) (b : Nat → Nat) (qo bs L : Nat) (xs : Nat → Int32) {p : Program} {e : Env} {s : State} {m : MethodId} {args : Array Value} {below : List Frame} {meth : Method} {c : Code} {A : Nat → Prop} {Q : State → Prop} (S : CallFix p m c cL_law 9 s args wsL_law RL) (X9 : XT A s s.heap) (hnc : NC s) (hscr : Scr bs L xs A s) (i : Nat) (hi : i + 6 ≤ L) (T : LawS) (hI : LI T) (H : Heap) (locs : List Loc) (ls : Array Slot) (cells slots : Nat) (hcl : cells + 3 ≤ 601024) (hsl : slots + 18 ≤ 7293034) (hl : lv_has ls 9 [(0, .ref bs), (1, .ref (z 0 0)), (2, .ref (b 0)), (3, .ref qo), (4, vI i)]) (w : Wd D Z A s (czW Z z T ++ joW Z qo T.fo ++ mdW Z b T) H locs) (kk : ∀ (T2 : LawS) (H2 : Heap) (locs2 : List Loc) (ls2 : Array Slot), LI T2 → lv_has ls2 9 [(0, .ref bs), (1, .ref (z 0 0)), (2, .ref (b 0)), (3, .ref qo), (4, vI i)] → Wd D Z A s (czW Z z T2 ++ joW Z qo T2.fo ++ mdW Z b T2) H2 locs2 → W p l e room_1 s m args below meth c H2 locs2 (cells + 3) (slots + 18) Q (F0 m 1543 ls2 [])) : W p l e room_1 s m args below meth c H locs cells slots Q (F0 m 1226 ls []) := by
  refine lv_aload_n S.1 S.2.1 dL_law_1226 rfl (lv_at hl 1 rfl) ?_
  refine lv_aload_n S.1 S.2.1 dL_law_1227 rfl (lv_at hl 0 rfl) ?_
  refine lv_iload S.1 S.2.1 dL_law_1228 (lv_at hl 4 rfl) ?_
  refine lv_iconst (v := nI 1) S.1 S.2.1 dL_law_1230 (ofInt_nI 1) ?_
  refine nv_iadd S dL_law_1231 ?_
  refine nl_sld S w hscr (i := (i + 1)) (by omega) dL_law_1232 ?_
  refine lv_aload_n S.1 S.2.1 dL_law_1233 rfl (lv_at hl 0 rfl) ?_
  refine lv_iload S.1 S.2.1 dL_law_1234 (lv_at hl 4 rfl) ?_
  refine lv_iconst (v := nI 2) S.1 S.2.1 dL_law_1236 (ofInt_nI 2) ?_
  refine nv_iadd S dL_law_1237 ?_
  refine nl_sld S w hscr (i := (i + 2)) (by omega) dL_law_1238 ?_
  refine lv_aload_n S.1 S.2.1 dL_law_1239 rfl (lv_at hl 3 rfl) ?_
  obtain ⟨K, N, T2, hI2, hth, hK2, hfo, hc, hm⟩ := pr_deepest l hst D Z z b qo T hI (xs (i + 1)) (xs (i + 2))
  refine nl_h (rest := []) S w X9 hnc hl.1 hc adr_jo gL_law_L_deepest rfl hdS_L_deepest ⟨(Nat.le_of_ble_eq_true rfl), (Nat.le_of_ble_eq_true rfl)⟩ rfl rfl (Nat.le_of_ble_eq_true rfl) ⟨Nat.le_trans (show cells + 2 ≤ cells + 3 by omega) hcl, Nat.le_trans (show slots + 12 ≤ slots + 18 by omega) hsl⟩ dL_law_1240 (fun H locs w => ?_)
  refine lv_istore (lv' := [(5, vI K), (0, .ref bs), (1, .ref (z 0 0)), (2, .ref (b 0)), (3, .ref qo), (4, vI i)]) S.1 S.2.1 dL_law_1243 hl (by decide) rfl (fun ls hl => ?_)
  refine lv_aload_n S.1 S.2.1 dL_law_1245 rfl (lv_at hl 3 rfl) ?_
  refine lv_aload_n S.1 S.2.1 dL_law_1246 rfl (lv_at hl 1 rfl) ?_
  refine lv_iload S.1 S.2.1 dL_law_1247 (lv_at hl 5 rfl) ?_
  refine lv_iconst (v := nI 1) S.1 S.2.1 dL_law_1249 (ofInt_nI 1) ?_
  refine nv_iadd S dL_law_1250 ?_
  refine nl_sld S w hscr (i := (i + 1)) (by omega) dL_law_1251 ?_
  refine lv_aload_n S.1 S.2.1 dL_law_1252 rfl (lv_at hl 1 rfl) ?_
  refine lv_iload S.1 S.2.1 dL_law_1253 (lv_at hl 5 rfl) ?_
  refine lv_iconst (v := nI 2) S.1 S.2.1 dL_law_1255 (ofInt_nI 2) ?_
  refine nv_iadd S dL_law_1256 ?_
  refine nl_sld S w hscr (i := (i + 2)) (by omega) dL_law_1257 ?_
  refine nv_fVi (czW Z z T2 ++ joW Z qo T2.fo) [] (ws' := czW Z z T2 ++ joW Z qo T2.fo ++ mdW Z b T2) (rest := []) S w hl.1 hm (by simp only [List.append_nil]) adr_md (by simp only [List.append_nil]) gL_law_X8_deepest rfl hdV_X8_deepest ⟨(Nat.le_of_ble_eq_true rfl), (Nat.le_of_ble_eq_true rfl)⟩ (q0 := 0) rfl rfl rfl rfl (Nat.le_of_ble_eq_true rfl) ⟨Nat.le_trans (show cells + 2 ≤ cells + 3 by omega) hcl, Nat.le_trans (show slots + 12 ≤ slots + 18 by omega) hsl⟩ dL_law_1258 (fun H locs w => ?_)
  refine lv_istore (lv' := [(6, .int N), (5, vI K), (0, .ref bs), (1, .ref (z 0 0)), (2, .ref (b 0)), (3, .ref qo), (4, vI i)]) S.1 S.2.1 dL_law_1261 hl (by decide) rfl (fun ls hl => ?_)
  refine lv_aload_n S.1 S.2.1 dL_law_1263 rfl (lv_at hl 4 rfl) ?_
  refine nv_gVi (wc := mdW Z b T2) (czW Z z T2 ++ joW Z qo T2.fo) [] (rest := []) S w hl.1 (c_X8_thrown l D Z b T2.M T2.sv T2.sd T2.n T2.th T2.tl T2.pl T2.ro T2.nu T2.t T2.r) (by simp only [List.append_nil]) gL_law_X8_thrown rfl hdV_X8_thrown ⟨(Nat.le_of_ble_eq_true rfl), (Nat.le_of_ble_eq_true rfl)⟩ (q0 := 0) rfl rfl rfl rfl (Nat.le_of_ble_eq_true rfl) ⟨Nat.le_trans (show cells + 2 ≤ cells + 3 by omega) hcl, Nat.le_trans (show slots + 12 ≤ slots + 18 by omega) hsl⟩ dL_law_1264 (fun H locs w => ?_)
  refine W.eq (g2 := F0 m 1267 ls [vI K]) (by rw [hth]) ?_
  refine lv_iload S.1 S.2.1 dL_law_1267 (lv_at hl 1 rfl) ?_
  refine lv_icmp_eq (tgt := 1274) S.1 S.2.1 dL_law_1269 (by decide) (fun _ => ?_) (fun h9 => absurd rfl h9)
  refine lv_iload S.1 S.2.1 dL_law_1274 (lv_at hl 1 rfl) ?_
  refine nv_if_ne S (by omega) (tgt := 1291) dL_law_1276 (by decide) (fun h_1 => ?_) (fun h_1 => ?_)
  · skip
    refine lv_goto (tgt := 1543) S.1 S.2.1 dL_law_1291 (by decide) ?_
    refine W.widen (k := cells + 3) (n := slots + 18) (by omega) (by omega) ?_
    exact kk T2 _ _ _ hI2 (lv_sub hl [2, 3, 4, 5, 6] rfl) w
  · skip
    refine lv_aload_n S.1 S.2.1 dL_law_1279 rfl (lv_at hl 5 rfl) ?_
    refine lv_iconst (v := nI 0) S.1 S.2.1 dL_law_1280 (ofInt_nI 0) ?_
    refine nl_lald (czW Z z T2) (mdW Z b T2) S w dL_law_1281 ?_
    refine W.eq (g2 := F0 m 1282 ls [.long (N.toInt64)]) (by rw [hfo h_1]) ?_
    refine lv_iload S.1 S.2.1 dL_law_1282 (lv_at hl 0 rfl) ?_
    refine lv_i2l (v := N.toInt64) S.1 S.2.1 dL_law_1284 rfl ?_
    refine W.lcmp S.1 S.2.1 dL_law_1285 ?_
    refine W.eq (g2 := F0 m 1286 ls [.int 0]) (by rw [lg_cmp_self]) ?_
    refine lv_if_eq (tgt := 1291) S.1 S.2.1 dL_law_1286 (by decide) (fun _ => ?_) (fun h9 => absurd rfl h9)
    refine lv_goto (tgt := 1543) S.1 S.2.1 dL_law_1291 (by decide) ?_
    refine W.widen (k := cells + 3) (n := slots + 18) (by omega) (by omega) ?_
    exact kk T2 _ _ _ hI2 (lv_sub hl [2, 3, 4, 5, 6] rfl) w

theorem hdS_L_unheard : yL_unheard.cls ≠ "java/lang/invoke/MethodHandle" ∧ yL_unheard.cls ≠ "java/lang/invoke/VarHandle" ∧ (parseMethodDescriptor yL_unheard.desc).map (fun d => d.parameters.length) = some 4 := by decide +kernel
theorem hdV_X8_unheard : yX8_unheard.cls = RX8 ∧ yX8_unheard.cls ≠ "java/lang/invoke/MethodHandle" ∧ yX8_unheard.cls ≠ "java/lang/invoke/VarHandle" ∧ (parseMethodDescriptor yX8_unheard.desc).map (fun d => d.parameters.length) = some 2 := by decide +kernel
set_option maxRecDepth 100000 in
set_option maxHeartbeats 4000000 in
theorem cs_18 (l : Launch) (hst : l.stackTraces = false) (D : va_G) (Z : Nat → ClassId) (z : Nat → Nat → Nat) (b : Nat → Nat) (qo bs L : Nat) (xs : Nat → Int32) {p : Program} {e : Env} {s : State} {m : MethodId} {args : Array Value} {below : List Frame} {meth : Method} {c : Code} {A : Nat → Prop} {Q : State → Prop} (S : CallFix p m c cL_law 9 s args wsL_law RL) (X9 : XT A s s.heap) (hnc : NC s) (hscr : Scr bs L xs A s) (i : Nat) (hi : i + 6 ≤ L) (T : LawS) (hI : LI T) (H : Heap) (locs : List Loc) (ls : Array Slot) (cells slots : Nat) (hcl : cells + 3 ≤ 601024) (hsl : slots + 18 ≤ 7293034) (hl : lv_has ls 9 [(0, .ref bs), (1, .ref (z 0 0)), (2, .ref (b 0)), (3, .ref qo), (4, vI i)]) (w : Wd D Z A s (czW Z z T ++ joW Z qo T.fo ++ mdW Z b T) H locs) (kk : ∀ (T2 : LawS) (H2 : Heap) (locs2 : List Loc) (ls2 : Array Slot), LI T2 → lv_has ls2 9 [(0, .ref bs), (1, .ref (z 0 0)), (2, .ref (b 0)), (3, .ref qo), (4, vI i)] → Wd D Z A s (czW Z z T2 ++ joW Z qo T2.fo ++ mdW Z b T2) H2 locs2 → W p l e room_1 s m args below meth c H2 locs2 (cells + 3) (slots + 18) Q (F0 m 1543 ls2 [])) : W p l e room_1 s m args below meth c H locs cells slots Q (F0 m 1294 ls []) := by
  refine lv_aload_n S.1 S.2.1 dL_law_1294 rfl (lv_at hl 1 rfl) ?_
  refine lv_aload_n S.1 S.2.1 dL_law_1295 rfl (lv_at hl 0 rfl) ?_
  refine lv_iload S.1 S.2.1 dL_law_1296 (lv_at hl 4 rfl) ?_
  refine lv_iconst (v := nI 1) S.1 S.2.1 dL_law_1298 (ofInt_nI 1) ?_
  refine nv_iadd S dL_law_1299 ?_
  refine nl_sld S w hscr (i := (i + 1)) (by omega) dL_law_1300 ?_
  refine lv_aload_n S.1 S.2.1 dL_law_1301 rfl (lv_at hl 0 rfl) ?_
  refine lv_iload S.1 S.2.1 dL_law_1302 (lv_at hl 4 rfl) ?_
  refine lv_iconst (v := nI 2) S.1 S.2.1 dL_law_1304 (ofInt_nI 2) ?_
  refine nv_iadd S dL_law_1305 ?_
  refine nl_sld S w hscr (i := (i + 2)) (by omega) dL_law_1306 ?_
  refine lv_aload_n S.1 S.2.1 dL_law_1307 rfl (lv_at hl 3 rfl) ?_
  obtain ⟨K, N, T2, hI2, hth, hK2, hfo, hc, hm⟩ := pr_unheard l hst D Z z b qo T hI (xs (i + 1)) (xs (i + 2))
  refine nl_h (rest := []) S w X9 hnc hl.1 hc adr_jo gL_law_L_unheard rfl hdS_L_unheard ⟨(Nat.le_of_ble_eq_true rfl), (Nat.le_of_ble_eq_true rfl)⟩ rfl rfl (Nat.le_of_ble_eq_true rfl) ⟨Nat.le_trans (show cells + 2 ≤ cells + 3 by omega) hcl, Nat.le_trans (show slots + 12 ≤ slots + 18 by omega) hsl⟩ dL_law_1308 (fun H locs w => ?_)
  refine lv_istore (lv' := [(5, vI K), (0, .ref bs), (1, .ref (z 0 0)), (2, .ref (b 0)), (3, .ref qo), (4, vI i)]) S.1 S.2.1 dL_law_1311 hl (by decide) rfl (fun ls hl => ?_)
  refine lv_aload_n S.1 S.2.1 dL_law_1313 rfl (lv_at hl 3 rfl) ?_
  refine lv_aload_n S.1 S.2.1 dL_law_1314 rfl (lv_at hl 1 rfl) ?_
  refine lv_iload S.1 S.2.1 dL_law_1315 (lv_at hl 5 rfl) ?_
  refine lv_iconst (v := nI 1) S.1 S.2.1 dL_law_1317 (ofInt_nI 1) ?_
  refine nv_iadd S dL_law_1318 ?_
  refine nl_sld S w hscr (i := (i + 1)) (by omega) dL_law_1319 ?_
  refine lv_aload_n S.1 S.2.1 dL_law_1320 rfl (lv_at hl 1 rfl) ?_
  refine lv_iload S.1 S.2.1 dL_law_1321 (lv_at hl 5 rfl) ?_
  refine lv_iconst (v := nI 2) S.1 S.2.1 dL_law_1323 (ofInt_nI 2) ?_
  refine nv_iadd S dL_law_1324 ?_
  refine nl_sld S w hscr (i := (i + 2)) (by omega) dL_law_1325 ?_
  refine nv_fVi (czW Z z T2 ++ joW Z qo T2.fo) [] (ws' := czW Z z T2 ++ joW Z qo T2.fo ++ mdW Z b T2) (rest := []) S w hl.1 hm (by simp only [List.append_nil]) adr_md (by simp only [List.append_nil]) gL_law_X8_unheard rfl hdV_X8_unheard ⟨(Nat.le_of_ble_eq_true rfl), (Nat.le_of_ble_eq_true rfl)⟩ (q0 := 0) rfl rfl rfl rfl (Nat.le_of_ble_eq_true rfl) ⟨Nat.le_trans (show cells + 2 ≤ cells + 3 by omega) hcl, Nat.le_trans (show slots + 12 ≤ slots + 18 by omega) hsl⟩ dL_law_1326 (fun H locs w => ?_)
  refine lv_istore (lv' := [(6, .int N), (5, vI K), (0, .ref bs), (1, .ref (z 0 0)), (2, .ref (b 0)), (3, .ref qo), (4, vI i)]) S.1 S.2.1 dL_law_1329 hl (by decide) rfl (fun ls hl => ?_)
  refine lv_aload_n S.1 S.2.1 dL_law_1331 rfl (lv_at hl 4 rfl) ?_
  refine nv_gVi (wc := mdW Z b T2) (czW Z z T2 ++ joW Z qo T2.fo) [] (rest := []) S w hl.1 (c_X8_thrown l D Z b T2.M T2.sv T2.sd T2.n T2.th T2.tl T2.pl T2.ro T2.nu T2.t T2.r) (by simp only [List.append_nil]) gL_law_X8_thrown rfl hdV_X8_thrown ⟨(Nat.le_of_ble_eq_true rfl), (Nat.le_of_ble_eq_true rfl)⟩ (q0 := 0) rfl rfl rfl rfl (Nat.le_of_ble_eq_true rfl) ⟨Nat.le_trans (show cells + 2 ≤ cells + 3 by omega) hcl, Nat.le_trans (show slots + 12 ≤ slots + 18 by omega) hsl⟩ dL_law_1332 (fun H locs w => ?_)
  refine W.eq (g2 := F0 m 1335 ls [vI K]) (by rw [hth]) ?_
  refine lv_iload S.1 S.2.1 dL_law_1335 (lv_at hl 1 rfl) ?_
  refine lv_icmp_eq (tgt := 1342) S.1 S.2.1 dL_law_1337 (by decide) (fun _ => ?_) (fun h9 => absurd rfl h9)
  refine lv_iload S.1 S.2.1 dL_law_1342 (lv_at hl 1 rfl) ?_
  refine nv_if_ne S (by omega) (tgt := 1359) dL_law_1344 (by decide) (fun h_1 => ?_) (fun h_1 => ?_)
  · skip
    refine lv_goto (tgt := 1543) S.1 S.2.1 dL_law_1359 (by decide) ?_
    refine W.widen (k := cells + 3) (n := slots + 18) (by omega) (by omega) ?_
    exact kk T2 _ _ _ hI2 (lv_sub hl [2, 3, 4, 5, 6] rfl) w
  · skip
    refine lv_aload_n S.1 S.2.1 dL_law_1347 rfl (lv_at hl 5 rfl) ?_
    refine lv_iconst (v := nI 0) S.1 S.2.1 dL_law_1348 (ofInt_nI 0) ?_
    refine nl_lald (czW Z z T2) (mdW Z b T2) S w dL_law_1349 ?_
    refine W.eq (g2 := F0 m 1350 ls [.long (N.toInt64)]) (by rw [hfo h_1]) ?_
    refine lv_iload S.1 S.2.1 dL_law_1350 (lv_at hl 0 rfl) ?_
    refine lv_i2l (v := N.toInt64) S.1 S.2.1 dL_law_1352 rfl ?_
    refine W.lcmp S.1 S.2.1 dL_law_1353 ?_
    refine W.eq (g2 := F0 m 1354 ls [.int 0]) (by rw [lg_cmp_self]) ?_
    refine lv_if_eq (tgt := 1359) S.1 S.2.1 dL_law_1354 (by decide) (fun _ => ?_) (fun h9 => absurd rfl h9)
    refine lv_goto (tgt := 1543) S.1 S.2.1 dL_law_1359 (by decide) ?_
    refine W.widen (k := cells + 3) (n := slots + 18) (by omega) (by omega) ?_
    exact kk T2 _ _ _ hI2 (lv_sub hl [2, 3, 4, 5, 6] rfl) w

theorem hdV_X7_meanVolume : yX7_meanVolume.cls = RX7 ∧ yX7_meanVolume.cls ≠ "java/lang/invoke/MethodHandle" ∧ yX7_meanVolume.cls ≠ "java/lang/invoke/VarHandle" ∧ (parseMethodDescriptor yX7_meanVolume.desc).map (fun d => d.parameters.length) = some 0 := by decide +kernel
theorem hdV_X8_meanVolume : yX8_meanVolume.cls = RX8 ∧ yX8_meanVolume.cls ≠ "java/lang/invoke/MethodHandle" ∧ yX8_meanVolume.cls ≠ "java/lang/invoke/VarHandle" ∧ (parseMethodDescriptor yX8_meanVolume.desc).map (fun d => d.parameters.length) = some 0 := by decide +kernel
set_option maxRecDepth 100000 in
set_option maxHeartbeats 4000000 in
theorem cs_19 (l : Launch) (hst : l.stackTraces = false) (D : va_G) (Z : Nat → ClassId) (z : Nat → Nat → Nat) (b : Nat → Nat) (qo bs L : Nat) (xs : Nat → Int32) {p : Program} {e : Env} {s : State} {m : MethodId} {args : Array Value} {below : List Frame} {meth : Method} {c : Code} {A : Nat → Prop} {Q : State → Prop} (S : CallFix p m c cL_law 9 s args wsL_law RL) (X9 : XT A s s.heap) (hnc : NC s) (hscr : Scr bs L xs A s) (i : Nat) (hi : i + 6 ≤ L) (T : LawS) (hI : LI T) (H : Heap) (locs : List Loc) (ls : Array Slot) (cells slots : Nat) (hcl : cells + 3 ≤ 601024) (hsl : slots + 18 ≤ 7293034) (hl : lv_has ls 9 [(0, .ref bs), (1, .ref (z 0 0)), (2, .ref (b 0)), (3, .ref qo), (4, vI i)]) (w : Wd D Z A s (czW Z z T ++ joW Z qo T.fo ++ mdW Z b T) H locs) (kk : ∀ (T2 : LawS) (H2 : Heap) (locs2 : List Loc) (ls2 : Array Slot), LI T2 → lv_has ls2 9 [(0, .ref bs), (1, .ref (z 0 0)), (2, .ref (b 0)), (3, .ref qo), (4, vI i)] → Wd D Z A s (czW Z z T2 ++ joW Z qo T2.fo ++ mdW Z b T2) H2 locs2 → W p l e room_1 s m args below meth c H2 locs2 (cells + 3) (slots + 18) Q (F0 m 1543 ls2 [])) : W p l e room_1 s m args below meth c H locs cells slots Q (F0 m 1362 ls []) := by
  refine lv_aload_n S.1 S.2.1 dL_law_1362 rfl (lv_at hl 1 rfl) ?_
  obtain ⟨N, T2, hI2, hfo, hnan, h7, hm⟩ := pd_meanVolume l D Z z b T hI
  refine nl_d [] (joW Z qo T.fo ++ mdW Z b T) (ws' := czW Z z T2 ++ joW Z qo T.fo ++ mdW Z b T) (rest := []) S w hl.1 h7 (by simp only [List.nil_append, List.append_assoc]) adr_cz (by simp only [List.nil_append, List.append_assoc]) gL_law_X7_meanVolume rfl hdV_X7_meanVolume ⟨(Nat.le_of_ble_eq_true rfl), (Nat.le_of_ble_eq_true rfl)⟩ (q0 := 0) rfl rfl rfl rfl (Nat.le_of_ble_eq_true rfl) ⟨Nat.le_trans (show cells ≤ cells + 3 by omega) hcl, Nat.le_trans (show slots ≤ slots + 18 by omega) hsl⟩ dL_law_1363 (fun H locs w => ?_)
  refine lv_dstore (lv' := [(5, .double N), (0, .ref bs), (1, .ref (z 0 0)), (2, .ref (b 0)), (3, .ref qo), (4, vI i)]) S.1 S.2.1 dL_law_1366 hl (by decide) rfl (fun ls hl => ?_)
  refine lv_aload_n S.1 S.2.1 dL_law_1368 rfl (lv_at hl 3 rfl) ?_
  refine nl_d (czW Z z T2 ++ joW Z qo T.fo) [] (ws' := czW Z z T2 ++ joW Z qo T2.fo ++ mdW Z b T2) (rest := []) S w hl.1 hm (by simp only [List.append_nil]) adr_md (by simp only [List.append_nil, hfo]) gL_law_X8_meanVolume rfl hdV_X8_meanVolume ⟨(Nat.le_of_ble_eq_true rfl), (Nat.le_of_ble_eq_true rfl)⟩ (q0 := 0) rfl rfl rfl rfl (Nat.le_of_ble_eq_true rfl) ⟨Nat.le_trans (show cells ≤ cells + 3 by omega) hcl, Nat.le_trans (show slots ≤ slots + 18 by omega) hsl⟩ dL_law_1369 (fun H locs w => ?_)
  refine lv_dstore (lv' := [(7, .double N), (5, .double N), (0, .ref bs), (1, .ref (z 0 0)), (2, .ref (b 0)), (3, .ref qo), (4, vI i)]) S.1 S.2.1 dL_law_1372 hl (by decide) rfl (fun ls hl => ?_)
  refine lv_dload S.1 S.2.1 dL_law_1374 (lv_at hl 1 rfl) ?_
  refine lv_dload S.1 S.2.1 dL_law_1376 (lv_at hl 0 rfl) ?_
  refine lv_dcmp S.1 S.2.1 dL_law_1378 ?_
  refine W.eq (g2 := F0 m 1379 ls [.int 0]) (by rw [hnan]) ?_
  refine lv_if_eq (tgt := 1400) S.1 S.2.1 dL_law_1379 (by decide) (fun _ => ?_) (fun h9 => absurd rfl h9)
  refine lv_goto (tgt := 1543) S.1 S.2.1 dL_law_1400 (by decide) ?_
  refine W.widen (k := cells + 3) (n := slots + 18) (by omega) (by omega) ?_
  exact kk T2 _ _ _ hI2 (lv_sub hl [2, 3, 4, 5, 6] rfl) w
