theorem hdS_L_setNote : yL_setNote.cls ≠ "java/lang/invoke/MethodHandle" ∧ yL_setNote.cls ≠ "java/lang/invoke/VarHandle" ∧ (parseMethodDescriptor yL_setNote.desc).map (fun d => d.parameters.length) = some 7 := by decide +kernel
theorem hdV_X8_setNote : yX8_setNote.cls = RX8 ∧ yX8_setNote.cls ≠ "java/lang/invoke/MethodHandle" ∧ yX8_setNote.cls ≠ "java/lang/invoke/VarHandle" ∧ (parseMethodDescriptor yX8_setNote.desc).map (fun d => d.parameters.length) = some 5 := by decide +kernel
theorem hdV_X8_thrown : yX8_thrown.cls = RX8 ∧ yX8_thrown.cls ≠ "java/lang/invoke/MethodHandle" ∧ yX8_thrown.cls ≠ "java/lang/invoke/VarHandle" ∧ (parseMethodDescriptor yX8_thrown.desc).map (fun d => d.parameters.length) = some 0 := by decide +kernel
set_option maxRecDepth 100000 in
set_option maxHeartbeats 4000000 in
theorem cs_0 (l : Launch) (hst : l.stackTraces = false) (D : va_G) (Z : Nat → ClassId) (z : Nat → Nat → Nat) (b : Nat → Nat) (qo bs L : Nat) (xs : Nat → Int32) {p : Program} {e : Env} {s : State} {m : MethodId} {args : Array Value} {below : List Frame} {meth : Method} {c : Code} {A : Nat → Prop} {Q : State → Prop} (S : CallFix p m c cL_law 9 s args wsL_law RL) (X9 : XT A s s.heap) (hnc : NC s) (hscr : Scr bs L xs A s) (i : Nat) (hi : i + 6 ≤ L) (T : LawS) (hI : LI T) (H : Heap) (locs : List Loc) (ls : Array Slot) (cells slots : Nat) (hcl : cells + 3 ≤ 601024) (hsl : slots + 18 ≤ 7293034) (hl : lv_has ls 9 [(0, .ref bs), (1, .ref (z 0 0)), (2, .ref (b 0)), (3, .ref qo), (4, vI i)]) (w : Wd D Z A s (czW Z z T ++ joW Z qo T.fo ++ mdW Z b T) H locs) (kk : ∀ (T2 : LawS) (H2 : Heap) (locs2 : List Loc) (ls2 : Array Slot), LI T2 → lv_has ls2 9 [(0, .ref bs), (1, .ref (z 0 0)), (2, .ref (b 0)), (3, .ref qo), (4, vI i)] → Wd D Z A s (czW Z z T2 ++ joW Z qo T2.fo ++ mdW Z b T2) H2 locs2 → W p l e room_1 s m args below meth c H2 locs2 (cells + 3) (slots + 18) Q (F0 m 1543 ls2 [])) : W p l e room_1 s m args below meth c H locs cells slots Q (F0 m 156 ls []) := by
  refine lv_aload_n S.1 S.2.1 dL_law_156 rfl (lv_at hl 1 rfl) ?_
  refine lv_aload_n S.1 S.2.1 dL_law_157 rfl (lv_at hl 0 rfl) ?_
  refine lv_iload S.1 S.2.1 dL_law_158 (lv_at hl 4 rfl) ?_
  refine lv_iconst (v := nI 1) S.1 S.2.1 dL_law_160 (ofInt_nI 1) ?_
  refine nv_iadd S dL_law_161 ?_
  refine nl_sld S w hscr (i := (i + 1)) (by omega) dL_law_162 ?_
  refine lv_aload_n S.1 S.2.1 dL_law_163 rfl (lv_at hl 0 rfl) ?_
  refine lv_iload S.1 S.2.1 dL_law_164 (lv_at hl 4 rfl) ?_
  refine lv_iconst (v := nI 2) S.1 S.2.1 dL_law_166 (ofInt_nI 2) ?_
  refine nv_iadd S dL_law_167 ?_
  refine nl_sld S w hscr (i := (i + 2)) (by omega) dL_law_168 ?_
  refine lv_aload_n S.1 S.2.1 dL_law_169 rfl (lv_at hl 0 rfl) ?_
  refine lv_iload S.1 S.2.1 dL_law_170 (lv_at hl 4 rfl) ?_
  refine lv_iconst (v := nI 3) S.1 S.2.1 dL_law_172 (ofInt_nI 3) ?_
  refine nv_iadd S dL_law_173 ?_
  refine nl_sld S w hscr (i := (i + 3)) (by omega) dL_law_174 ?_
  refine lv_aload_n S.1 S.2.1 dL_law_175 rfl (lv_at hl 0 rfl) ?_
  refine lv_iload S.1 S.2.1 dL_law_176 (lv_at hl 4 rfl) ?_
  refine lv_iconst (v := nI 4) S.1 S.2.1 dL_law_178 (ofInt_nI 4) ?_
  refine nv_iadd S dL_law_179 ?_
  refine nl_sld S w hscr (i := (i + 4)) (by omega) dL_law_180 ?_
  refine lv_aload_n S.1 S.2.1 dL_law_181 rfl (lv_at hl 0 rfl) ?_
  refine lv_iload S.1 S.2.1 dL_law_182 (lv_at hl 4 rfl) ?_
  refine lv_iconst (v := nI 5) S.1 S.2.1 dL_law_184 (ofInt_nI 5) ?_
  refine nv_iadd S dL_law_185 ?_
  refine nl_sld S w hscr (i := (i + 5)) (by omega) dL_law_186 ?_
  refine lv_aload_n S.1 S.2.1 dL_law_187 rfl (lv_at hl 3 rfl) ?_
  obtain ⟨K, N, T2, hI2, hth, hK2, hfo, hc, hm⟩ := pr_setNote l hst D Z z b qo T hI (xs (i + 1)) (xs (i + 2)) (xs (i + 3)) (xs (i + 4)) (xs (i + 5))
  refine nl_h (rest := []) S w X9 hnc hl.1 hc adr_jo gL_law_L_setNote rfl hdS_L_setNote ⟨(Nat.le_of_ble_eq_true rfl), (Nat.le_of_ble_eq_true rfl)⟩ rfl rfl (Nat.le_of_ble_eq_true rfl) ⟨Nat.le_trans (show cells + 3 ≤ cells + 3 by omega) hcl, Nat.le_trans (show slots + 18 ≤ slots + 18 by omega) hsl⟩ dL_law_188 (fun H locs w => ?_)
  refine lv_istore (lv' := [(5, vI K), (0, .ref bs), (1, .ref (z 0 0)), (2, .ref (b 0)), (3, .ref qo), (4, vI i)]) S.1 S.2.1 dL_law_191 hl (by decide) rfl (fun ls hl => ?_)
  refine lv_aload_n S.1 S.2.1 dL_law_193 rfl (lv_at hl 3 rfl) ?_
  refine lv_aload_n S.1 S.2.1 dL_law_194 rfl (lv_at hl 1 rfl) ?_
  refine lv_iload S.1 S.2.1 dL_law_195 (lv_at hl 5 rfl) ?_
  refine lv_iconst (v := nI 1) S.1 S.2.1 dL_law_197 (ofInt_nI 1) ?_
  refine nv_iadd S dL_law_198 ?_
  refine nl_sld S w hscr (i := (i + 1)) (by omega) dL_law_199 ?_
  refine lv_aload_n S.1 S.2.1 dL_law_200 rfl (lv_at hl 1 rfl) ?_
  refine lv_iload S.1 S.2.1 dL_law_201 (lv_at hl 5 rfl) ?_
  refine lv_iconst (v := nI 2) S.1 S.2.1 dL_law_203 (ofInt_nI 2) ?_
  refine nv_iadd S dL_law_204 ?_
  refine nl_sld S w hscr (i := (i + 2)) (by omega) dL_law_205 ?_
  refine lv_aload_n S.1 S.2.1 dL_law_206 rfl (lv_at hl 1 rfl) ?_
  refine lv_iload S.1 S.2.1 dL_law_207 (lv_at hl 5 rfl) ?_
  refine lv_iconst (v := nI 3) S.1 S.2.1 dL_law_209 (ofInt_nI 3) ?_
  refine nv_iadd S dL_law_210 ?_
  refine nl_sld S w hscr (i := (i + 3)) (by omega) dL_law_211 ?_
  refine lv_aload_n S.1 S.2.1 dL_law_212 rfl (lv_at hl 1 rfl) ?_
  refine lv_iload S.1 S.2.1 dL_law_213 (lv_at hl 5 rfl) ?_
  refine lv_iconst (v := nI 4) S.1 S.2.1 dL_law_215 (ofInt_nI 4) ?_
  refine nv_iadd S dL_law_216 ?_
  refine nl_sld S w hscr (i := (i + 4)) (by omega) dL_law_217 ?_
  refine lv_aload_n S.1 S.2.1 dL_law_218 rfl (lv_at hl 1 rfl) ?_
  refine lv_iload S.1 S.2.1 dL_law_219 (lv_at hl 5 rfl) ?_
  refine lv_iconst (v := nI 5) S.1 S.2.1 dL_law_221 (ofInt_nI 5) ?_
  refine nv_iadd S dL_law_222 ?_
  refine nl_sld S w hscr (i := (i + 5)) (by omega) dL_law_223 ?_
  refine nv_fVi (czW Z z T2 ++ joW Z qo T2.fo) [] (ws' := czW Z z T2 ++ joW Z qo T2.fo ++ mdW Z b T2) (rest := []) S w hl.1 hm (by simp only [List.append_nil]) adr_md (by simp only [List.append_nil]) gL_law_X8_setNote rfl hdV_X8_setNote ⟨(Nat.le_of_ble_eq_true rfl), (Nat.le_of_ble_eq_true rfl)⟩ (q0 := 0) rfl rfl rfl rfl (Nat.le_of_ble_eq_true rfl) ⟨Nat.le_trans (show cells + 3 ≤ cells + 3 by omega) hcl, Nat.le_trans (show slots + 18 ≤ slots + 18 by omega) hsl⟩ dL_law_224 (fun H locs w => ?_)
  refine lv_istore (lv' := [(6, .int N), (5, vI K), (0, .ref bs), (1, .ref (z 0 0)), (2, .ref (b 0)), (3, .ref qo), (4, vI i)]) S.1 S.2.1 dL_law_227 hl (by decide) rfl (fun ls hl => ?_)
  refine lv_aload_n S.1 S.2.1 dL_law_229 rfl (lv_at hl 4 rfl) ?_
  refine nv_gVi (wc := mdW Z b T2) (czW Z z T2 ++ joW Z qo T2.fo) [] (rest := []) S w hl.1 (c_X8_thrown l D Z b T2.M T2.sv T2.sd T2.n T2.th T2.tl T2.pl T2.ro T2.nu T2.t T2.r) (by simp only [List.append_nil]) gL_law_X8_thrown rfl hdV_X8_thrown ⟨(Nat.le_of_ble_eq_true rfl), (Nat.le_of_ble_eq_true rfl)⟩ (q0 := 0) rfl rfl rfl rfl (Nat.le_of_ble_eq_true rfl) ⟨Nat.le_trans (show cells + 3 ≤ cells + 3 by omega) hcl, Nat.le_trans (show slots + 18 ≤ slots + 18 by omega) hsl⟩ dL_law_230 (fun H locs w => ?_)
  refine W.eq (g2 := F0 m 233 ls [vI K]) (by rw [hth]) ?_
  refine lv_iload S.1 S.2.1 dL_law_233 (lv_at hl 1 rfl) ?_
  refine lv_icmp_eq (tgt := 240) S.1 S.2.1 dL_law_235 (by decide) (fun _ => ?_) (fun h9 => absurd rfl h9)
  refine lv_iload S.1 S.2.1 dL_law_240 (lv_at hl 1 rfl) ?_
  refine nv_if_ne S (by omega) (tgt := 257) dL_law_242 (by decide) (fun h_1 => ?_) (fun h_1 => ?_)
  · skip
    refine lv_goto (tgt := 1543) S.1 S.2.1 dL_law_257 (by decide) ?_
    refine W.widen (k := cells + 3) (n := slots + 18) (by omega) (by omega) ?_
    exact kk T2 _ _ _ hI2 (lv_sub hl [2, 3, 4, 5, 6] rfl) w
  · skip
    refine lv_aload_n S.1 S.2.1 dL_law_245 rfl (lv_at hl 5 rfl) ?_
    refine lv_iconst (v := nI 0) S.1 S.2.1 dL_law_246 (ofInt_nI 0) ?_
    refine nl_lald (czW Z z T2) (mdW Z b T2) S w dL_law_247 ?_
    refine W.eq (g2 := F0 m 248 ls [.long (N.toInt64)]) (by rw [hfo h_1]) ?_
    refine lv_iload S.1 S.2.1 dL_law_248 (lv_at hl 0 rfl) ?_
    refine lv_i2l (v := N.toInt64) S.1 S.2.1 dL_law_250 rfl ?_
    refine W.lcmp S.1 S.2.1 dL_law_251 ?_
    refine W.eq (g2 := F0 m 252 ls [.int 0]) (by rw [lg_cmp_self]) ?_
    refine lv_if_eq (tgt := 257) S.1 S.2.1 dL_law_252 (by decide) (fun _ => ?_) (fun h9 => absurd rfl h9)
    refine lv_goto (tgt := 1543) S.1 S.2.1 dL_law_257 (by decide) ?_
    refine W.widen (k := cells + 3) (n := slots + 18) (by omega) (by omega) ?_
    exact kk T2 _ _ _ hI2 (lv_sub hl [2, 3, 4, 5, 6] rfl) w

theorem hdS_L_setEffect : yL_setEffect.cls ≠ "java/lang/invoke/MethodHandle" ∧ yL_setEffect.cls ≠ "java/lang/invoke/VarHandle" ∧ (parseMethodDescriptor yL_setEffect.desc).map (fun d => d.parameters.length) = some 7 := by decide +kernel
theorem hdV_X8_setEffect : yX8_setEffect.cls = RX8 ∧ yX8_setEffect.cls ≠ "java/lang/invoke/MethodHandle" ∧ yX8_setEffect.cls ≠ "java/lang/invoke/VarHandle" ∧ (parseMethodDescriptor yX8_setEffect.desc).map (fun d => d.parameters.length) = some 5 := by decide +kernel
set_option maxRecDepth 100000 in
set_option maxHeartbeats 4000000 in
theorem cs_1 (l : Launch) (hst : l.stackTraces = false) (D : va_G) (Z : Nat → ClassId) (z : Nat → Nat → Nat) (b : Nat → Nat) (qo bs L : Nat) (xs : Nat → Int32) {p : Program} {e : Env} {s : State} {m : MethodId} {args : Array Value} {below : List Frame} {meth : Method} {c : Code} {A : Nat → Prop} {Q : State → Prop} (S : CallFix p m c cL_law 9 s args wsL_law RL) (X9 : XT A s s.heap) (hnc : NC s) (hscr : Scr bs L xs A s) (i : Nat) (hi : i + 6 ≤ L) (T : LawS) (hI : LI T) (H : Heap) (locs : List Loc) (ls : Array Slot) (cells slots : Nat) (hcl : cells + 3 ≤ 601024) (hsl : slots + 18 ≤ 7293034) (hl : lv_has ls 9 [(0, .ref bs), (1, .ref (z 0 0)), (2, .ref (b 0)), (3, .ref qo), (4, vI i)]) (w : Wd D Z A s (czW Z z T ++ joW Z qo T.fo ++ mdW Z b T) H locs) (kk : ∀ (T2 : LawS) (H2 : Heap) (locs2 : List Loc) (ls2 : Array Slot), LI T2 → lv_has ls2 9 [(0, .ref bs), (1, .ref (z 0 0)), (2, .ref (b 0)), (3, .ref qo), (4, vI i)] → Wd D Z A s (czW Z z T2 ++ joW Z qo T2.fo ++ mdW Z b T2) H2 locs2 → W p l e room_1 s m args below meth c H2 locs2 (cells + 3) (slots + 18) Q (F0 m 1543 ls2 [])) : W p l e room_1 s m args below meth c H locs cells slots Q (F0 m 260 ls []) := by
  refine lv_aload_n S.1 S.2.1 dL_law_260 rfl (lv_at hl 1 rfl) ?_
  refine lv_aload_n S.1 S.2.1 dL_law_261 rfl (lv_at hl 0 rfl) ?_
  refine lv_iload S.1 S.2.1 dL_law_262 (lv_at hl 4 rfl) ?_
  refine lv_iconst (v := nI 1) S.1 S.2.1 dL_law_264 (ofInt_nI 1) ?_
  refine nv_iadd S dL_law_265 ?_
  refine nl_sld S w hscr (i := (i + 1)) (by omega) dL_law_266 ?_
  refine lv_aload_n S.1 S.2.1 dL_law_267 rfl (lv_at hl 0 rfl) ?_
  refine lv_iload S.1 S.2.1 dL_law_268 (lv_at hl 4 rfl) ?_
  refine lv_iconst (v := nI 2) S.1 S.2.1 dL_law_270 (ofInt_nI 2) ?_
  refine nv_iadd S dL_law_271 ?_
  refine nl_sld S w hscr (i := (i + 2)) (by omega) dL_law_272 ?_
  refine lv_aload_n S.1 S.2.1 dL_law_273 rfl (lv_at hl 0 rfl) ?_
  refine lv_iload S.1 S.2.1 dL_law_274 (lv_at hl 4 rfl) ?_
  refine lv_iconst (v := nI 3) S.1 S.2.1 dL_law_276 (ofInt_nI 3) ?_
  refine nv_iadd S dL_law_277 ?_
  refine nl_sld S w hscr (i := (i + 3)) (by omega) dL_law_278 ?_
  refine lv_aload_n S.1 S.2.1 dL_law_279 rfl (lv_at hl 0 rfl) ?_
  refine lv_iload S.1 S.2.1 dL_law_280 (lv_at hl 4 rfl) ?_
  refine lv_iconst (v := nI 4) S.1 S.2.1 dL_law_282 (ofInt_nI 4) ?_
  refine nv_iadd S dL_law_283 ?_
  refine nl_sld S w hscr (i := (i + 4)) (by omega) dL_law_284 ?_
  refine lv_aload_n S.1 S.2.1 dL_law_285 rfl (lv_at hl 0 rfl) ?_
  refine lv_iload S.1 S.2.1 dL_law_286 (lv_at hl 4 rfl) ?_
  refine lv_iconst (v := nI 5) S.1 S.2.1 dL_law_288 (ofInt_nI 5) ?_
  refine nv_iadd S dL_law_289 ?_
  refine nl_sld S w hscr (i := (i + 5)) (by omega) dL_law_290 ?_
  refine lv_aload_n S.1 S.2.1 dL_law_291 rfl (lv_at hl 3 rfl) ?_
  obtain ⟨K, N, T2, hI2, hth, hK2, hfo, hc, hm⟩ := pr_setEffect l hst D Z z b qo T hI (xs (i + 1)) (xs (i + 2)) (xs (i + 3)) (xs (i + 4)) (xs (i + 5))
  refine nl_h (rest := []) S w X9 hnc hl.1 hc adr_jo gL_law_L_setEffect rfl hdS_L_setEffect ⟨(Nat.le_of_ble_eq_true rfl), (Nat.le_of_ble_eq_true rfl)⟩ rfl rfl (Nat.le_of_ble_eq_true rfl) ⟨Nat.le_trans (show cells + 3 ≤ cells + 3 by omega) hcl, Nat.le_trans (show slots + 18 ≤ slots + 18 by omega) hsl⟩ dL_law_292 (fun H locs w => ?_)
  refine lv_istore (lv' := [(5, vI K), (0, .ref bs), (1, .ref (z 0 0)), (2, .ref (b 0)), (3, .ref qo), (4, vI i)]) S.1 S.2.1 dL_law_295 hl (by decide) rfl (fun ls hl => ?_)
  refine lv_aload_n S.1 S.2.1 dL_law_297 rfl (lv_at hl 3 rfl) ?_
  refine lv_aload_n S.1 S.2.1 dL_law_298 rfl (lv_at hl 1 rfl) ?_
  refine lv_iload S.1 S.2.1 dL_law_299 (lv_at hl 5 rfl) ?_
  refine lv_iconst (v := nI 1) S.1 S.2.1 dL_law_301 (ofInt_nI 1) ?_
  refine nv_iadd S dL_law_302 ?_
  refine nl_sld S w hscr (i := (i + 1)) (by omega) dL_law_303 ?_
  refine lv_aload_n S.1 S.2.1 dL_law_304 rfl (lv_at hl 1 rfl) ?_
  refine lv_iload S.1 S.2.1 dL_law_305 (lv_at hl 5 rfl) ?_
  refine lv_iconst (v := nI 2) S.1 S.2.1 dL_law_307 (ofInt_nI 2) ?_
  refine nv_iadd S dL_law_308 ?_
  refine nl_sld S w hscr (i := (i + 2)) (by omega) dL_law_309 ?_
  refine lv_aload_n S.1 S.2.1 dL_law_310 rfl (lv_at hl 1 rfl) ?_
  refine lv_iload S.1 S.2.1 dL_law_311 (lv_at hl 5 rfl) ?_
  refine lv_iconst (v := nI 3) S.1 S.2.1 dL_law_313 (ofInt_nI 3) ?_
  refine nv_iadd S dL_law_314 ?_
  refine nl_sld S w hscr (i := (i + 3)) (by omega) dL_law_315 ?_
  refine lv_aload_n S.1 S.2.1 dL_law_316 rfl (lv_at hl 1 rfl) ?_
  refine lv_iload S.1 S.2.1 dL_law_317 (lv_at hl 5 rfl) ?_
  refine lv_iconst (v := nI 4) S.1 S.2.1 dL_law_319 (ofInt_nI 4) ?_
  refine nv_iadd S dL_law_320 ?_
  refine nl_sld S w hscr (i := (i + 4)) (by omega) dL_law_321 ?_
  refine lv_aload_n S.1 S.2.1 dL_law_322 rfl (lv_at hl 1 rfl) ?_
  refine lv_iload S.1 S.2.1 dL_law_323 (lv_at hl 5 rfl) ?_
  refine lv_iconst (v := nI 5) S.1 S.2.1 dL_law_325 (ofInt_nI 5) ?_
  refine nv_iadd S dL_law_326 ?_
  refine nl_sld S w hscr (i := (i + 5)) (by omega) dL_law_327 ?_
  refine nv_fVi (czW Z z T2 ++ joW Z qo T2.fo) [] (ws' := czW Z z T2 ++ joW Z qo T2.fo ++ mdW Z b T2) (rest := []) S w hl.1 hm (by simp only [List.append_nil]) adr_md (by simp only [List.append_nil]) gL_law_X8_setEffect rfl hdV_X8_setEffect ⟨(Nat.le_of_ble_eq_true rfl), (Nat.le_of_ble_eq_true rfl)⟩ (q0 := 0) rfl rfl rfl rfl (Nat.le_of_ble_eq_true rfl) ⟨Nat.le_trans (show cells + 3 ≤ cells + 3 by omega) hcl, Nat.le_trans (show slots + 18 ≤ slots + 18 by omega) hsl⟩ dL_law_328 (fun H locs w => ?_)
  refine lv_istore (lv' := [(6, .int N), (5, vI K), (0, .ref bs), (1, .ref (z 0 0)), (2, .ref (b 0)), (3, .ref qo), (4, vI i)]) S.1 S.2.1 dL_law_331 hl (by decide) rfl (fun ls hl => ?_)
  refine lv_aload_n S.1 S.2.1 dL_law_333 rfl (lv_at hl 4 rfl) ?_
  refine nv_gVi (wc := mdW Z b T2) (czW Z z T2 ++ joW Z qo T2.fo) [] (rest := []) S w hl.1 (c_X8_thrown l D Z b T2.M T2.sv T2.sd T2.n T2.th T2.tl T2.pl T2.ro T2.nu T2.t T2.r) (by simp only [List.append_nil]) gL_law_X8_thrown rfl hdV_X8_thrown ⟨(Nat.le_of_ble_eq_true rfl), (Nat.le_of_ble_eq_true rfl)⟩ (q0 := 0) rfl rfl rfl rfl (Nat.le_of_ble_eq_true rfl) ⟨Nat.le_trans (show cells + 3 ≤ cells + 3 by omega) hcl, Nat.le_trans (show slots + 18 ≤ slots + 18 by omega) hsl⟩ dL_law_334 (fun H locs w => ?_)
  refine W.eq (g2 := F0 m 337 ls [vI K]) (by rw [hth]) ?_
  refine lv_iload S.1 S.2.1 dL_law_337 (lv_at hl 1 rfl) ?_
  refine lv_icmp_eq (tgt := 344) S.1 S.2.1 dL_law_339 (by decide) (fun _ => ?_) (fun h9 => absurd rfl h9)
  refine lv_iload S.1 S.2.1 dL_law_344 (lv_at hl 1 rfl) ?_
  refine nv_if_ne S (by omega) (tgt := 361) dL_law_346 (by decide) (fun h_1 => ?_) (fun h_1 => ?_)
  · skip
    refine lv_goto (tgt := 1543) S.1 S.2.1 dL_law_361 (by decide) ?_
    refine W.widen (k := cells + 3) (n := slots + 18) (by omega) (by omega) ?_
    exact kk T2 _ _ _ hI2 (lv_sub hl [2, 3, 4, 5, 6] rfl) w
  · skip
    refine lv_aload_n S.1 S.2.1 dL_law_349 rfl (lv_at hl 5 rfl) ?_
    refine lv_iconst (v := nI 0) S.1 S.2.1 dL_law_350 (ofInt_nI 0) ?_
    refine nl_lald (czW Z z T2) (mdW Z b T2) S w dL_law_351 ?_
    refine W.eq (g2 := F0 m 352 ls [.long (N.toInt64)]) (by rw [hfo h_1]) ?_
    refine lv_iload S.1 S.2.1 dL_law_352 (lv_at hl 0 rfl) ?_
    refine lv_i2l (v := N.toInt64) S.1 S.2.1 dL_law_354 rfl ?_
    refine W.lcmp S.1 S.2.1 dL_law_355 ?_
    refine W.eq (g2 := F0 m 356 ls [.int 0]) (by rw [lg_cmp_self]) ?_
    refine lv_if_eq (tgt := 361) S.1 S.2.1 dL_law_356 (by decide) (fun _ => ?_) (fun h9 => absurd rfl h9)
    refine lv_goto (tgt := 1543) S.1 S.2.1 dL_law_361 (by decide) ?_
    refine W.widen (k := cells + 3) (n := slots + 18) (by omega) (by omega) ?_
    exact kk T2 _ _ _ hI2 (lv_sub hl [2, 3, 4, 5, 6] rfl) w

theorem hdS_L_setRows : yL_setRows.cls ≠ "java/lang/invoke/MethodHandle" ∧ yL_setRows.cls ≠ "java/lang/invoke/VarHandle" ∧ (parseMethodDescriptor yL_setRows.desc).map (fun d => d.parameters.length) = some 4 := by decide +kernel
theorem hdV_X8_setRows : yX8_setRows.cls = RX8 ∧ yX8_setRows.cls ≠ "java/lang/invoke/MethodHandle" ∧ yX8_setRows.cls ≠ "java/lang/invoke/VarHandle" ∧ (parseMethodDescriptor yX8_setRows.desc).map (fun d => d.parameters.length) = some 2 := by decide +kernel
set_option maxRecDepth 100000 in
set_option maxHeartbeats 4000000 in
theorem cs_2 (l : Launch) (hst : l.stackTraces = false) (D : va_G) (Z : Nat → ClassId) (z : Nat → Nat → Nat) (b : Nat → Nat) (qo bs L : Nat) (xs : Nat → Int32) {p : Program} {e : Env} {s : State} {m : MethodId} {args : Array Value} {below : List Frame} {meth : Method} {c : Code} {A : Nat → Prop} {Q : State → Prop} (S : CallFix p m c cL_law 9 s args wsL_law RL) (X9 : XT A s s.heap) (hnc : NC s) (hscr : Scr bs L xs A s) (i : Nat) (hi : i + 6 ≤ L) (T : LawS) (hI : LI T) (H : Heap) (locs : List Loc) (ls : Array Slot) (cells slots : Nat) (hcl : cells + 3 ≤ 601024) (hsl : slots + 18 ≤ 7293034) (hl : lv_has ls 9 [(0, .ref bs), (1, .ref (z 0 0)), (2, .ref (b 0)), (3, .ref qo), (4, vI i)]) (w : Wd D Z A s (czW Z z T ++ joW Z qo T.fo ++ mdW Z b T) H locs) (kk : ∀ (T2 : LawS) (H2 : Heap) (locs2 : List Loc) (ls2 : Array Slot), LI T2 → lv_has ls2 9 [(0, .ref bs), (1, .ref (z 0 0)), (2, .ref (b 0)), (3, .ref qo), (4, vI i)] → Wd D Z A s (czW Z z T2 ++ joW Z qo T2.fo ++ mdW Z b T2) H2 locs2 → W p l e room_1 s m args below meth c H2 locs2 (cells + 3) (slots + 18) Q (F0 m 1543 ls2 [])) : W p l e room_1 s m args below meth c H locs cells slots Q (F0 m 364 ls []) := by
  refine lv_aload_n S.1 S.2.1 dL_law_364 rfl (lv_at hl 1 rfl) ?_
  refine lv_aload_n S.1 S.2.1 dL_law_365 rfl (lv_at hl 0 rfl) ?_
  refine lv_iload S.1 S.2.1 dL_law_366 (lv_at hl 4 rfl) ?_
  refine lv_iconst (v := nI 1) S.1 S.2.1 dL_law_368 (ofInt_nI 1) ?_
  refine nv_iadd S dL_law_369 ?_
  refine nl_sld S w hscr (i := (i + 1)) (by omega) dL_law_370 ?_
  refine lv_aload_n S.1 S.2.1 dL_law_371 rfl (lv_at hl 0 rfl) ?_
  refine lv_iload S.1 S.2.1 dL_law_372 (lv_at hl 4 rfl) ?_
  refine lv_iconst (v := nI 2) S.1 S.2.1 dL_law_374 (ofInt_nI 2) ?_
  refine nv_iadd S dL_law_375 ?_
  refine nl_sld S w hscr (i := (i + 2)) (by omega) dL_law_376 ?_
  refine lv_aload_n S.1 S.2.1 dL_law_377 rfl (lv_at hl 3 rfl) ?_
  obtain ⟨K, N, T2, hI2, hth, hK2, hfo, hc, hm⟩ := pr_setRows l hst D Z z b qo T hI (xs (i + 1)) (xs (i + 2))
  refine nl_h (rest := []) S w X9 hnc hl.1 hc adr_jo gL_law_L_setRows rfl hdS_L_setRows ⟨(Nat.le_of_ble_eq_true rfl), (Nat.le_of_ble_eq_true rfl)⟩ rfl rfl (Nat.le_of_ble_eq_true rfl) ⟨Nat.le_trans (show cells + 2 ≤ cells + 3 by omega) hcl, Nat.le_trans (show slots + 12 ≤ slots + 18 by omega) hsl⟩ dL_law_378 (fun H locs w => ?_)
  refine lv_istore (lv' := [(5, vI K), (0, .ref bs), (1, .ref (z 0 0)), (2, .ref (b 0)), (3, .ref qo), (4, vI i)]) S.1 S.2.1 dL_law_381 hl (by decide) rfl (fun ls hl => ?_)
  refine lv_aload_n S.1 S.2.1 dL_law_383 rfl (lv_at hl 3 rfl) ?_
  refine lv_aload_n S.1 S.2.1 dL_law_384 rfl (lv_at hl 1 rfl) ?_
  refine lv_iload S.1 S.2.1 dL_law_385 (lv_at hl 5 rfl) ?_
  refine lv_iconst (v := nI 1) S.1 S.2.1 dL_law_387 (ofInt_nI 1) ?_
  refine nv_iadd S dL_law_388 ?_
  refine nl_sld S w hscr (i := (i + 1)) (by omega) dL_law_389 ?_
  refine lv_aload_n S.1 S.2.1 dL_law_390 rfl (lv_at hl 1 rfl) ?_
  refine lv_iload S.1 S.2.1 dL_law_391 (lv_at hl 5 rfl) ?_
  refine lv_iconst (v := nI 2) S.1 S.2.1 dL_law_393 (ofInt_nI 2) ?_
  refine nv_iadd S dL_law_394 ?_
  refine nl_sld S w hscr (i := (i + 2)) (by omega) dL_law_395 ?_
  refine nv_fVi (czW Z z T2 ++ joW Z qo T2.fo) [] (ws' := czW Z z T2 ++ joW Z qo T2.fo ++ mdW Z b T2) (rest := []) S w hl.1 hm (by simp only [List.append_nil]) adr_md (by simp only [List.append_nil]) gL_law_X8_setRows rfl hdV_X8_setRows ⟨(Nat.le_of_ble_eq_true rfl), (Nat.le_of_ble_eq_true rfl)⟩ (q0 := 0) rfl rfl rfl rfl (Nat.le_of_ble_eq_true rfl) ⟨Nat.le_trans (show cells + 2 ≤ cells + 3 by omega) hcl, Nat.le_trans (show slots + 12 ≤ slots + 18 by omega) hsl⟩ dL_law_396 (fun H locs w => ?_)
  refine lv_istore (lv' := [(6, .int N), (5, vI K), (0, .ref bs), (1, .ref (z 0 0)), (2, .ref (b 0)), (3, .ref qo), (4, vI i)]) S.1 S.2.1 dL_law_399 hl (by decide) rfl (fun ls hl => ?_)
  refine lv_aload_n S.1 S.2.1 dL_law_401 rfl (lv_at hl 4 rfl) ?_
  refine nv_gVi (wc := mdW Z b T2) (czW Z z T2 ++ joW Z qo T2.fo) [] (rest := []) S w hl.1 (c_X8_thrown l D Z b T2.M T2.sv T2.sd T2.n T2.th T2.tl T2.pl T2.ro T2.nu T2.t T2.r) (by simp only [List.append_nil]) gL_law_X8_thrown rfl hdV_X8_thrown ⟨(Nat.le_of_ble_eq_true rfl), (Nat.le_of_ble_eq_true rfl)⟩ (q0 := 0) rfl rfl rfl rfl (Nat.le_of_ble_eq_true rfl) ⟨Nat.le_trans (show cells + 2 ≤ cells + 3 by omega) hcl, Nat.le_trans (show slots + 12 ≤ slots + 18 by omega) hsl⟩ dL_law_402 (fun H locs w => ?_)
  refine W.eq (g2 := F0 m 405 ls [vI K]) (by rw [hth]) ?_
  refine lv_iload S.1 S.2.1 dL_law_405 (lv_at hl 1 rfl) ?_
  refine lv_icmp_eq (tgt := 412) S.1 S.2.1 dL_law_407 (by decide) (fun _ => ?_) (fun h9 => absurd rfl h9)
  refine lv_iload S.1 S.2.1 dL_law_412 (lv_at hl 1 rfl) ?_
  refine nv_if_ne S (by omega) (tgt := 429) dL_law_414 (by decide) (fun h_1 => ?_) (fun h_1 => ?_)
  · skip
    refine lv_goto (tgt := 1543) S.1 S.2.1 dL_law_429 (by decide) ?_
    refine W.widen (k := cells + 3) (n := slots + 18) (by omega) (by omega) ?_
    exact kk T2 _ _ _ hI2 (lv_sub hl [2, 3, 4, 5, 6] rfl) w
  · skip
    refine lv_aload_n S.1 S.2.1 dL_law_417 rfl (lv_at hl 5 rfl) ?_
    refine lv_iconst (v := nI 0) S.1 S.2.1 dL_law_418 (ofInt_nI 0) ?_
    refine nl_lald (czW Z z T2) (mdW Z b T2) S w dL_law_419 ?_
    refine W.eq (g2 := F0 m 420 ls [.long (N.toInt64)]) (by rw [hfo h_1]) ?_
    refine lv_iload S.1 S.2.1 dL_law_420 (lv_at hl 0 rfl) ?_
    refine lv_i2l (v := N.toInt64) S.1 S.2.1 dL_law_422 rfl ?_
    refine W.lcmp S.1 S.2.1 dL_law_423 ?_
    refine W.eq (g2 := F0 m 424 ls [.int 0]) (by rw [lg_cmp_self]) ?_
    refine lv_if_eq (tgt := 429) S.1 S.2.1 dL_law_424 (by decide) (fun _ => ?_) (fun h9 => absurd rfl h9)
    refine lv_goto (tgt := 1543) S.1 S.2.1 dL_law_429 (by decide) ?_
    refine W.widen (k := cells + 3) (n := slots + 18) (by omega) (by omega) ?_
    exact kk T2 _ _ _ hI2 (lv_sub hl [2, 3, 4, 5, 6] rfl) w

theorem hdS_L_setOrder : yL_setOrder.cls ≠ "java/lang/invoke/MethodHandle" ∧ yL_setOrder.cls ≠ "java/lang/invoke/VarHandle" ∧ (parseMethodDescriptor yL_setOrder.desc).map (fun d => d.parameters.length) = some 4 := by decide +kernel
theorem hdV_X8_setOrder : yX8_setOrder.cls = RX8 ∧ yX8_setOrder.cls ≠ "java/lang/invoke/MethodHandle" ∧ yX8_setOrder.cls ≠ "java/lang/invoke/VarHandle" ∧ (parseMethodDescriptor yX8_setOrder.desc).map (fun d => d.parameters.length) = some 2 := by decide +kernel
set_option maxRecDepth 100000 in
set_option maxHeartbeats 4000000 in
theorem cs_3 (l : Launch) (hst : l.stackTraces = false) (D : va_G) (Z : Nat → ClassId) (z : Nat → Nat → Nat) (b : Nat → Nat) (qo bs L : Nat) (xs : Nat → Int32) {p : Program} {e : Env} {s : State} {m : MethodId} {args : Array Value} {below : List Frame} {meth : Method} {c : Code} {A : Nat → Prop} {Q : State → Prop} (S : CallFix p m c cL_law 9 s args wsL_law RL) (X9 : XT A s s.heap) (hnc : NC s) (hscr : Scr bs L xs A s) (i : Nat) (hi : i + 6 ≤ L) (T : LawS) (hI : LI T) (H : Heap) (locs : List Loc) (ls : Array Slot) (cells slots : Nat) (hcl : cells + 3 ≤ 601024) (hsl : slots + 18 ≤ 7293034) (hl : lv_has ls 9 [(0, .ref bs), (1, .ref (z 0 0)), (2, .ref (b 0)), (3, .ref qo), (4, vI i)]) (w : Wd D Z A s (czW Z z T ++ joW Z qo T.fo ++ mdW Z b T) H locs) (kk : ∀ (T2 : LawS) (H2 : Heap) (locs2 : List Loc) (ls2 : Array Slot), LI T2 → lv_has ls2 9 [(0, .ref bs), (1, .ref (z 0 0)), (2, .ref (b 0)), (3, .ref qo), (4, vI i)] → Wd D Z A s (czW Z z T2 ++ joW Z qo T2.fo ++ mdW Z b T2) H2 locs2 → W p l e room_1 s m args below meth c H2 locs2 (cells + 3) (slots + 18) Q (F0 m 1543 ls2 [])) : W p l e room_1 s m args below meth c H locs cells slots Q (F0 m 432 ls []) := by
  refine lv_aload_n S.1 S.2.1 dL_law_432 rfl (lv_at hl 1 rfl) ?_
  refine lv_aload_n S.1 S.2.1 dL_law_433 rfl (lv_at hl 0 rfl) ?_
  refine lv_iload S.1 S.2.1 dL_law_434 (lv_at hl 4 rfl) ?_
  refine lv_iconst (v := nI 1) S.1 S.2.1 dL_law_436 (ofInt_nI 1) ?_
  refine nv_iadd S dL_law_437 ?_
  refine nl_sld S w hscr (i := (i + 1)) (by omega) dL_law_438 ?_
  refine lv_aload_n S.1 S.2.1 dL_law_439 rfl (lv_at hl 0 rfl) ?_
  refine lv_iload S.1 S.2.1 dL_law_440 (lv_at hl 4 rfl) ?_
  refine lv_iconst (v := nI 2) S.1 S.2.1 dL_law_442 (ofInt_nI 2) ?_
  refine nv_iadd S dL_law_443 ?_
  refine nl_sld S w hscr (i := (i + 2)) (by omega) dL_law_444 ?_
  refine lv_aload_n S.1 S.2.1 dL_law_445 rfl (lv_at hl 3 rfl) ?_
  obtain ⟨K, N, T2, hI2, hth, hK2, hfo, hc, hm⟩ := pr_setOrder l hst D Z z b qo T hI (xs (i + 1)) (xs (i + 2))
  refine nl_h (rest := []) S w X9 hnc hl.1 hc adr_jo gL_law_L_setOrder rfl hdS_L_setOrder ⟨(Nat.le_of_ble_eq_true rfl), (Nat.le_of_ble_eq_true rfl)⟩ rfl rfl (Nat.le_of_ble_eq_true rfl) ⟨Nat.le_trans (show cells + 2 ≤ cells + 3 by omega) hcl, Nat.le_trans (show slots + 12 ≤ slots + 18 by omega) hsl⟩ dL_law_446 (fun H locs w => ?_)
  refine lv_istore (lv' := [(5, vI K), (0, .ref bs), (1, .ref (z 0 0)), (2, .ref (b 0)), (3, .ref qo), (4, vI i)]) S.1 S.2.1 dL_law_449 hl (by decide) rfl (fun ls hl => ?_)
  refine lv_aload_n S.1 S.2.1 dL_law_451 rfl (lv_at hl 3 rfl) ?_
  refine lv_aload_n S.1 S.2.1 dL_law_452 rfl (lv_at hl 1 rfl) ?_
  refine lv_iload S.1 S.2.1 dL_law_453 (lv_at hl 5 rfl) ?_
  refine lv_iconst (v := nI 1) S.1 S.2.1 dL_law_455 (ofInt_nI 1) ?_
  refine nv_iadd S dL_law_456 ?_
  refine nl_sld S w hscr (i := (i + 1)) (by omega) dL_law_457 ?_
  refine lv_aload_n S.1 S.2.1 dL_law_458 rfl (lv_at hl 1 rfl) ?_
  refine lv_iload S.1 S.2.1 dL_law_459 (lv_at hl 5 rfl) ?_
  refine lv_iconst (v := nI 2) S.1 S.2.1 dL_law_461 (ofInt_nI 2) ?_
  refine nv_iadd S dL_law_462 ?_
  refine nl_sld S w hscr (i := (i + 2)) (by omega) dL_law_463 ?_
  refine nv_fVi (czW Z z T2 ++ joW Z qo T2.fo) [] (ws' := czW Z z T2 ++ joW Z qo T2.fo ++ mdW Z b T2) (rest := []) S w hl.1 hm (by simp only [List.append_nil]) adr_md (by simp only [List.append_nil]) gL_law_X8_setOrder rfl hdV_X8_setOrder ⟨(Nat.le_of_ble_eq_true rfl), (Nat.le_of_ble_eq_true rfl)⟩ (q0 := 0) rfl rfl rfl rfl (Nat.le_of_ble_eq_true rfl) ⟨Nat.le_trans (show cells + 2 ≤ cells + 3 by omega) hcl, Nat.le_trans (show slots + 12 ≤ slots + 18 by omega) hsl⟩ dL_law_464 (fun H locs w => ?_)
  refine lv_istore (lv' := [(6, .int N), (5, vI K), (0, .ref bs), (1, .ref (z 0 0)), (2, .ref (b 0)), (3, .ref qo), (4, vI i)]) S.1 S.2.1 dL_law_467 hl (by decide) rfl (fun ls hl => ?_)
  refine lv_aload_n S.1 S.2.1 dL_law_469 rfl (lv_at hl 4 rfl) ?_
  refine nv_gVi (wc := mdW Z b T2) (czW Z z T2 ++ joW Z qo T2.fo) [] (rest := []) S w hl.1 (c_X8_thrown l D Z b T2.M T2.sv T2.sd T2.n T2.th T2.tl T2.pl T2.ro T2.nu T2.t T2.r) (by simp only [List.append_nil]) gL_law_X8_thrown rfl hdV_X8_thrown ⟨(Nat.le_of_ble_eq_true rfl), (Nat.le_of_ble_eq_true rfl)⟩ (q0 := 0) rfl rfl rfl rfl (Nat.le_of_ble_eq_true rfl) ⟨Nat.le_trans (show cells + 2 ≤ cells + 3 by omega) hcl, Nat.le_trans (show slots + 12 ≤ slots + 18 by omega) hsl⟩ dL_law_470 (fun H locs w => ?_)
  refine W.eq (g2 := F0 m 473 ls [vI K]) (by rw [hth]) ?_
  refine lv_iload S.1 S.2.1 dL_law_473 (lv_at hl 1 rfl) ?_
  refine lv_icmp_eq (tgt := 480) S.1 S.2.1 dL_law_475 (by decide) (fun _ => ?_) (fun h9 => absurd rfl h9)
  refine lv_iload S.1 S.2.1 dL_law_480 (lv_at hl 1 rfl) ?_
  refine nv_if_ne S (by omega) (tgt := 497) dL_law_482 (by decide) (fun h_1 => ?_) (fun h_1 => ?_)
  · skip
    refine lv_goto (tgt := 1543) S.1 S.2.1 dL_law_497 (by decide) ?_
    refine W.widen (k := cells + 3) (n := slots + 18) (by omega) (by omega) ?_
    exact kk T2 _ _ _ hI2 (lv_sub hl [2, 3, 4, 5, 6] rfl) w
  · skip
    refine lv_aload_n S.1 S.2.1 dL_law_485 rfl (lv_at hl 5 rfl) ?_
    refine lv_iconst (v := nI 0) S.1 S.2.1 dL_law_486 (ofInt_nI 0) ?_
    refine nl_lald (czW Z z T2) (mdW Z b T2) S w dL_law_487 ?_
    refine W.eq (g2 := F0 m 488 ls [.long (N.toInt64)]) (by rw [hfo h_1]) ?_
    refine lv_iload S.1 S.2.1 dL_law_488 (lv_at hl 0 rfl) ?_
    refine lv_i2l (v := N.toInt64) S.1 S.2.1 dL_law_490 rfl ?_
    refine W.lcmp S.1 S.2.1 dL_law_491 ?_
    refine W.eq (g2 := F0 m 492 ls [.int 0]) (by rw [lg_cmp_self]) ?_
    refine lv_if_eq (tgt := 497) S.1 S.2.1 dL_law_492 (by decide) (fun _ => ?_) (fun h9 => absurd rfl h9)
    refine lv_goto (tgt := 1543) S.1 S.2.1 dL_law_497 (by decide) ?_
    refine W.widen (k := cells + 3) (n := slots + 18) (by omega) (by omega) ?_
    exact kk T2 _ _ _ hI2 (lv_sub hl [2, 3, 4, 5, 6] rfl) w
