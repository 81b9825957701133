/-! calls on a block of the world: what stands before it and behind it is not looked at -/
theorem va_P_mem {D : va_G} {cl : List vw_C} {ws : va_W} {H : Heap} : va_P D cl ws H ↔ ∀ q ∈ ws, va_at D cl q H := by
  constructor
  · intro h q hq
    obtain ⟨k, hk⟩ := List.getElem?_of_mem hq
    exact h k q hk
  · intro h k q hk
    exact h q (List.mem_of_getElem? hk)
theorem va_D_nd {A : Nat → Prop} {ws : va_W} : va_D A ws ↔ (ws.map (fun q => q.1)).Nodup ∧ ∀ q ∈ ws, A q.1 := by
  constructor
  · rintro ⟨h1, h2⟩
    refine ⟨?_, fun q hq => ?_⟩
    · rw [List.Nodup, List.pairwise_iff_getElem]
      intro i j hi hj hij e
      have hi' : i < ws.length := by simpa using hi
      have hj' : j < ws.length := by simpa using hj
      rw [List.getElem_map, List.getElem_map] at e
      have := h1 i j ws[i] ws[j] (List.getElem?_eq_getElem hi') (List.getElem?_eq_getElem hj') e
      omega
    · obtain ⟨k, hk⟩ := List.getElem?_of_mem hq
      exact h2 k q hk
  · rintro ⟨h1, h2⟩
    refine ⟨fun i j p q hi hj e => ?_, fun k q hk => h2 q (List.mem_of_getElem? hk)⟩
    rw [List.Nodup, List.pairwise_iff_getElem] at h1
    obtain ⟨hi1, hi2⟩ := List.getElem?_eq_some_iff.mp hi
    obtain ⟨hj1, hj2⟩ := List.getElem?_eq_some_iff.mp hj
    have key : ∀ a b : Nat, ∀ (ha : a < ws.length) (hb : b < ws.length), a < b → ws[a].1 ≠ ws[b].1 := by
      intro a b ha hb hab
      have := h1 a b (by simpa using ha) (by simpa using hb) hab
      simpa using this
    rcases Nat.lt_trichotomy i j with g | g | g
    · exact absurd (by rw [hi2, hj2]; exact e) (key i j hi1 hj1 g)
    · exact g
    · exact absurd (by rw [hi2, hj2]; exact e.symm) (key j i hj1 hi1 g)
section NVB
variable {p : Program} {l : Launch} {e : Env} {R : Room} {s : State} {m : MethodId} {args : Array Value} {below : List Frame} {meth : Method} {c : Code} {H : Heap} {locs : List Loc} {cells slots : Nat} {Q : State → Prop} {cc : ByteArray} {pc nL : Nat} {ls : Array Slot} {rest st0 : List Value} {Ts : List Cond} {own : String} {D : va_G} {Z : Nat → ClassId} {A : Nat → Prop} {ws ws' wc wp X Y : va_W}
variable {y : MethodName} {wy wy' : List Cond} {bytes : ByteArray} {maxL fr lo index : Nat} {As : List Value} {ret : Option FieldType}
theorem Wd.perm (w : Wd D Z A s ws H locs) (hp : ws.Perm ws') : Wd D Z A s ws' H locs := by
  obtain ⟨h1, h2, h3, h4, h5, h6⟩ := w
  rw [va_D_nd] at h3
  rw [va_P_mem] at h2
  exact ⟨h1, va_P_mem.mpr fun q hq => h2 q (hp.mem_iff.mpr hq), va_D_nd.mpr ⟨((hp.map (fun q => q.1)).nodup_iff).mp h3.1, fun q hq => h3.2 q (hp.mem_iff.mpr hq)⟩, h4, h5, h6⟩
theorem Wd.blk (w : Wd D Z A s (X ++ (wc ++ Y)) H locs) : va_P D vwCl wc H ∧ va_D A wc ∧ ∀ q, va_A wc H.size q → A q := by
  obtain ⟨h1, h2, h3, h4, h5, h6⟩ := w
  rw [va_D_nd] at h3
  rw [va_P_mem] at h2
  have hm : ∀ q ∈ wc, q ∈ X ++ (wc ++ Y) := fun q hq => List.mem_append_right _ (List.mem_append_left _ hq)
  refine ⟨va_P_mem.mpr fun q hq => h2 q (hm q hq), va_D_nd.mpr ⟨?_, fun q hq => h3.2 q (hm q hq)⟩, fun q hq => ?_⟩
  · have := h3.1
    rw [List.map_append, List.map_append] at this
    exact (List.nodup_append.mp (List.nodup_append.mp this).2.1).1
  · rcases hq with ⟨k, e9, hk⟩ | hq
    · exact h3.2 (q, e9) (hm _ (List.mem_of_getElem? hk))
    · exact h5 q (Nat.le_trans h4.1 hq)
theorem Wd.glueF (w : Wd D Z A s (X ++ (wc ++ Y)) H locs) (hadr : wp.map (fun q => q.1) = wc.map (fun q => q.1)) {t : State} {H1 : Heap} {locs1 : List Loc} (ht : t.heap = H1) (hB : Pst D Z (va_A wc H.size) wp t) (hk : ∀ q : Nat, q < H.size → ¬ va_A wc H.size q → H1[q]? = H[q]?) (hS1 : va_S A s.heap H1 locs1) : Wd D Z A s (X ++ (wp ++ Y)) H1 locs1 := by
  obtain ⟨h1, h2, h3, h4, h5, h6⟩ := w
  rw [va_D_nd] at h3
  have h2' := va_P_mem.mp h2
  obtain ⟨hP1, -, -⟩ := hB
  rw [ht] at hP1
  have hP1 := va_P_mem.mp hP1
  have hmap : (X ++ (wp ++ Y)).map (fun q => q.1) = (X ++ (wc ++ Y)).map (fun q => q.1) := by simp only [List.map_append, hadr]
  have out : ∀ q : Nat × va_E, (q ∈ X ∨ q ∈ Y) → va_at D vwCl q H1 := by
    intro q hq
    have hm : q ∈ X ++ (wc ++ Y) := by
      rcases hq with h | h
      · exact List.mem_append_left _ h
      · exact List.mem_append_right _ (List.mem_append_right _ h)
    have hl := (h2' q hm).lt
    refine (h2' q hm).kept (hk q.1 hl fun ha => ?_)
    rcases ha with ⟨k, e9, h9⟩ | h9
    · have hw : q.1 ∈ wc.map (fun q => q.1) := List.mem_map.mpr ⟨(q.1, e9), List.mem_of_getElem? h9, rfl⟩
      have hn := h3.1
      rw [List.map_append, List.map_append] at hn
      rw [List.nodup_append] at hn
      obtain ⟨-, hn2, hn3⟩ := hn
      rcases hq with h | h
      · exact hn3 q.1 (List.mem_map.mpr ⟨q, h, rfl⟩) q.1 (List.mem_append_left _ hw) rfl
      · rw [List.nodup_append] at hn2
        exact hn2.2.2 q.1 hw q.1 (List.mem_map.mpr ⟨q, h, rfl⟩) rfl
    · omega
  refine ⟨h1, va_P_mem.mpr fun q hq => ?_, va_D_nd.mpr ⟨by rw [hmap]; exact h3.1, fun q hq => ?_⟩, hS1, h5, h6⟩
  · rcases List.mem_append.mp hq with h | h
    · exact out q (Or.inl h)
    · rcases List.mem_append.mp h with h | h
      · exact hP1 q h
      · exact out q (Or.inr h)
  · have : q.1 ∈ (X ++ (wc ++ Y)).map (fun q => q.1) := by rw [← hmap]; exact List.mem_map.mpr ⟨q, hq, rfl⟩
    obtain ⟨q', hq', e⟩ := List.mem_map.mp this
    rw [← e]
    exact h3.2 q' hq'
theorem nv_fVi (X Y : va_W) (S : CallFix p m c cc nL s args Ts own) (w : Wd D Z A s ws H locs) (hsz : ls.size = nL) {C : String} {T : u_T} {N b ci q0 n : Nat} {fs : List Value} {ans : Int32} (hM : Ci l y wy fr lo D Z (.ref b :: As) wc ans wp) (hsp : X ++ (wc ++ Y) = ws) (hadr : wp.map (fun q => q.1) = wc.map (fun q => q.1)) (hw : X ++ (wp ++ Y) = ws') (hT : GoodIn Ts (wsV own index C y wy)) (hy : wy = Cond.code y bytes maxL ret :: wy') (hd : y.cls = C ∧ y.cls ≠ "java/lang/invoke/MethodHandle" ∧ y.cls ≠ "java/lang/invoke/VarHandle" ∧ (parseMethodDescriptor y.desc).map (fun d => d.parameters.length) = some n) (hRm : fr + 1 ≤ R.frames ∧ 8 + (maxL + 11) + lo ≤ R.locals) (he : wc[q0]? = some (b, .inr (ci, fs))) (hc : vwCl[ci]? = some (C, T, N)) (hlen : As.length = n) (hst : st0 = As.reverse ++ .ref b :: rest) (hsum : (rest.map fun v => v.category).sum ≤ 8) (hf : cells ≤ R.cells ∧ slots ≤ R.slots) (hdg : decode cc pc = .ok (.invokevirtual index, 3))
    (kk : ∀ (H1 : Heap) (locs1 : List Loc), Wd D Z A s ws' H1 locs1 → W p l e R s m args below meth c H1 locs1 cells slots Q (F0 m (pc + 3) ls (.int ans :: rest))) : W p l e R s m args below meth c H locs cells slots Q (F0 m pc ls st0) := by
  have w := w.as hsp.symm
  obtain ⟨hP, hD, hF⟩ := w.blk
  refine va_calli (va_runV (C := C) (n := n) S (hM H.size) (cwV n S.2.2.2.2 hT hy rfl rfl hd hRm) ⟨fb_Pre, va_recv w.1 hP hc he, (w.pre hP hD).2⟩ rfl hlen hsz hst (lv_room hsum) hdg hf) w.2.2.2.1 (fun q _ h => hF q h) hF (fun r u t H1 locs1 ht hvm hpost hB hz hk hS1 => ?_)
  obtain rfl := hpost; exact kk H1 locs1 (hw ▸ Wd.glueF w hadr ht hB hk hS1)
theorem nv_gVi (X Y : va_W) (S : CallFix p m c cc nL s args Ts own) (w : Wd D Z A s ws H locs) (hsz : ls.size = nL) {C : String} {T : u_T} {N b ci q0 n : Nat} {fs : List Value} {ans : Int32} (hM : Ci l y wy fr lo D Z (.ref b :: As) wc ans wc) (hsp : X ++ (wc ++ Y) = ws) (hT : GoodIn Ts (wsV own index C y wy)) (hy : wy = Cond.code y bytes maxL ret :: wy') (hd : y.cls = C ∧ y.cls ≠ "java/lang/invoke/MethodHandle" ∧ y.cls ≠ "java/lang/invoke/VarHandle" ∧ (parseMethodDescriptor y.desc).map (fun d => d.parameters.length) = some n) (hRm : fr + 1 ≤ R.frames ∧ 8 + (maxL + 11) + lo ≤ R.locals) (he : wc[q0]? = some (b, .inr (ci, fs))) (hc : vwCl[ci]? = some (C, T, N)) (hlen : As.length = n) (hst : st0 = As.reverse ++ .ref b :: rest) (hsum : (rest.map fun v => v.category).sum ≤ 8) (hf : cells ≤ R.cells ∧ slots ≤ R.slots) (hdg : decode cc pc = .ok (.invokevirtual index, 3))
    (kk : ∀ (H1 : Heap) (locs1 : List Loc), Wd D Z A s ws H1 locs1 → W p l e R s m args below meth c H1 locs1 cells slots Q (F0 m (pc + 3) ls (.int ans :: rest))) : W p l e R s m args below meth c H locs cells slots Q (F0 m pc ls st0) := by
  have w := w.as hsp.symm
  obtain ⟨hP, hD, hF⟩ := w.blk
  refine va_calli (va_runV (C := C) (n := n) S (hM H.size) (cwV n S.2.2.2.2 hT hy rfl rfl hd hRm) ⟨fb_Pre, va_recv w.1 hP hc he, (w.pre hP hD).2⟩ rfl hlen hsz hst (lv_room hsum) hdg hf) w.2.2.2.1 (fun q _ h => hF q h) hF (fun r u t H1 locs1 ht hvm hpost hB hz hk hS1 => ?_)
  obtain rfl := hpost; exact kk H1 locs1 (hsp ▸ Wd.glueF w rfl ht hB hk hS1)
theorem nv_fSi (X Y : va_W) (S : CallFix p m c cc nL s args Ts own) (w : Wd D Z A s ws H locs) (hsz : ls.size = nL) {n : Nat} {ans : Int32} (hM : Ci l y wy fr lo D Z As wc ans wp) (hsp : X ++ (wc ++ Y) = ws) (hadr : wp.map (fun q => q.1) = wc.map (fun q => q.1)) (hw : X ++ (wp ++ Y) = ws') (hT : GoodIn Ts (va_wsS own index y wy)) (hy : wy = Cond.code y bytes maxL ret :: wy') (hd : y.cls ≠ "java/lang/invoke/MethodHandle" ∧ y.cls ≠ "java/lang/invoke/VarHandle" ∧ (parseMethodDescriptor y.desc).map (fun d => d.parameters.length) = some n) (hRm : fr + 1 ≤ R.frames ∧ 8 + (maxL + 11) + lo ≤ R.locals) (hlen : As.length = n) (hst : st0 = As.reverse ++ rest) (hsum : (rest.map fun v => v.category).sum ≤ 8) (hf : cells ≤ R.cells ∧ slots ≤ R.slots) (hdg : decode cc pc = .ok (.invokestatic index, 3))
    (kk : ∀ (H1 : Heap) (locs1 : List Loc), Wd D Z A s ws' H1 locs1 → W p l e R s m args below meth c H1 locs1 cells slots Q (F0 m (pc + 3) ls (.int ans :: rest))) : W p l e R s m args below meth c H locs cells slots Q (F0 m pc ls st0) := by
  have w := w.as hsp.symm
  obtain ⟨hP, hD, hF⟩ := w.blk
  refine va_calli (va_runS (n := n) S (hM H.size) (va_cwS n S.2.2.2.2 hT hy rfl rfl hd hRm) (w.pre hP hD) rfl hlen hsz hst (lv_room hsum) hdg hf) w.2.2.2.1 (fun q _ h => hF q h) hF (fun r u t H1 locs1 ht hvm hpost hB hz hk hS1 => ?_)
  obtain rfl := hpost; exact kk H1 locs1 (hw ▸ Wd.glueF w hadr ht hB hk hS1)
theorem nv_gSi (X Y : va_W) (S : CallFix p m c cc nL s args Ts own) (w : Wd D Z A s ws H locs) (hsz : ls.size = nL) {n : Nat} {ans : Int32} (hM : Ci l y wy fr lo D Z As wc ans wc) (hsp : X ++ (wc ++ Y) = ws) (hT : GoodIn Ts (va_wsS own index y wy)) (hy : wy = Cond.code y bytes maxL ret :: wy') (hd : y.cls ≠ "java/lang/invoke/MethodHandle" ∧ y.cls ≠ "java/lang/invoke/VarHandle" ∧ (parseMethodDescriptor y.desc).map (fun d => d.parameters.length) = some n) (hRm : fr + 1 ≤ R.frames ∧ 8 + (maxL + 11) + lo ≤ R.locals) (hlen : As.length = n) (hst : st0 = As.reverse ++ rest) (hsum : (rest.map fun v => v.category).sum ≤ 8) (hf : cells ≤ R.cells ∧ slots ≤ R.slots) (hdg : decode cc pc = .ok (.invokestatic index, 3))
    (kk : ∀ (H1 : Heap) (locs1 : List Loc), Wd D Z A s ws H1 locs1 → W p l e R s m args below meth c H1 locs1 cells slots Q (F0 m (pc + 3) ls (.int ans :: rest))) : W p l e R s m args below meth c H locs cells slots Q (F0 m pc ls st0) := by
  have w := w.as hsp.symm
  obtain ⟨hP, hD, hF⟩ := w.blk
  refine va_calli (va_runS (n := n) S (hM H.size) (va_cwS n S.2.2.2.2 hT hy rfl rfl hd hRm) (w.pre hP hD) rfl hlen hsz hst (lv_room hsum) hdg hf) w.2.2.2.1 (fun q _ h => hF q h) hF (fun r u t H1 locs1 ht hvm hpost hB hz hk hS1 => ?_)
  obtain rfl := hpost; exact kk H1 locs1 (hsp ▸ Wd.glueF w rfl ht hB hk hS1)
theorem nv_fVl (X Y : va_W) (S : CallFix p m c cc nL s args Ts own) (w : Wd D Z A s ws H locs) (hsz : ls.size = nL) {C : String} {T : u_T} {N b ci q0 n : Nat} {fs : List Value} {ans : Int64} (hM : Cl l y wy fr lo D Z (.ref b :: As) wc ans wp) (hsp : X ++ (wc ++ Y) = ws) (hadr : wp.map (fun q => q.1) = wc.map (fun q => q.1)) (hw : X ++ (wp ++ Y) = ws') (hT : GoodIn Ts (wsV own index C y wy)) (hy : wy = Cond.code y bytes maxL ret :: wy') (hd : y.cls = C ∧ y.cls ≠ "java/lang/invoke/MethodHandle" ∧ y.cls ≠ "java/lang/invoke/VarHandle" ∧ (parseMethodDescriptor y.desc).map (fun d => d.parameters.length) = some n) (hRm : fr + 1 ≤ R.frames ∧ 8 + (maxL + 11) + lo ≤ R.locals) (he : wc[q0]? = some (b, .inr (ci, fs))) (hc : vwCl[ci]? = some (C, T, N)) (hlen : As.length = n) (hst : st0 = As.reverse ++ .ref b :: rest) (hsum : (rest.map fun v => v.category).sum ≤ 8) (hf : cells ≤ R.cells ∧ slots ≤ R.slots) (hdg : decode cc pc = .ok (.invokevirtual index, 3))
    (kk : ∀ (H1 : Heap) (locs1 : List Loc), Wd D Z A s ws' H1 locs1 → W p l e R s m args below meth c H1 locs1 cells slots Q (F0 m (pc + 3) ls (.long ans :: rest))) : W p l e R s m args below meth c H locs cells slots Q (F0 m pc ls st0) := by
  have w := w.as hsp.symm
  obtain ⟨hP, hD, hF⟩ := w.blk
  refine va_calll (va_runV (C := C) (n := n) S (hM H.size) (cwV n S.2.2.2.2 hT hy rfl rfl hd hRm) ⟨fb_Pre, va_recv w.1 hP hc he, (w.pre hP hD).2⟩ rfl hlen hsz hst (lv_room hsum) hdg hf) w.2.2.2.1 (fun q _ h => hF q h) hF (fun r u t H1 locs1 ht hvm hpost hB hz hk hS1 => ?_)
  obtain rfl := hpost; exact kk H1 locs1 (hw ▸ Wd.glueF w hadr ht hB hk hS1)
theorem nv_gVl (X Y : va_W) (S : CallFix p m c cc nL s args Ts own) (w : Wd D Z A s ws H locs) (hsz : ls.size = nL) {C : String} {T : u_T} {N b ci q0 n : Nat} {fs : List Value} {ans : Int64} (hM : Cl l y wy fr lo D Z (.ref b :: As) wc ans wc) (hsp : X ++ (wc ++ Y) = ws) (hT : GoodIn Ts (wsV own index C y wy)) (hy : wy = Cond.code y bytes maxL ret :: wy') (hd : y.cls = C ∧ y.cls ≠ "java/lang/invoke/MethodHandle" ∧ y.cls ≠ "java/lang/invoke/VarHandle" ∧ (parseMethodDescriptor y.desc).map (fun d => d.parameters.length) = some n) (hRm : fr + 1 ≤ R.frames ∧ 8 + (maxL + 11) + lo ≤ R.locals) (he : wc[q0]? = some (b, .inr (ci, fs))) (hc : vwCl[ci]? = some (C, T, N)) (hlen : As.length = n) (hst : st0 = As.reverse ++ .ref b :: rest) (hsum : (rest.map fun v => v.category).sum ≤ 8) (hf : cells ≤ R.cells ∧ slots ≤ R.slots) (hdg : decode cc pc = .ok (.invokevirtual index, 3))
    (kk : ∀ (H1 : Heap) (locs1 : List Loc), Wd D Z A s ws H1 locs1 → W p l e R s m args below meth c H1 locs1 cells slots Q (F0 m (pc + 3) ls (.long ans :: rest))) : W p l e R s m args below meth c H locs cells slots Q (F0 m pc ls st0) := by
  have w := w.as hsp.symm
  obtain ⟨hP, hD, hF⟩ := w.blk
  refine va_calll (va_runV (C := C) (n := n) S (hM H.size) (cwV n S.2.2.2.2 hT hy rfl rfl hd hRm) ⟨fb_Pre, va_recv w.1 hP hc he, (w.pre hP hD).2⟩ rfl hlen hsz hst (lv_room hsum) hdg hf) w.2.2.2.1 (fun q _ h => hF q h) hF (fun r u t H1 locs1 ht hvm hpost hB hz hk hS1 => ?_)
  obtain rfl := hpost; exact kk H1 locs1 (hsp ▸ Wd.glueF w rfl ht hB hk hS1)
theorem nv_fSl (X Y : va_W) (S : CallFix p m c cc nL s args Ts own) (w : Wd D Z A s ws H locs) (hsz : ls.size = nL) {n : Nat} {ans : Int64} (hM : Cl l y wy fr lo D Z As wc ans wp) (hsp : X ++ (wc ++ Y) = ws) (hadr : wp.map (fun q => q.1) = wc.map (fun q => q.1)) (hw : X ++ (wp ++ Y) = ws') (hT : GoodIn Ts (va_wsS own index y wy)) (hy : wy = Cond.code y bytes maxL ret :: wy') (hd : y.cls ≠ "java/lang/invoke/MethodHandle" ∧ y.cls ≠ "java/lang/invoke/VarHandle" ∧ (parseMethodDescriptor y.desc).map (fun d => d.parameters.length) = some n) (hRm : fr + 1 ≤ R.frames ∧ 8 + (maxL + 11) + lo ≤ R.locals) (hlen : As.length = n) (hst : st0 = As.reverse ++ rest) (hsum : (rest.map fun v => v.category).sum ≤ 8) (hf : cells ≤ R.cells ∧ slots ≤ R.slots) (hdg : decode cc pc = .ok (.invokestatic index, 3))
    (kk : ∀ (H1 : Heap) (locs1 : List Loc), Wd D Z A s ws' H1 locs1 → W p l e R s m args below meth c H1 locs1 cells slots Q (F0 m (pc + 3) ls (.long ans :: rest))) : W p l e R s m args below meth c H locs cells slots Q (F0 m pc ls st0) := by
  have w := w.as hsp.symm
  obtain ⟨hP, hD, hF⟩ := w.blk
  refine va_calll (va_runS (n := n) S (hM H.size) (va_cwS n S.2.2.2.2 hT hy rfl rfl hd hRm) (w.pre hP hD) rfl hlen hsz hst (lv_room hsum) hdg hf) w.2.2.2.1 (fun q _ h => hF q h) hF (fun r u t H1 locs1 ht hvm hpost hB hz hk hS1 => ?_)
  obtain rfl := hpost; exact kk H1 locs1 (hw ▸ Wd.glueF w hadr ht hB hk hS1)
theorem nv_gSl (X Y : va_W) (S : CallFix p m c cc nL s args Ts own) (w : Wd D Z A s ws H locs) (hsz : ls.size = nL) {n : Nat} {ans : Int64} (hM : Cl l y wy fr lo D Z As wc ans wc) (hsp : X ++ (wc ++ Y) = ws) (hT : GoodIn Ts (va_wsS own index y wy)) (hy : wy = Cond.code y bytes maxL ret :: wy') (hd : y.cls ≠ "java/lang/invoke/MethodHandle" ∧ y.cls ≠ "java/lang/invoke/VarHandle" ∧ (parseMethodDescriptor y.desc).map (fun d => d.parameters.length) = some n) (hRm : fr + 1 ≤ R.frames ∧ 8 + (maxL + 11) + lo ≤ R.locals) (hlen : As.length = n) (hst : st0 = As.reverse ++ rest) (hsum : (rest.map fun v => v.category).sum ≤ 8) (hf : cells ≤ R.cells ∧ slots ≤ R.slots) (hdg : decode cc pc = .ok (.invokestatic index, 3))
    (kk : ∀ (H1 : Heap) (locs1 : List Loc), Wd D Z A s ws H1 locs1 → W p l e R s m args below meth c H1 locs1 cells slots Q (F0 m (pc + 3) ls (.long ans :: rest))) : W p l e R s m args below meth c H locs cells slots Q (F0 m pc ls st0) := by
  have w := w.as hsp.symm
  obtain ⟨hP, hD, hF⟩ := w.blk
  refine va_calll (va_runS (n := n) S (hM H.size) (va_cwS n S.2.2.2.2 hT hy rfl rfl hd hRm) (w.pre hP hD) rfl hlen hsz hst (lv_room hsum) hdg hf) w.2.2.2.1 (fun q _ h => hF q h) hF (fun r u t H1 locs1 ht hvm hpost hB hz hk hS1 => ?_)
  obtain rfl := hpost; exact kk H1 locs1 (hsp ▸ Wd.glueF w rfl ht hB hk hS1)
theorem nv_fVv (X Y : va_W) (S : CallFix p m c cc nL s args Ts own) (w : Wd D Z A s ws H locs) (hsz : ls.size = nL) {C : String} {T : u_T} {N b ci q0 n : Nat} {fs : List Value}  (hM : Cv l y wy fr lo D Z (.ref b :: As) wc wp) (hsp : X ++ (wc ++ Y) = ws) (hadr : wp.map (fun q => q.1) = wc.map (fun q => q.1)) (hw : X ++ (wp ++ Y) = ws') (hT : GoodIn Ts (wsV own index C y wy)) (hy : wy = Cond.code y bytes maxL ret :: wy') (hd : y.cls = C ∧ y.cls ≠ "java/lang/invoke/MethodHandle" ∧ y.cls ≠ "java/lang/invoke/VarHandle" ∧ (parseMethodDescriptor y.desc).map (fun d => d.parameters.length) = some n) (hRm : fr + 1 ≤ R.frames ∧ 8 + (maxL + 11) + lo ≤ R.locals) (he : wc[q0]? = some (b, .inr (ci, fs))) (hc : vwCl[ci]? = some (C, T, N)) (hlen : As.length = n) (hst : st0 = As.reverse ++ .ref b :: rest) (hsum : (rest.map fun v => v.category).sum ≤ 8) (hf : cells ≤ R.cells ∧ slots ≤ R.slots) (hdg : decode cc pc = .ok (.invokevirtual index, 3))
    (kk : ∀ (H1 : Heap) (locs1 : List Loc), Wd D Z A s ws' H1 locs1 → W p l e R s m args below meth c H1 locs1 cells slots Q (F0 m (pc + 3) ls (rest))) : W p l e R s m args below meth c H locs cells slots Q (F0 m pc ls st0) := by
  have w := w.as hsp.symm
  obtain ⟨hP, hD, hF⟩ := w.blk
  refine va_callv (va_runV (C := C) (n := n) S (hM H.size) (cwV n S.2.2.2.2 hT hy rfl rfl hd hRm) ⟨fb_Pre, va_recv w.1 hP hc he, (w.pre hP hD).2⟩ rfl hlen hsz hst (lv_room hsum) hdg hf) w.2.2.2.1 (fun q _ h => hF q h) hF (fun u t H1 locs1 ht hvm hpost hB hz hk hS1 => ?_)
  exact kk H1 locs1 (hw ▸ Wd.glueF w hadr ht hB hk hS1)
theorem nv_gVv (X Y : va_W) (S : CallFix p m c cc nL s args Ts own) (w : Wd D Z A s ws H locs) (hsz : ls.size = nL) {C : String} {T : u_T} {N b ci q0 n : Nat} {fs : List Value}  (hM : Cv l y wy fr lo D Z (.ref b :: As) wc wc) (hsp : X ++ (wc ++ Y) = ws) (hT : GoodIn Ts (wsV own index C y wy)) (hy : wy = Cond.code y bytes maxL ret :: wy') (hd : y.cls = C ∧ y.cls ≠ "java/lang/invoke/MethodHandle" ∧ y.cls ≠ "java/lang/invoke/VarHandle" ∧ (parseMethodDescriptor y.desc).map (fun d => d.parameters.length) = some n) (hRm : fr + 1 ≤ R.frames ∧ 8 + (maxL + 11) + lo ≤ R.locals) (he : wc[q0]? = some (b, .inr (ci, fs))) (hc : vwCl[ci]? = some (C, T, N)) (hlen : As.length = n) (hst : st0 = As.reverse ++ .ref b :: rest) (hsum : (rest.map fun v => v.category).sum ≤ 8) (hf : cells ≤ R.cells ∧ slots ≤ R.slots) (hdg : decode cc pc = .ok (.invokevirtual index, 3))
    (kk : ∀ (H1 : Heap) (locs1 : List Loc), Wd D Z A s ws H1 locs1 → W p l e R s m args below meth c H1 locs1 cells slots Q (F0 m (pc + 3) ls (rest))) : W p l e R s m args below meth c H locs cells slots Q (F0 m pc ls st0) := by
  have w := w.as hsp.symm
  obtain ⟨hP, hD, hF⟩ := w.blk
  refine va_callv (va_runV (C := C) (n := n) S (hM H.size) (cwV n S.2.2.2.2 hT hy rfl rfl hd hRm) ⟨fb_Pre, va_recv w.1 hP hc he, (w.pre hP hD).2⟩ rfl hlen hsz hst (lv_room hsum) hdg hf) w.2.2.2.1 (fun q _ h => hF q h) hF (fun u t H1 locs1 ht hvm hpost hB hz hk hS1 => ?_)
  exact kk H1 locs1 (hsp ▸ Wd.glueF w rfl ht hB hk hS1)
theorem nv_fSv (X Y : va_W) (S : CallFix p m c cc nL s args Ts own) (w : Wd D Z A s ws H locs) (hsz : ls.size = nL) {n : Nat}  (hM : Cv l y wy fr lo D Z As wc wp) (hsp : X ++ (wc ++ Y) = ws) (hadr : wp.map (fun q => q.1) = wc.map (fun q => q.1)) (hw : X ++ (wp ++ Y) = ws') (hT : GoodIn Ts (va_wsS own index y wy)) (hy : wy = Cond.code y bytes maxL ret :: wy') (hd : y.cls ≠ "java/lang/invoke/MethodHandle" ∧ y.cls ≠ "java/lang/invoke/VarHandle" ∧ (parseMethodDescriptor y.desc).map (fun d => d.parameters.length) = some n) (hRm : fr + 1 ≤ R.frames ∧ 8 + (maxL + 11) + lo ≤ R.locals) (hlen : As.length = n) (hst : st0 = As.reverse ++ rest) (hsum : (rest.map fun v => v.category).sum ≤ 8) (hf : cells ≤ R.cells ∧ slots ≤ R.slots) (hdg : decode cc pc = .ok (.invokestatic index, 3))
    (kk : ∀ (H1 : Heap) (locs1 : List Loc), Wd D Z A s ws' H1 locs1 → W p l e R s m args below meth c H1 locs1 cells slots Q (F0 m (pc + 3) ls (rest))) : W p l e R s m args below meth c H locs cells slots Q (F0 m pc ls st0) := by
  have w := w.as hsp.symm
  obtain ⟨hP, hD, hF⟩ := w.blk
  refine va_callv (va_runS (n := n) S (hM H.size) (va_cwS n S.2.2.2.2 hT hy rfl rfl hd hRm) (w.pre hP hD) rfl hlen hsz hst (lv_room hsum) hdg hf) w.2.2.2.1 (fun q _ h => hF q h) hF (fun u t H1 locs1 ht hvm hpost hB hz hk hS1 => ?_)
  exact kk H1 locs1 (hw ▸ Wd.glueF w hadr ht hB hk hS1)
theorem nv_gSv (X Y : va_W) (S : CallFix p m c cc nL s args Ts own) (w : Wd D Z A s ws H locs) (hsz : ls.size = nL) {n : Nat}  (hM : Cv l y wy fr lo D Z As wc wc) (hsp : X ++ (wc ++ Y) = ws) (hT : GoodIn Ts (va_wsS own index y wy)) (hy : wy = Cond.code y bytes maxL ret :: wy') (hd : y.cls ≠ "java/lang/invoke/MethodHandle" ∧ y.cls ≠ "java/lang/invoke/VarHandle" ∧ (parseMethodDescriptor y.desc).map (fun d => d.parameters.length) = some n) (hRm : fr + 1 ≤ R.frames ∧ 8 + (maxL + 11) + lo ≤ R.locals) (hlen : As.length = n) (hst : st0 = As.reverse ++ rest) (hsum : (rest.map fun v => v.category).sum ≤ 8) (hf : cells ≤ R.cells ∧ slots ≤ R.slots) (hdg : decode cc pc = .ok (.invokestatic index, 3))
    (kk : ∀ (H1 : Heap) (locs1 : List Loc), Wd D Z A s ws H1 locs1 → W p l e R s m args below meth c H1 locs1 cells slots Q (F0 m (pc + 3) ls (rest))) : W p l e R s m args below meth c H locs cells slots Q (F0 m pc ls st0) := by
  have w := w.as hsp.symm
  obtain ⟨hP, hD, hF⟩ := w.blk
  refine va_callv (va_runS (n := n) S (hM H.size) (va_cwS n S.2.2.2.2 hT hy rfl rfl hd hRm) (w.pre hP hD) rfl hlen hsz hst (lv_room hsum) hdg hf) w.2.2.2.1 (fun q _ h => hF q h) hF (fun u t H1 locs1 ht hvm hpost hB hz hk hS1 => ?_)
  exact kk H1 locs1 (hsp ▸ Wd.glueF w rfl ht hB hk hS1)
end NVB
theorem sw2 {X A B : va_W} : ((X ++ A) ++ B).Perm ((X ++ B) ++ A) := by
  rw [List.append_assoc, List.append_assoc]
  exact List.Perm.append_left X List.perm_append_comm
