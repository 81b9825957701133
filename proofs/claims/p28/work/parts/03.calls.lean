/-! calls: the callee's cells stand at the places isC of the caller's world; behind the call they are the callee's new ones, at the same places -/
def mg : va_W → List Nat → va_W → va_W
  | ws, i :: is, c :: cs => mg (ws.set i c) is cs
  | ws, [], _ => ws
  | ws, _ :: _, [] => ws
theorem mg_get : ∀ (is : List Nat) (cs ws : va_W), is.length = cs.length → ∀ (k : Nat) (q : Nat × va_E), (mg ws is cs)[k]? = some q → (∃ j : Nat, is[j]? = some k ∧ cs[j]? = some q) ∨ (k ∉ is ∧ ws[k]? = some q)
  | [], [], ws, _, k, q, h => Or.inr ⟨List.not_mem_nil, h⟩
  | i :: is, c :: cs, ws, hl, k, q, h => by
    rcases mg_get is cs (ws.set i c) (by simpa using hl) k q h with ⟨j, h1, h2⟩ | ⟨h1, h2⟩
    · exact Or.inl ⟨j + 1, by simpa using h1, by simpa using h2⟩
    · by_cases hk : k = i
      · subst hk
        left
        refine ⟨0, rfl, ?_⟩
        have h3 : (ws.set k c)[k]? = some q := h2
        rw [List.getElem?_set] at h3
        simp only [if_true] at h3
        split at h3
        · exact h3
        · cases h3
      · right
        refine ⟨fun hm => ?_, ?_⟩
        · rcases List.mem_cons.mp hm with e | e
          · exact hk e
          · exact h1 e
        · rw [List.getElem?_set] at h2
          simpa [Ne.symm hk] using h2
section NVC
variable {p : Program} {l : Launch} {e : Env} {R : Room} {s : State} {m : MethodId} {args : Array Value} {below : List Frame} {meth : Method} {c : Code} {H : Heap} {locs : List Loc} {cells slots : Nat} {Q : State → Prop} {cc : ByteArray} {pc nL : Nat} {ls : Array Slot} {rest st0 : List Value} {Ts : List Cond} {own : String} {D : va_G} {Z : Nat → ClassId} {A : Nat → Prop} {ws ws' wc wp : va_W}
variable {y : MethodName} {wy wy' : List Cond} {bytes : ByteArray} {maxL fr lo index : Nat} {As : List Value} {ret : Option FieldType}
theorem place_of {is : List Nat} {w w2 : va_W} (hs : is.map (fun i => w[i]?) = w2.map some) (k : Nat) (q : Nat × va_E) (hq : w2[k]? = some q) : ∃ i, is[k]? = some i ∧ w[i]? = some q := by
  have h1 : (is.map (fun i => w[i]?))[k]? = some (some q) := by rw [hs, List.getElem?_map, hq]; rfl
  rw [List.getElem?_map] at h1
  cases hi : is[k]? with
  | none => rw [hi] at h1; cases h1
  | some i => rw [hi] at h1; exact ⟨i, rfl, Option.some.inj h1⟩
theorem place_to {is : List Nat} {w w2 : va_W} (hs : is.map (fun i => w[i]?) = w2.map some) (k i : Nat) (hi : is[k]? = some i) : ∃ q, w2[k]? = some q ∧ w[i]? = some q := by
  have h1 : (w2.map some)[k]? = some (w[i]?) := by rw [← hs, List.getElem?_map, hi]; rfl
  rw [List.getElem?_map] at h1
  cases hq : w2[k]? with
  | none => rw [hq] at h1; cases h1
  | some q => rw [hq] at h1; exact ⟨q, rfl, (Option.some.inj h1).symm⟩
theorem Wd.glue2 (w : Wd D Z A s ws H locs) (isC : List Nat) (hC : isC.map (fun i => ws[i]?) = wc.map some) (hadr : wp.map (fun q => q.1) = wc.map (fun q => q.1)) {t : State} {H1 : Heap} {locs1 : List Loc} (ht : t.heap = H1) (hB : Pst D Z (va_A wc H.size) wp t) (hk : ∀ q : Nat, q < H.size → ¬ va_A wc H.size q → H1[q]? = H[q]?) (hS1 : va_S A s.heap H1 locs1)
    (hw : mg ws isC wp = ws') : Wd D Z A s ws' H1 locs1 := by
  subst hw
  obtain ⟨hP1, -, -⟩ := hB
  rw [ht] at hP1
  have hlen : isC.length = wp.length := by
    have h1 := congrArg List.length hC
    have h2 := congrArg List.length hadr
    simp only [List.length_map] at h1 h2
    omega
  have adr : ∀ (j : Nat) (q : Nat × va_E), wp[j]? = some q → ∃ q', wc[j]? = some q' ∧ q'.1 = q.1 := by
    intro j q hq
    have h1 : (wc.map (fun q => q.1))[j]? = some q.1 := by rw [← hadr, List.getElem?_map, hq]; rfl
    rw [List.getElem?_map] at h1
    cases hj : wc[j]? with
    | none => rw [hj] at h1; cases h1
    | some q' => rw [hj] at h1; exact ⟨q', rfl, Option.some.inj h1⟩
  have back : ∀ (k : Nat) (q : Nat × va_E), (mg ws isC wp)[k]? = some q → ∃ q', ws[k]? = some q' ∧ q'.1 = q.1 := by
    intro k q hq
    rcases mg_get isC wp ws hlen k q hq with ⟨j, h1, h2⟩ | ⟨-, h2⟩
    · obtain ⟨q', h3, h4⟩ := adr j q h2
      obtain ⟨q2, h5, h6⟩ := place_to hC j k h1
      rw [h3] at h5
      cases h5
      exact ⟨q', h6, h4⟩
    · exact ⟨q, h2, rfl⟩
  refine ⟨w.1, fun k q hq => ?_, ⟨fun i j x z hx hz hxz => ?_, fun k q hq => ?_⟩, hS1, w.2.2.2.2⟩
  · rcases mg_get isC wp ws hlen k q hq with ⟨j, -, h2⟩ | ⟨h1, h2⟩
    · exact hP1 j q h2
    · have hl := (w.2.1 k q h2).lt
      refine (w.2.1 k q h2).kept (hk q.1 hl fun ha => ?_)
      rcases ha with ⟨j, e9, h3⟩ | h3
      · obtain ⟨i, h4, h5⟩ := place_of hC j _ h3
        have := w.2.2.1.1 k i q _ h2 h5 rfl
        subst this
        exact h1 (List.mem_of_getElem? h4)
      · omega
  · obtain ⟨x', h1, h2⟩ := back i x hx
    obtain ⟨z', h3, h4⟩ := back j z hz
    exact w.2.2.1.1 i j x' z' h1 h3 (by rw [h2, h4, hxz])
  · obtain ⟨q', h1, h2⟩ := back k q hq
    rw [← h2]
    exact w.2.2.1.2 k q' h1
theorem Wd.glueR (w : Wd D Z A s ws H locs) (isC : List Nat) (hC : isC.map (fun i => ws[i]?) = wc.map some) {t : State} {H1 : Heap} {locs1 : List Loc} (ht : t.heap = H1) (hB : Pst D Z (va_A wc H.size) wc t) (hk : ∀ q : Nat, q < H.size → ¬ va_A wc H.size q → H1[q]? = H[q]?) (hS1 : va_S A s.heap H1 locs1) : Wd D Z A s ws H1 locs1 := by
  obtain ⟨hP1, -, -⟩ := hB
  rw [ht] at hP1
  refine ⟨w.1, fun k q hq => ?_, w.2.2.1, hS1, w.2.2.2.2⟩
  by_cases hm : k ∈ isC
  · obtain ⟨j, hj⟩ := List.getElem?_of_mem hm
    obtain ⟨q2, h1, h2⟩ := place_to hC j k hj
    rw [hq] at h2
    cases h2
    exact hP1 j q h1
  · have hl := (w.2.1 k q hq).lt
    refine (w.2.1 k q hq).kept (hk q.1 hl fun ha => ?_)
    rcases ha with ⟨j, e9, h3⟩ | h3
    · obtain ⟨i, h4, h5⟩ := place_of hC j _ h3
      have := w.2.2.1.1 k i q _ hq h5 rfl
      subst this
      exact hm (List.mem_of_getElem? h4)
    · omega
theorem Wd.glue0 (w : Wd D Z A s ws H locs) {H1 : Heap} {locs1 : List Loc} (hk : ∀ q : Nat, q < H.size → ¬ va_A [] H.size q → H1[q]? = H[q]?) (hS1 : va_S A s.heap H1 locs1) : Wd D Z A s ws H1 locs1 := by
  refine ⟨w.1, fun k q hq => (w.2.1 k q hq).kept (hk q.1 (w.2.1 k q hq).lt fun ha => ?_), w.2.2.1, hS1, w.2.2.2.2⟩
  rcases ha with ⟨j, e9, h3⟩ | h3
  · simp at h3
  · have := (w.2.1 k q hq).lt
    omega
theorem Wd.free0 (w : Wd D Z A s ws H locs) : ∀ q, va_A [] H.size q → A q := by
  intro q h
  rcases h with ⟨k, e9, h⟩ | h
  · simp at h
  · exact w.2.2.2.2.1 q (Nat.le_trans w.2.2.2.1.1 h)
theorem Wd.pre0 (w : Wd D Z A s ws H locs) : PreS s H (va_Pc As (Pre D Z H.size [])) As :=
  ⟨fb_Pre, fun U hU hW => ⟨rfl, by rw [hU], fun k q h => by simp at h, va_K.moved hW.alike w.1, ⟨fun i j x z h => by simp at h, fun k q h => by simp at h⟩, w.2.2.2.2.2.warm hW⟩⟩
theorem nv_cVi (S : CallFix p m c cc nL s args Ts own) (w : Wd D Z A s ws H locs) (hsz : ls.size = nL) {C : String} {T : u_T} {N b ci q0 n : Nat} {fs : List Value} {ans : Int32} (hM : Ci l y wy fr lo D Z (.ref b :: As) wc ans wp) (isC : List Nat) (hC : isC.map (fun i => ws[i]?) = wc.map some) (hn1 : va_nd isC = true) (hadr : wp.map (fun q => q.1) = wc.map (fun q => q.1)) (hw : mg ws isC wp = ws') (hT : GoodIn Ts (wsV own index C y wy)) (hy : wy = Cond.code y bytes maxL ret :: wy') (hd : y.cls = C ∧ y.cls ≠ "java/lang/invoke/MethodHandle" ∧ y.cls ≠ "java/lang/invoke/VarHandle" ∧ (parseMethodDescriptor y.desc).map (fun d => d.parameters.length) = some n) (hRm : fr + 1 ≤ R.frames ∧ 8 + (maxL + 11) + lo ≤ R.locals) (he : wc[q0]? = some (b, .inr (ci, fs))) (hc : vwCl[ci]? = some (C, T, N)) (hlen : As.length = n) (hst : st0 = As.reverse ++ .ref b :: rest) (hsum : (rest.map fun v => v.category).sum ≤ 8) (hf : cells ≤ R.cells ∧ slots ≤ R.slots) (hdg : decode cc pc = .ok (.invokevirtual index, 3))
    (kk : ∀ (H1 : Heap) (locs1 : List Loc), Wd D Z A s ws' H1 locs1 → W p l e R s m args below meth c H1 locs1 cells slots Q (F0 m (pc + 3) ls (.int ans :: rest))) : W p l e R s m args below meth c H locs cells slots Q (F0 m pc ls st0) := by
  obtain ⟨hP, hD, hF⟩ := w.cut isC hC hn1
  refine va_calli (va_runV (C := C) (n := n) S (hM H.size) (cwV n S.2.2.2.2 hT hy rfl rfl hd hRm) ⟨fb_Pre, va_recv w.1 hP hc he, (w.pre hP hD).2⟩ rfl hlen hsz hst (lv_room hsum) hdg hf) w.2.2.2.1 (fun q _ h => hF q h) hF (fun r u t H1 locs1 ht hvm hpost hB hz hk hS1 => ?_)
  obtain rfl := hpost; exact kk H1 locs1 (w.glue2 isC hC hadr ht hB hk hS1 hw)
theorem nv_rVi (S : CallFix p m c cc nL s args Ts own) (w : Wd D Z A s ws H locs) (hsz : ls.size = nL) {C : String} {T : u_T} {N b ci q0 n : Nat} {fs : List Value} {ans : Int32} (hM : Ci l y wy fr lo D Z (.ref b :: As) wc ans wc) (isC : List Nat) (hC : isC.map (fun i => ws[i]?) = wc.map some) (hn1 : va_nd isC = true) (hT : GoodIn Ts (wsV own index C y wy)) (hy : wy = Cond.code y bytes maxL ret :: wy') (hd : y.cls = C ∧ y.cls ≠ "java/lang/invoke/MethodHandle" ∧ y.cls ≠ "java/lang/invoke/VarHandle" ∧ (parseMethodDescriptor y.desc).map (fun d => d.parameters.length) = some n) (hRm : fr + 1 ≤ R.frames ∧ 8 + (maxL + 11) + lo ≤ R.locals) (he : wc[q0]? = some (b, .inr (ci, fs))) (hc : vwCl[ci]? = some (C, T, N)) (hlen : As.length = n) (hst : st0 = As.reverse ++ .ref b :: rest) (hsum : (rest.map fun v => v.category).sum ≤ 8) (hf : cells ≤ R.cells ∧ slots ≤ R.slots) (hdg : decode cc pc = .ok (.invokevirtual index, 3))
    (kk : ∀ (H1 : Heap) (locs1 : List Loc), Wd D Z A s ws H1 locs1 → W p l e R s m args below meth c H1 locs1 cells slots Q (F0 m (pc + 3) ls (.int ans :: rest))) : W p l e R s m args below meth c H locs cells slots Q (F0 m pc ls st0) := by
  obtain ⟨hP, hD, hF⟩ := w.cut isC hC hn1
  refine va_calli (va_runV (C := C) (n := n) S (hM H.size) (cwV n S.2.2.2.2 hT hy rfl rfl hd hRm) ⟨fb_Pre, va_recv w.1 hP hc he, (w.pre hP hD).2⟩ rfl hlen hsz hst (lv_room hsum) hdg hf) w.2.2.2.1 (fun q _ h => hF q h) hF (fun r u t H1 locs1 ht hvm hpost hB hz hk hS1 => ?_)
  obtain rfl := hpost; exact kk H1 locs1 (w.glueR isC hC ht hB hk hS1)
theorem nv_cSi (S : CallFix p m c cc nL s args Ts own) (w : Wd D Z A s ws H locs) (hsz : ls.size = nL) {n : Nat} {ans : Int32} (hM : Ci l y wy fr lo D Z As wc ans wp) (isC : List Nat) (hC : isC.map (fun i => ws[i]?) = wc.map some) (hn1 : va_nd isC = true) (hadr : wp.map (fun q => q.1) = wc.map (fun q => q.1)) (hw : mg ws isC wp = ws') (hT : GoodIn Ts (va_wsS own index y wy)) (hy : wy = Cond.code y bytes maxL ret :: wy') (hd : y.cls ≠ "java/lang/invoke/MethodHandle" ∧ y.cls ≠ "java/lang/invoke/VarHandle" ∧ (parseMethodDescriptor y.desc).map (fun d => d.parameters.length) = some n) (hRm : fr + 1 ≤ R.frames ∧ 8 + (maxL + 11) + lo ≤ R.locals) (hlen : As.length = n) (hst : st0 = As.reverse ++ rest) (hsum : (rest.map fun v => v.category).sum ≤ 8) (hf : cells ≤ R.cells ∧ slots ≤ R.slots) (hdg : decode cc pc = .ok (.invokestatic index, 3))
    (kk : ∀ (H1 : Heap) (locs1 : List Loc), Wd D Z A s ws' H1 locs1 → W p l e R s m args below meth c H1 locs1 cells slots Q (F0 m (pc + 3) ls (.int ans :: rest))) : W p l e R s m args below meth c H locs cells slots Q (F0 m pc ls st0) := by
  obtain ⟨hP, hD, hF⟩ := w.cut isC hC hn1
  refine va_calli (va_runS (n := n) S (hM H.size) (va_cwS n S.2.2.2.2 hT hy rfl rfl hd hRm) (w.pre hP hD) rfl hlen hsz hst (lv_room hsum) hdg hf) w.2.2.2.1 (fun q _ h => hF q h) hF (fun r u t H1 locs1 ht hvm hpost hB hz hk hS1 => ?_)
  obtain rfl := hpost; exact kk H1 locs1 (w.glue2 isC hC hadr ht hB hk hS1 hw)
theorem nv_rSi (S : CallFix p m c cc nL s args Ts own) (w : Wd D Z A s ws H locs) (hsz : ls.size = nL) {n : Nat} {ans : Int32} (hM : Ci l y wy fr lo D Z As wc ans wc) (isC : List Nat) (hC : isC.map (fun i => ws[i]?) = wc.map some) (hn1 : va_nd isC = true) (hT : GoodIn Ts (va_wsS own index y wy)) (hy : wy = Cond.code y bytes maxL ret :: wy') (hd : y.cls ≠ "java/lang/invoke/MethodHandle" ∧ y.cls ≠ "java/lang/invoke/VarHandle" ∧ (parseMethodDescriptor y.desc).map (fun d => d.parameters.length) = some n) (hRm : fr + 1 ≤ R.frames ∧ 8 + (maxL + 11) + lo ≤ R.locals) (hlen : As.length = n) (hst : st0 = As.reverse ++ rest) (hsum : (rest.map fun v => v.category).sum ≤ 8) (hf : cells ≤ R.cells ∧ slots ≤ R.slots) (hdg : decode cc pc = .ok (.invokestatic index, 3))
    (kk : ∀ (H1 : Heap) (locs1 : List Loc), Wd D Z A s ws H1 locs1 → W p l e R s m args below meth c H1 locs1 cells slots Q (F0 m (pc + 3) ls (.int ans :: rest))) : W p l e R s m args below meth c H locs cells slots Q (F0 m pc ls st0) := by
  obtain ⟨hP, hD, hF⟩ := w.cut isC hC hn1
  refine va_calli (va_runS (n := n) S (hM H.size) (va_cwS n S.2.2.2.2 hT hy rfl rfl hd hRm) (w.pre hP hD) rfl hlen hsz hst (lv_room hsum) hdg hf) w.2.2.2.1 (fun q _ h => hF q h) hF (fun r u t H1 locs1 ht hvm hpost hB hz hk hS1 => ?_)
  obtain rfl := hpost; exact kk H1 locs1 (w.glueR isC hC ht hB hk hS1)
theorem nv_pSi (S : CallFix p m c cc nL s args Ts own) (w : Wd D Z A s ws H locs) (hsz : ls.size = nL) {n : Nat} {ans : Int32} (hM : Ci l y wy fr lo D Z As [] ans []) (hT : GoodIn Ts (va_wsS own index y wy)) (hy : wy = Cond.code y bytes maxL ret :: wy') (hd : y.cls ≠ "java/lang/invoke/MethodHandle" ∧ y.cls ≠ "java/lang/invoke/VarHandle" ∧ (parseMethodDescriptor y.desc).map (fun d => d.parameters.length) = some n) (hRm : fr + 1 ≤ R.frames ∧ 8 + (maxL + 11) + lo ≤ R.locals) (hlen : As.length = n) (hst : st0 = As.reverse ++ rest) (hsum : (rest.map fun v => v.category).sum ≤ 8) (hf : cells ≤ R.cells ∧ slots ≤ R.slots) (hdg : decode cc pc = .ok (.invokestatic index, 3))
    (kk : ∀ (H1 : Heap) (locs1 : List Loc), Wd D Z A s ws H1 locs1 → W p l e R s m args below meth c H1 locs1 cells slots Q (F0 m (pc + 3) ls (.int ans :: rest))) : W p l e R s m args below meth c H locs cells slots Q (F0 m pc ls st0) := by
  refine va_calli (va_runS (n := n) S (hM H.size) (va_cwS n S.2.2.2.2 hT hy rfl rfl hd hRm) (w.pre0) rfl hlen hsz hst (lv_room hsum) hdg hf) w.2.2.2.1 (fun q _ h => w.free0 q h) w.free0 (fun r u t H1 locs1 ht hvm hpost hB hz hk hS1 => ?_)
  obtain rfl := hpost; exact kk H1 locs1 (w.glue0 hk hS1)
theorem nv_cNi (S : CallFix p m c cc nL s args Ts own) (w : Wd D Z A s ws H locs) (hsz : ls.size = nL) {n kN : Nat} {ans : Int32} (hM : Ci l y wy fr lo D Z As wc ans wp) (isC : List Nat) (hC : isC.map (fun i => ws[i]?) = wc.map some) (hn1 : va_nd isC = true) (hadr : wp.map (fun q => q.1) = wc.map (fun q => q.1)) (hw : mg ws isC wp = ws') (hT : GoodIn Ts wy) (hy : wy = Cond.code y bytes maxL ret :: wy') (hN : nstL[kN]? = some (own, index, y)) (hini : Cond.initialized y.cls ∈ Ts) (hstt : Cond.static y ∈ Ts) (hd : y.cls ≠ "java/lang/invoke/MethodHandle" ∧ y.cls ≠ "java/lang/invoke/VarHandle" ∧ (parseMethodDescriptor y.desc).map (fun d => d.parameters.length) = some n) (hRm : fr + 1 ≤ R.frames ∧ 8 + (maxL + 11) + lo ≤ R.locals) (hlen : As.length = n) (hst : st0 = As.reverse ++ rest) (hsum : (rest.map fun v => v.category).sum ≤ 8) (hf : cells ≤ R.cells ∧ slots ≤ R.slots) (hdg : decode cc pc = .ok (.invokestatic index, 3))
    (kk : ∀ (H1 : Heap) (locs1 : List Loc), Wd D Z A s ws' H1 locs1 → W p l e R s m args below meth c H1 locs1 cells slots Q (F0 m (pc + 3) ls (.int ans :: rest))) : W p l e R s m args below meth c H locs cells slots Q (F0 m pc ls st0) := by
  obtain ⟨hP, hD, hF⟩ := w.cut isC hC hn1
  refine va_calli (va_runSN (n := n) S (hM H.size) ⟨va_cnB n S.2.2.2.2 hT hy rfl rfl (w.2.2.2.2.2.at kN hN) (S.2.2.2.2 _ hini) hd hRm, S.2.2.2.2 _ hstt, trivial⟩ (w.pre hP hD) rfl hlen hsz hst (lv_room hsum) hdg hf) w.2.2.2.1 (fun q _ h => hF q h) hF (fun r u t H1 locs1 ht hvm hpost hB hz hk hS1 => ?_)
  obtain rfl := hpost; exact kk H1 locs1 (w.glue2 isC hC hadr ht hB hk hS1 hw)
theorem nv_rNi (S : CallFix p m c cc nL s args Ts own) (w : Wd D Z A s ws H locs) (hsz : ls.size = nL) {n kN : Nat} {ans : Int32} (hM : Ci l y wy fr lo D Z As wc ans wc) (isC : List Nat) (hC : isC.map (fun i => ws[i]?) = wc.map some) (hn1 : va_nd isC = true) (hT : GoodIn Ts wy) (hy : wy = Cond.code y bytes maxL ret :: wy') (hN : nstL[kN]? = some (own, index, y)) (hini : Cond.initialized y.cls ∈ Ts) (hstt : Cond.static y ∈ Ts) (hd : y.cls ≠ "java/lang/invoke/MethodHandle" ∧ y.cls ≠ "java/lang/invoke/VarHandle" ∧ (parseMethodDescriptor y.desc).map (fun d => d.parameters.length) = some n) (hRm : fr + 1 ≤ R.frames ∧ 8 + (maxL + 11) + lo ≤ R.locals) (hlen : As.length = n) (hst : st0 = As.reverse ++ rest) (hsum : (rest.map fun v => v.category).sum ≤ 8) (hf : cells ≤ R.cells ∧ slots ≤ R.slots) (hdg : decode cc pc = .ok (.invokestatic index, 3))
    (kk : ∀ (H1 : Heap) (locs1 : List Loc), Wd D Z A s ws H1 locs1 → W p l e R s m args below meth c H1 locs1 cells slots Q (F0 m (pc + 3) ls (.int ans :: rest))) : W p l e R s m args below meth c H locs cells slots Q (F0 m pc ls st0) := by
  obtain ⟨hP, hD, hF⟩ := w.cut isC hC hn1
  refine va_calli (va_runSN (n := n) S (hM H.size) ⟨va_cnB n S.2.2.2.2 hT hy rfl rfl (w.2.2.2.2.2.at kN hN) (S.2.2.2.2 _ hini) hd hRm, S.2.2.2.2 _ hstt, trivial⟩ (w.pre hP hD) rfl hlen hsz hst (lv_room hsum) hdg hf) w.2.2.2.1 (fun q _ h => hF q h) hF (fun r u t H1 locs1 ht hvm hpost hB hz hk hS1 => ?_)
  obtain rfl := hpost; exact kk H1 locs1 (w.glueR isC hC ht hB hk hS1)
theorem nv_pNi (S : CallFix p m c cc nL s args Ts own) (w : Wd D Z A s ws H locs) (hsz : ls.size = nL) {n kN : Nat} {ans : Int32} (hM : Ci l y wy fr lo D Z As [] ans []) (hT : GoodIn Ts wy) (hy : wy = Cond.code y bytes maxL ret :: wy') (hN : nstL[kN]? = some (own, index, y)) (hini : Cond.initialized y.cls ∈ Ts) (hstt : Cond.static y ∈ Ts) (hd : y.cls ≠ "java/lang/invoke/MethodHandle" ∧ y.cls ≠ "java/lang/invoke/VarHandle" ∧ (parseMethodDescriptor y.desc).map (fun d => d.parameters.length) = some n) (hRm : fr + 1 ≤ R.frames ∧ 8 + (maxL + 11) + lo ≤ R.locals) (hlen : As.length = n) (hst : st0 = As.reverse ++ rest) (hsum : (rest.map fun v => v.category).sum ≤ 8) (hf : cells ≤ R.cells ∧ slots ≤ R.slots) (hdg : decode cc pc = .ok (.invokestatic index, 3))
    (kk : ∀ (H1 : Heap) (locs1 : List Loc), Wd D Z A s ws H1 locs1 → W p l e R s m args below meth c H1 locs1 cells slots Q (F0 m (pc + 3) ls (.int ans :: rest))) : W p l e R s m args below meth c H locs cells slots Q (F0 m pc ls st0) := by
  refine va_calli (va_runSN (n := n) S (hM H.size) ⟨va_cnB n S.2.2.2.2 hT hy rfl rfl (w.2.2.2.2.2.at kN hN) (S.2.2.2.2 _ hini) hd hRm, S.2.2.2.2 _ hstt, trivial⟩ (w.pre0) rfl hlen hsz hst (lv_room hsum) hdg hf) w.2.2.2.1 (fun q _ h => w.free0 q h) w.free0 (fun r u t H1 locs1 ht hvm hpost hB hz hk hS1 => ?_)
  obtain rfl := hpost; exact kk H1 locs1 (w.glue0 hk hS1)
theorem nv_cVl (S : CallFix p m c cc nL s args Ts own) (w : Wd D Z A s ws H locs) (hsz : ls.size = nL) {C : String} {T : u_T} {N b ci q0 n : Nat} {fs : List Value} {ans : Int64} (hM : Cl l y wy fr lo D Z (.ref b :: As) wc ans wp) (isC : List Nat) (hC : isC.map (fun i => ws[i]?) = wc.map some) (hn1 : va_nd isC = true) (hadr : wp.map (fun q => q.1) = wc.map (fun q => q.1)) (hw : mg ws isC wp = ws') (hT : GoodIn Ts (wsV own index C y wy)) (hy : wy = Cond.code y bytes maxL ret :: wy') (hd : y.cls = C ∧ y.cls ≠ "java/lang/invoke/MethodHandle" ∧ y.cls ≠ "java/lang/invoke/VarHandle" ∧ (parseMethodDescriptor y.desc).map (fun d => d.parameters.length) = some n) (hRm : fr + 1 ≤ R.frames ∧ 8 + (maxL + 11) + lo ≤ R.locals) (he : wc[q0]? = some (b, .inr (ci, fs))) (hc : vwCl[ci]? = some (C, T, N)) (hlen : As.length = n) (hst : st0 = As.reverse ++ .ref b :: rest) (hsum : (rest.map fun v => v.category).sum ≤ 8) (hf : cells ≤ R.cells ∧ slots ≤ R.slots) (hdg : decode cc pc = .ok (.invokevirtual index, 3))
    (kk : ∀ (H1 : Heap) (locs1 : List Loc), Wd D Z A s ws' H1 locs1 → W p l e R s m args below meth c H1 locs1 cells slots Q (F0 m (pc + 3) ls (.long ans :: rest))) : W p l e R s m args below meth c H locs cells slots Q (F0 m pc ls st0) := by
  obtain ⟨hP, hD, hF⟩ := w.cut isC hC hn1
  refine va_calll (va_runV (C := C) (n := n) S (hM H.size) (cwV n S.2.2.2.2 hT hy rfl rfl hd hRm) ⟨fb_Pre, va_recv w.1 hP hc he, (w.pre hP hD).2⟩ rfl hlen hsz hst (lv_room hsum) hdg hf) w.2.2.2.1 (fun q _ h => hF q h) hF (fun r u t H1 locs1 ht hvm hpost hB hz hk hS1 => ?_)
  obtain rfl := hpost; exact kk H1 locs1 (w.glue2 isC hC hadr ht hB hk hS1 hw)
theorem nv_rVl (S : CallFix p m c cc nL s args Ts own) (w : Wd D Z A s ws H locs) (hsz : ls.size = nL) {C : String} {T : u_T} {N b ci q0 n : Nat} {fs : List Value} {ans : Int64} (hM : Cl l y wy fr lo D Z (.ref b :: As) wc ans wc) (isC : List Nat) (hC : isC.map (fun i => ws[i]?) = wc.map some) (hn1 : va_nd isC = true) (hT : GoodIn Ts (wsV own index C y wy)) (hy : wy = Cond.code y bytes maxL ret :: wy') (hd : y.cls = C ∧ y.cls ≠ "java/lang/invoke/MethodHandle" ∧ y.cls ≠ "java/lang/invoke/VarHandle" ∧ (parseMethodDescriptor y.desc).map (fun d => d.parameters.length) = some n) (hRm : fr + 1 ≤ R.frames ∧ 8 + (maxL + 11) + lo ≤ R.locals) (he : wc[q0]? = some (b, .inr (ci, fs))) (hc : vwCl[ci]? = some (C, T, N)) (hlen : As.length = n) (hst : st0 = As.reverse ++ .ref b :: rest) (hsum : (rest.map fun v => v.category).sum ≤ 8) (hf : cells ≤ R.cells ∧ slots ≤ R.slots) (hdg : decode cc pc = .ok (.invokevirtual index, 3))
    (kk : ∀ (H1 : Heap) (locs1 : List Loc), Wd D Z A s ws H1 locs1 → W p l e R s m args below meth c H1 locs1 cells slots Q (F0 m (pc + 3) ls (.long ans :: rest))) : W p l e R s m args below meth c H locs cells slots Q (F0 m pc ls st0) := by
  obtain ⟨hP, hD, hF⟩ := w.cut isC hC hn1
  refine va_calll (va_runV (C := C) (n := n) S (hM H.size) (cwV n S.2.2.2.2 hT hy rfl rfl hd hRm) ⟨fb_Pre, va_recv w.1 hP hc he, (w.pre hP hD).2⟩ rfl hlen hsz hst (lv_room hsum) hdg hf) w.2.2.2.1 (fun q _ h => hF q h) hF (fun r u t H1 locs1 ht hvm hpost hB hz hk hS1 => ?_)
  obtain rfl := hpost; exact kk H1 locs1 (w.glueR isC hC ht hB hk hS1)
theorem nv_cSl (S : CallFix p m c cc nL s args Ts own) (w : Wd D Z A s ws H locs) (hsz : ls.size = nL) {n : Nat} {ans : Int64} (hM : Cl l y wy fr lo D Z As wc ans wp) (isC : List Nat) (hC : isC.map (fun i => ws[i]?) = wc.map some) (hn1 : va_nd isC = true) (hadr : wp.map (fun q => q.1) = wc.map (fun q => q.1)) (hw : mg ws isC wp = ws') (hT : GoodIn Ts (va_wsS own index y wy)) (hy : wy = Cond.code y bytes maxL ret :: wy') (hd : y.cls ≠ "java/lang/invoke/MethodHandle" ∧ y.cls ≠ "java/lang/invoke/VarHandle" ∧ (parseMethodDescriptor y.desc).map (fun d => d.parameters.length) = some n) (hRm : fr + 1 ≤ R.frames ∧ 8 + (maxL + 11) + lo ≤ R.locals) (hlen : As.length = n) (hst : st0 = As.reverse ++ rest) (hsum : (rest.map fun v => v.category).sum ≤ 8) (hf : cells ≤ R.cells ∧ slots ≤ R.slots) (hdg : decode cc pc = .ok (.invokestatic index, 3))
    (kk : ∀ (H1 : Heap) (locs1 : List Loc), Wd D Z A s ws' H1 locs1 → W p l e R s m args below meth c H1 locs1 cells slots Q (F0 m (pc + 3) ls (.long ans :: rest))) : W p l e R s m args below meth c H locs cells slots Q (F0 m pc ls st0) := by
  obtain ⟨hP, hD, hF⟩ := w.cut isC hC hn1
  refine va_calll (va_runS (n := n) S (hM H.size) (va_cwS n S.2.2.2.2 hT hy rfl rfl hd hRm) (w.pre hP hD) rfl hlen hsz hst (lv_room hsum) hdg hf) w.2.2.2.1 (fun q _ h => hF q h) hF (fun r u t H1 locs1 ht hvm hpost hB hz hk hS1 => ?_)
  obtain rfl := hpost; exact kk H1 locs1 (w.glue2 isC hC hadr ht hB hk hS1 hw)
theorem nv_rSl (S : CallFix p m c cc nL s args Ts own) (w : Wd D Z A s ws H locs) (hsz : ls.size = nL) {n : Nat} {ans : Int64} (hM : Cl l y wy fr lo D Z As wc ans wc) (isC : List Nat) (hC : isC.map (fun i => ws[i]?) = wc.map some) (hn1 : va_nd isC = true) (hT : GoodIn Ts (va_wsS own index y wy)) (hy : wy = Cond.code y bytes maxL ret :: wy') (hd : y.cls ≠ "java/lang/invoke/MethodHandle" ∧ y.cls ≠ "java/lang/invoke/VarHandle" ∧ (parseMethodDescriptor y.desc).map (fun d => d.parameters.length) = some n) (hRm : fr + 1 ≤ R.frames ∧ 8 + (maxL + 11) + lo ≤ R.locals) (hlen : As.length = n) (hst : st0 = As.reverse ++ rest) (hsum : (rest.map fun v => v.category).sum ≤ 8) (hf : cells ≤ R.cells ∧ slots ≤ R.slots) (hdg : decode cc pc = .ok (.invokestatic index, 3))
    (kk : ∀ (H1 : Heap) (locs1 : List Loc), Wd D Z A s ws H1 locs1 → W p l e R s m args below meth c H1 locs1 cells slots Q (F0 m (pc + 3) ls (.long ans :: rest))) : W p l e R s m args below meth c H locs cells slots Q (F0 m pc ls st0) := by
  obtain ⟨hP, hD, hF⟩ := w.cut isC hC hn1
  refine va_calll (va_runS (n := n) S (hM H.size) (va_cwS n S.2.2.2.2 hT hy rfl rfl hd hRm) (w.pre hP hD) rfl hlen hsz hst (lv_room hsum) hdg hf) w.2.2.2.1 (fun q _ h => hF q h) hF (fun r u t H1 locs1 ht hvm hpost hB hz hk hS1 => ?_)
  obtain rfl := hpost; exact kk H1 locs1 (w.glueR isC hC ht hB hk hS1)
theorem nv_pSl (S : CallFix p m c cc nL s args Ts own) (w : Wd D Z A s ws H locs) (hsz : ls.size = nL) {n : Nat} {ans : Int64} (hM : Cl l y wy fr lo D Z As [] ans []) (hT : GoodIn Ts (va_wsS own index y wy)) (hy : wy = Cond.code y bytes maxL ret :: wy') (hd : y.cls ≠ "java/lang/invoke/MethodHandle" ∧ y.cls ≠ "java/lang/invoke/VarHandle" ∧ (parseMethodDescriptor y.desc).map (fun d => d.parameters.length) = some n) (hRm : fr + 1 ≤ R.frames ∧ 8 + (maxL + 11) + lo ≤ R.locals) (hlen : As.length = n) (hst : st0 = As.reverse ++ rest) (hsum : (rest.map fun v => v.category).sum ≤ 8) (hf : cells ≤ R.cells ∧ slots ≤ R.slots) (hdg : decode cc pc = .ok (.invokestatic index, 3))
    (kk : ∀ (H1 : Heap) (locs1 : List Loc), Wd D Z A s ws H1 locs1 → W p l e R s m args below meth c H1 locs1 cells slots Q (F0 m (pc + 3) ls (.long ans :: rest))) : W p l e R s m args below meth c H locs cells slots Q (F0 m pc ls st0) := by
  refine va_calll (va_runS (n := n) S (hM H.size) (va_cwS n S.2.2.2.2 hT hy rfl rfl hd hRm) (w.pre0) rfl hlen hsz hst (lv_room hsum) hdg hf) w.2.2.2.1 (fun q _ h => w.free0 q h) w.free0 (fun r u t H1 locs1 ht hvm hpost hB hz hk hS1 => ?_)
  obtain rfl := hpost; exact kk H1 locs1 (w.glue0 hk hS1)
theorem nv_cNl (S : CallFix p m c cc nL s args Ts own) (w : Wd D Z A s ws H locs) (hsz : ls.size = nL) {n kN : Nat} {ans : Int64} (hM : Cl l y wy fr lo D Z As wc ans wp) (isC : List Nat) (hC : isC.map (fun i => ws[i]?) = wc.map some) (hn1 : va_nd isC = true) (hadr : wp.map (fun q => q.1) = wc.map (fun q => q.1)) (hw : mg ws isC wp = ws') (hT : GoodIn Ts wy) (hy : wy = Cond.code y bytes maxL ret :: wy') (hN : nstL[kN]? = some (own, index, y)) (hini : Cond.initialized y.cls ∈ Ts) (hstt : Cond.static y ∈ Ts) (hd : y.cls ≠ "java/lang/invoke/MethodHandle" ∧ y.cls ≠ "java/lang/invoke/VarHandle" ∧ (parseMethodDescriptor y.desc).map (fun d => d.parameters.length) = some n) (hRm : fr + 1 ≤ R.frames ∧ 8 + (maxL + 11) + lo ≤ R.locals) (hlen : As.length = n) (hst : st0 = As.reverse ++ rest) (hsum : (rest.map fun v => v.category).sum ≤ 8) (hf : cells ≤ R.cells ∧ slots ≤ R.slots) (hdg : decode cc pc = .ok (.invokestatic index, 3))
    (kk : ∀ (H1 : Heap) (locs1 : List Loc), Wd D Z A s ws' H1 locs1 → W p l e R s m args below meth c H1 locs1 cells slots Q (F0 m (pc + 3) ls (.long ans :: rest))) : W p l e R s m args below meth c H locs cells slots Q (F0 m pc ls st0) := by
  obtain ⟨hP, hD, hF⟩ := w.cut isC hC hn1
  refine va_calll (va_runSN (n := n) S (hM H.size) ⟨va_cnB n S.2.2.2.2 hT hy rfl rfl (w.2.2.2.2.2.at kN hN) (S.2.2.2.2 _ hini) hd hRm, S.2.2.2.2 _ hstt, trivial⟩ (w.pre hP hD) rfl hlen hsz hst (lv_room hsum) hdg hf) w.2.2.2.1 (fun q _ h => hF q h) hF (fun r u t H1 locs1 ht hvm hpost hB hz hk hS1 => ?_)
  obtain rfl := hpost; exact kk H1 locs1 (w.glue2 isC hC hadr ht hB hk hS1 hw)
theorem nv_rNl (S : CallFix p m c cc nL s args Ts own) (w : Wd D Z A s ws H locs) (hsz : ls.size = nL) {n kN : Nat} {ans : Int64} (hM : Cl l y wy fr lo D Z As wc ans wc) (isC : List Nat) (hC : isC.map (fun i => ws[i]?) = wc.map some) (hn1 : va_nd isC = true) (hT : GoodIn Ts wy) (hy : wy = Cond.code y bytes maxL ret :: wy') (hN : nstL[kN]? = some (own, index, y)) (hini : Cond.initialized y.cls ∈ Ts) (hstt : Cond.static y ∈ Ts) (hd : y.cls ≠ "java/lang/invoke/MethodHandle" ∧ y.cls ≠ "java/lang/invoke/VarHandle" ∧ (parseMethodDescriptor y.desc).map (fun d => d.parameters.length) = some n) (hRm : fr + 1 ≤ R.frames ∧ 8 + (maxL + 11) + lo ≤ R.locals) (hlen : As.length = n) (hst : st0 = As.reverse ++ rest) (hsum : (rest.map fun v => v.category).sum ≤ 8) (hf : cells ≤ R.cells ∧ slots ≤ R.slots) (hdg : decode cc pc = .ok (.invokestatic index, 3))
    (kk : ∀ (H1 : Heap) (locs1 : List Loc), Wd D Z A s ws H1 locs1 → W p l e R s m args below meth c H1 locs1 cells slots Q (F0 m (pc + 3) ls (.long ans :: rest))) : W p l e R s m args below meth c H locs cells slots Q (F0 m pc ls st0) := by
  obtain ⟨hP, hD, hF⟩ := w.cut isC hC hn1
  refine va_calll (va_runSN (n := n) S (hM H.size) ⟨va_cnB n S.2.2.2.2 hT hy rfl rfl (w.2.2.2.2.2.at kN hN) (S.2.2.2.2 _ hini) hd hRm, S.2.2.2.2 _ hstt, trivial⟩ (w.pre hP hD) rfl hlen hsz hst (lv_room hsum) hdg hf) w.2.2.2.1 (fun q _ h => hF q h) hF (fun r u t H1 locs1 ht hvm hpost hB hz hk hS1 => ?_)
  obtain rfl := hpost; exact kk H1 locs1 (w.glueR isC hC ht hB hk hS1)
theorem nv_pNl (S : CallFix p m c cc nL s args Ts own) (w : Wd D Z A s ws H locs) (hsz : ls.size = nL) {n kN : Nat} {ans : Int64} (hM : Cl l y wy fr lo D Z As [] ans []) (hT : GoodIn Ts wy) (hy : wy = Cond.code y bytes maxL ret :: wy') (hN : nstL[kN]? = some (own, index, y)) (hini : Cond.initialized y.cls ∈ Ts) (hstt : Cond.static y ∈ Ts) (hd : y.cls ≠ "java/lang/invoke/MethodHandle" ∧ y.cls ≠ "java/lang/invoke/VarHandle" ∧ (parseMethodDescriptor y.desc).map (fun d => d.parameters.length) = some n) (hRm : fr + 1 ≤ R.frames ∧ 8 + (maxL + 11) + lo ≤ R.locals) (hlen : As.length = n) (hst : st0 = As.reverse ++ rest) (hsum : (rest.map fun v => v.category).sum ≤ 8) (hf : cells ≤ R.cells ∧ slots ≤ R.slots) (hdg : decode cc pc = .ok (.invokestatic index, 3))
    (kk : ∀ (H1 : Heap) (locs1 : List Loc), Wd D Z A s ws H1 locs1 → W p l e R s m args below meth c H1 locs1 cells slots Q (F0 m (pc + 3) ls (.long ans :: rest))) : W p l e R s m args below meth c H locs cells slots Q (F0 m pc ls st0) := by
  refine va_calll (va_runSN (n := n) S (hM H.size) ⟨va_cnB n S.2.2.2.2 hT hy rfl rfl (w.2.2.2.2.2.at kN hN) (S.2.2.2.2 _ hini) hd hRm, S.2.2.2.2 _ hstt, trivial⟩ (w.pre0) rfl hlen hsz hst (lv_room hsum) hdg hf) w.2.2.2.1 (fun q _ h => w.free0 q h) w.free0 (fun r u t H1 locs1 ht hvm hpost hB hz hk hS1 => ?_)
  obtain rfl := hpost; exact kk H1 locs1 (w.glue0 hk hS1)
theorem nv_cVv (S : CallFix p m c cc nL s args Ts own) (w : Wd D Z A s ws H locs) (hsz : ls.size = nL) {C : String} {T : u_T} {N b ci q0 n : Nat} {fs : List Value}  (hM : Cv l y wy fr lo D Z (.ref b :: As) wc wp) (isC : List Nat) (hC : isC.map (fun i => ws[i]?) = wc.map some) (hn1 : va_nd isC = true) (hadr : wp.map (fun q => q.1) = wc.map (fun q => q.1)) (hw : mg ws isC wp = ws') (hT : GoodIn Ts (wsV own index C y wy)) (hy : wy = Cond.code y bytes maxL ret :: wy') (hd : y.cls = C ∧ y.cls ≠ "java/lang/invoke/MethodHandle" ∧ y.cls ≠ "java/lang/invoke/VarHandle" ∧ (parseMethodDescriptor y.desc).map (fun d => d.parameters.length) = some n) (hRm : fr + 1 ≤ R.frames ∧ 8 + (maxL + 11) + lo ≤ R.locals) (he : wc[q0]? = some (b, .inr (ci, fs))) (hc : vwCl[ci]? = some (C, T, N)) (hlen : As.length = n) (hst : st0 = As.reverse ++ .ref b :: rest) (hsum : (rest.map fun v => v.category).sum ≤ 8) (hf : cells ≤ R.cells ∧ slots ≤ R.slots) (hdg : decode cc pc = .ok (.invokevirtual index, 3))
    (kk : ∀ (H1 : Heap) (locs1 : List Loc), Wd D Z A s ws' H1 locs1 → W p l e R s m args below meth c H1 locs1 cells slots Q (F0 m (pc + 3) ls (rest))) : W p l e R s m args below meth c H locs cells slots Q (F0 m pc ls st0) := by
  obtain ⟨hP, hD, hF⟩ := w.cut isC hC hn1
  refine va_callv (va_runV (C := C) (n := n) S (hM H.size) (cwV n S.2.2.2.2 hT hy rfl rfl hd hRm) ⟨fb_Pre, va_recv w.1 hP hc he, (w.pre hP hD).2⟩ rfl hlen hsz hst (lv_room hsum) hdg hf) w.2.2.2.1 (fun q _ h => hF q h) hF (fun u t H1 locs1 ht hvm hpost hB hz hk hS1 => ?_)
  exact kk H1 locs1 (w.glue2 isC hC hadr ht hB hk hS1 hw)
theorem nv_rVv (S : CallFix p m c cc nL s args Ts own) (w : Wd D Z A s ws H locs) (hsz : ls.size = nL) {C : String} {T : u_T} {N b ci q0 n : Nat} {fs : List Value}  (hM : Cv l y wy fr lo D Z (.ref b :: As) wc wc) (isC : List Nat) (hC : isC.map (fun i => ws[i]?) = wc.map some) (hn1 : va_nd isC = true) (hT : GoodIn Ts (wsV own index C y wy)) (hy : wy = Cond.code y bytes maxL ret :: wy') (hd : y.cls = C ∧ y.cls ≠ "java/lang/invoke/MethodHandle" ∧ y.cls ≠ "java/lang/invoke/VarHandle" ∧ (parseMethodDescriptor y.desc).map (fun d => d.parameters.length) = some n) (hRm : fr + 1 ≤ R.frames ∧ 8 + (maxL + 11) + lo ≤ R.locals) (he : wc[q0]? = some (b, .inr (ci, fs))) (hc : vwCl[ci]? = some (C, T, N)) (hlen : As.length = n) (hst : st0 = As.reverse ++ .ref b :: rest) (hsum : (rest.map fun v => v.category).sum ≤ 8) (hf : cells ≤ R.cells ∧ slots ≤ R.slots) (hdg : decode cc pc = .ok (.invokevirtual index, 3))
    (kk : ∀ (H1 : Heap) (locs1 : List Loc), Wd D Z A s ws H1 locs1 → W p l e R s m args below meth c H1 locs1 cells slots Q (F0 m (pc + 3) ls (rest))) : W p l e R s m args below meth c H locs cells slots Q (F0 m pc ls st0) := by
  obtain ⟨hP, hD, hF⟩ := w.cut isC hC hn1
  refine va_callv (va_runV (C := C) (n := n) S (hM H.size) (cwV n S.2.2.2.2 hT hy rfl rfl hd hRm) ⟨fb_Pre, va_recv w.1 hP hc he, (w.pre hP hD).2⟩ rfl hlen hsz hst (lv_room hsum) hdg hf) w.2.2.2.1 (fun q _ h => hF q h) hF (fun u t H1 locs1 ht hvm hpost hB hz hk hS1 => ?_)
  exact kk H1 locs1 (w.glueR isC hC ht hB hk hS1)
theorem nv_cSv (S : CallFix p m c cc nL s args Ts own) (w : Wd D Z A s ws H locs) (hsz : ls.size = nL) {n : Nat}  (hM : Cv l y wy fr lo D Z As wc wp) (isC : List Nat) (hC : isC.map (fun i => ws[i]?) = wc.map some) (hn1 : va_nd isC = true) (hadr : wp.map (fun q => q.1) = wc.map (fun q => q.1)) (hw : mg ws isC wp = ws') (hT : GoodIn Ts (va_wsS own index y wy)) (hy : wy = Cond.code y bytes maxL ret :: wy') (hd : y.cls ≠ "java/lang/invoke/MethodHandle" ∧ y.cls ≠ "java/lang/invoke/VarHandle" ∧ (parseMethodDescriptor y.desc).map (fun d => d.parameters.length) = some n) (hRm : fr + 1 ≤ R.frames ∧ 8 + (maxL + 11) + lo ≤ R.locals) (hlen : As.length = n) (hst : st0 = As.reverse ++ rest) (hsum : (rest.map fun v => v.category).sum ≤ 8) (hf : cells ≤ R.cells ∧ slots ≤ R.slots) (hdg : decode cc pc = .ok (.invokestatic index, 3))
    (kk : ∀ (H1 : Heap) (locs1 : List Loc), Wd D Z A s ws' H1 locs1 → W p l e R s m args below meth c H1 locs1 cells slots Q (F0 m (pc + 3) ls (rest))) : W p l e R s m args below meth c H locs cells slots Q (F0 m pc ls st0) := by
  obtain ⟨hP, hD, hF⟩ := w.cut isC hC hn1
  refine va_callv (va_runS (n := n) S (hM H.size) (va_cwS n S.2.2.2.2 hT hy rfl rfl hd hRm) (w.pre hP hD) rfl hlen hsz hst (lv_room hsum) hdg hf) w.2.2.2.1 (fun q _ h => hF q h) hF (fun u t H1 locs1 ht hvm hpost hB hz hk hS1 => ?_)
  exact kk H1 locs1 (w.glue2 isC hC hadr ht hB hk hS1 hw)
theorem nv_rSv (S : CallFix p m c cc nL s args Ts own) (w : Wd D Z A s ws H locs) (hsz : ls.size = nL) {n : Nat}  (hM : Cv l y wy fr lo D Z As wc wc) (isC : List Nat) (hC : isC.map (fun i => ws[i]?) = wc.map some) (hn1 : va_nd isC = true) (hT : GoodIn Ts (va_wsS own index y wy)) (hy : wy = Cond.code y bytes maxL ret :: wy') (hd : y.cls ≠ "java/lang/invoke/MethodHandle" ∧ y.cls ≠ "java/lang/invoke/VarHandle" ∧ (parseMethodDescriptor y.desc).map (fun d => d.parameters.length) = some n) (hRm : fr + 1 ≤ R.frames ∧ 8 + (maxL + 11) + lo ≤ R.locals) (hlen : As.length = n) (hst : st0 = As.reverse ++ rest) (hsum : (rest.map fun v => v.category).sum ≤ 8) (hf : cells ≤ R.cells ∧ slots ≤ R.slots) (hdg : decode cc pc = .ok (.invokestatic index, 3))
    (kk : ∀ (H1 : Heap) (locs1 : List Loc), Wd D Z A s ws H1 locs1 → W p l e R s m args below meth c H1 locs1 cells slots Q (F0 m (pc + 3) ls (rest))) : W p l e R s m args below meth c H locs cells slots Q (F0 m pc ls st0) := by
  obtain ⟨hP, hD, hF⟩ := w.cut isC hC hn1
  refine va_callv (va_runS (n := n) S (hM H.size) (va_cwS n S.2.2.2.2 hT hy rfl rfl hd hRm) (w.pre hP hD) rfl hlen hsz hst (lv_room hsum) hdg hf) w.2.2.2.1 (fun q _ h => hF q h) hF (fun u t H1 locs1 ht hvm hpost hB hz hk hS1 => ?_)
  exact kk H1 locs1 (w.glueR isC hC ht hB hk hS1)
theorem nv_pSv (S : CallFix p m c cc nL s args Ts own) (w : Wd D Z A s ws H locs) (hsz : ls.size = nL) {n : Nat}  (hM : Cv l y wy fr lo D Z As [] []) (hT : GoodIn Ts (va_wsS own index y wy)) (hy : wy = Cond.code y bytes maxL ret :: wy') (hd : y.cls ≠ "java/lang/invoke/MethodHandle" ∧ y.cls ≠ "java/lang/invoke/VarHandle" ∧ (parseMethodDescriptor y.desc).map (fun d => d.parameters.length) = some n) (hRm : fr + 1 ≤ R.frames ∧ 8 + (maxL + 11) + lo ≤ R.locals) (hlen : As.length = n) (hst : st0 = As.reverse ++ rest) (hsum : (rest.map fun v => v.category).sum ≤ 8) (hf : cells ≤ R.cells ∧ slots ≤ R.slots) (hdg : decode cc pc = .ok (.invokestatic index, 3))
    (kk : ∀ (H1 : Heap) (locs1 : List Loc), Wd D Z A s ws H1 locs1 → W p l e R s m args below meth c H1 locs1 cells slots Q (F0 m (pc + 3) ls (rest))) : W p l e R s m args below meth c H locs cells slots Q (F0 m pc ls st0) := by
  refine va_callv (va_runS (n := n) S (hM H.size) (va_cwS n S.2.2.2.2 hT hy rfl rfl hd hRm) (w.pre0) rfl hlen hsz hst (lv_room hsum) hdg hf) w.2.2.2.1 (fun q _ h => w.free0 q h) w.free0 (fun u t H1 locs1 ht hvm hpost hB hz hk hS1 => ?_)
  exact kk H1 locs1 (w.glue0 hk hS1)
theorem nv_cNv (S : CallFix p m c cc nL s args Ts own) (w : Wd D Z A s ws H locs) (hsz : ls.size = nL) {n kN : Nat}  (hM : Cv l y wy fr lo D Z As wc wp) (isC : List Nat) (hC : isC.map (fun i => ws[i]?) = wc.map some) (hn1 : va_nd isC = true) (hadr : wp.map (fun q => q.1) = wc.map (fun q => q.1)) (hw : mg ws isC wp = ws') (hT : GoodIn Ts wy) (hy : wy = Cond.code y bytes maxL ret :: wy') (hN : nstL[kN]? = some (own, index, y)) (hini : Cond.initialized y.cls ∈ Ts) (hstt : Cond.static y ∈ Ts) (hd : y.cls ≠ "java/lang/invoke/MethodHandle" ∧ y.cls ≠ "java/lang/invoke/VarHandle" ∧ (parseMethodDescriptor y.desc).map (fun d => d.parameters.length) = some n) (hRm : fr + 1 ≤ R.frames ∧ 8 + (maxL + 11) + lo ≤ R.locals) (hlen : As.length = n) (hst : st0 = As.reverse ++ rest) (hsum : (rest.map fun v => v.category).sum ≤ 8) (hf : cells ≤ R.cells ∧ slots ≤ R.slots) (hdg : decode cc pc = .ok (.invokestatic index, 3))
    (kk : ∀ (H1 : Heap) (locs1 : List Loc), Wd D Z A s ws' H1 locs1 → W p l e R s m args below meth c H1 locs1 cells slots Q (F0 m (pc + 3) ls (rest))) : W p l e R s m args below meth c H locs cells slots Q (F0 m pc ls st0) := by
  obtain ⟨hP, hD, hF⟩ := w.cut isC hC hn1
  refine va_callv (va_runSN (n := n) S (hM H.size) ⟨va_cnB n S.2.2.2.2 hT hy rfl rfl (w.2.2.2.2.2.at kN hN) (S.2.2.2.2 _ hini) hd hRm, S.2.2.2.2 _ hstt, trivial⟩ (w.pre hP hD) rfl hlen hsz hst (lv_room hsum) hdg hf) w.2.2.2.1 (fun q _ h => hF q h) hF (fun u t H1 locs1 ht hvm hpost hB hz hk hS1 => ?_)
  exact kk H1 locs1 (w.glue2 isC hC hadr ht hB hk hS1 hw)
theorem nv_rNv (S : CallFix p m c cc nL s args Ts own) (w : Wd D Z A s ws H locs) (hsz : ls.size = nL) {n kN : Nat}  (hM : Cv l y wy fr lo D Z As wc wc) (isC : List Nat) (hC : isC.map (fun i => ws[i]?) = wc.map some) (hn1 : va_nd isC = true) (hT : GoodIn Ts wy) (hy : wy = Cond.code y bytes maxL ret :: wy') (hN : nstL[kN]? = some (own, index, y)) (hini : Cond.initialized y.cls ∈ Ts) (hstt : Cond.static y ∈ Ts) (hd : y.cls ≠ "java/lang/invoke/MethodHandle" ∧ y.cls ≠ "java/lang/invoke/VarHandle" ∧ (parseMethodDescriptor y.desc).map (fun d => d.parameters.length) = some n) (hRm : fr + 1 ≤ R.frames ∧ 8 + (maxL + 11) + lo ≤ R.locals) (hlen : As.length = n) (hst : st0 = As.reverse ++ rest) (hsum : (rest.map fun v => v.category).sum ≤ 8) (hf : cells ≤ R.cells ∧ slots ≤ R.slots) (hdg : decode cc pc = .ok (.invokestatic index, 3))
    (kk : ∀ (H1 : Heap) (locs1 : List Loc), Wd D Z A s ws H1 locs1 → W p l e R s m args below meth c H1 locs1 cells slots Q (F0 m (pc + 3) ls (rest))) : W p l e R s m args below meth c H locs cells slots Q (F0 m pc ls st0) := by
  obtain ⟨hP, hD, hF⟩ := w.cut isC hC hn1
  refine va_callv (va_runSN (n := n) S (hM H.size) ⟨va_cnB n S.2.2.2.2 hT hy rfl rfl (w.2.2.2.2.2.at kN hN) (S.2.2.2.2 _ hini) hd hRm, S.2.2.2.2 _ hstt, trivial⟩ (w.pre hP hD) rfl hlen hsz hst (lv_room hsum) hdg hf) w.2.2.2.1 (fun q _ h => hF q h) hF (fun u t H1 locs1 ht hvm hpost hB hz hk hS1 => ?_)
  exact kk H1 locs1 (w.glueR isC hC ht hB hk hS1)
theorem nv_pNv (S : CallFix p m c cc nL s args Ts own) (w : Wd D Z A s ws H locs) (hsz : ls.size = nL) {n kN : Nat}  (hM : Cv l y wy fr lo D Z As [] []) (hT : GoodIn Ts wy) (hy : wy = Cond.code y bytes maxL ret :: wy') (hN : nstL[kN]? = some (own, index, y)) (hini : Cond.initialized y.cls ∈ Ts) (hstt : Cond.static y ∈ Ts) (hd : y.cls ≠ "java/lang/invoke/MethodHandle" ∧ y.cls ≠ "java/lang/invoke/VarHandle" ∧ (parseMethodDescriptor y.desc).map (fun d => d.parameters.length) = some n) (hRm : fr + 1 ≤ R.frames ∧ 8 + (maxL + 11) + lo ≤ R.locals) (hlen : As.length = n) (hst : st0 = As.reverse ++ rest) (hsum : (rest.map fun v => v.category).sum ≤ 8) (hf : cells ≤ R.cells ∧ slots ≤ R.slots) (hdg : decode cc pc = .ok (.invokestatic index, 3))
    (kk : ∀ (H1 : Heap) (locs1 : List Loc), Wd D Z A s ws H1 locs1 → W p l e R s m args below meth c H1 locs1 cells slots Q (F0 m (pc + 3) ls (rest))) : W p l e R s m args below meth c H locs cells slots Q (F0 m pc ls st0) := by
  refine va_callv (va_runSN (n := n) S (hM H.size) ⟨va_cnB n S.2.2.2.2 hT hy rfl rfl (w.2.2.2.2.2.at kN hN) (S.2.2.2.2 _ hini) hd hRm, S.2.2.2.2 _ hstt, trivial⟩ (w.pre0) rfl hlen hsz hst (lv_room hsum) hdg hf) w.2.2.2.1 (fun q _ h => w.free0 q h) w.free0 (fun u t H1 locs1 ht hvm hpost hB hz hk hS1 => ?_)
  exact kk H1 locs1 (w.glue0 hk hS1)
end NVC

section NVM
variable {p : Program} {l : Launch} {e : Env} {R : Room} {s : State} {m : MethodId} {args : Array Value} {below : List Frame} {meth : Method} {c : Code} {H : Heap} {locs : List Loc} {cells slots : Nat} {Q : State → Prop} {cc : ByteArray} {pc nL : Nat} {ls : Array Slot} {rest : List Value} {Ts : List Cond} {own : String} {D : va_G} {Z : Nat → ClassId} {A : Nat → Prop} {ws ws' : va_W} {index : Nat}
theorem nv_imax (S : CallFix p m c cc nL s args Ts own) (hsz : ls.size = nL) (hlink : Cond.methodLink own index Lib.Math.max.name ∈ Ts) (hstat : Cond.static Lib.Math.max.name ∈ Ts) (hini : Cond.initialized "java/lang/Math" ∈ Ts) (hcode : Cond.code Lib.Math.max.name Lib.Math.max.code 2 (some .int) ∈ Ts) (hfr : 1 ≤ R.frames) (hlo : (rest.map fun v => v.category).sum + 13 ≤ R.locals) (hf : cells ≤ R.cells ∧ slots ≤ R.slots) {x y : Nat} (hx : x < 2 ^ 31) (hy : y < 2 ^ 31) (hdg : decode cc pc = .ok (.invokestatic index, 3))
    (kk : W p l e R s m args below meth c H locs cells slots Q (F0 m (pc + 3) ls (vI (max x y) :: rest))) : W p l e R s m args below meth c H locs cells slots Q (F0 m pc ls (vI y :: vI x :: rest)) := by
  refine va_mmax S.1 S.2.1 (S.2.2.1.trans hsz.symm) S.2.2.2.1 (S.2.2.2.2 _ hlink) (S.2.2.2.2 _ hstat) (S.2.2.2.2 _ hini) (S.2.2.2.2 _ hcode) hfr hlo hf.1 hf.2 hdg ?_
  have e9 : (if nI x < nI y then nI y else nI x) = nI (max x y) := by
    by_cases h : x < y
    · rw [if_pos ((nI_ltI hx hy).mpr h), Nat.max_eq_right (Nat.le_of_lt h)]
    · rw [if_neg (fun z => h ((nI_ltI hx hy).mp z)), Nat.max_eq_left (Nat.le_of_not_lt h)]
  rw [e9]
  exact kk
theorem nv_imin (S : CallFix p m c cc nL s args Ts own) (hsz : ls.size = nL) (hlink : Cond.methodLink own index Lib.Math.min.name ∈ Ts) (hstat : Cond.static Lib.Math.min.name ∈ Ts) (hini : Cond.initialized "java/lang/Math" ∈ Ts) (hcode : Cond.code Lib.Math.min.name Lib.Math.min.code 2 (some .int) ∈ Ts) (hfr : 1 ≤ R.frames) (hlo : (rest.map fun v => v.category).sum + 13 ≤ R.locals) (hf : cells ≤ R.cells ∧ slots ≤ R.slots) {x y : Nat} (hx : x < 2 ^ 31) (hy : y < 2 ^ 31) (hdg : decode cc pc = .ok (.invokestatic index, 3))
    (kk : W p l e R s m args below meth c H locs cells slots Q (F0 m (pc + 3) ls (vI (min x y) :: rest))) : W p l e R s m args below meth c H locs cells slots Q (F0 m pc ls (vI y :: vI x :: rest)) := by
  refine va_mmin S.1 S.2.1 (S.2.2.1.trans hsz.symm) S.2.2.2.1 (S.2.2.2.2 _ hlink) (S.2.2.2.2 _ hstat) (S.2.2.2.2 _ hini) (S.2.2.2.2 _ hcode) hfr hlo hf.1 hf.2 hdg ?_
  have e9 : (if nI y < nI x then nI y else nI x) = nI (min x y) := by
    by_cases h : y < x
    · rw [if_pos ((nI_ltI hy hx).mpr h), Nat.min_eq_right (Nat.le_of_lt h)]
    · rw [if_neg (fun z => h ((nI_ltI hy hx).mp z)), Nat.min_eq_left (Nat.le_of_not_lt h)]
  rw [e9]
  exact kk
theorem nv_icopy (S : CallFix p m c cc nL s args Ts own) (w : Wd D Z A s ws H locs) (hsz : ls.size = nL) (hlink : Cond.methodLink own index arraycopyName ∈ Ts) (hnat : Cond.native arraycopyName ∈ Ts) (hstat : Cond.static arraycopyName ∈ Ts) (hini : Cond.initialized "java/lang/System" ∈ Ts) (hfr : 1 ≤ R.frames) (hlo : (rest.map fun v => v.category).sum + (nativeFrameWords "java/lang/System" "arraycopy" 5 + 11) ≤ R.locals)
    (q0 q1 : Nat) {a0 a k n d : Nat} {g h : Nat → Nat} (ha0 : ws[q0]? = some (a0, .inl (Z 0, k, .inl (ar k g)))) (ha1 : ws[q1]? = some (a, .inl (Z 0, n, .inl (ar n h)))) (hd : d + k ≤ n) (hn : n < 2 ^ 31) {r : Nat → Int32} (hr : va_cpy (ar k g) (ar n h) 0 d k = r) (hw : ws.set q1 (a, .inl (Z 0, n, .inl r)) = ws') (hdg : decode cc pc = .ok (.invokestatic index, 3))
    (kk : ∀ (H1 : Heap) (locs1 : List Loc), Wd D Z A s ws' H1 locs1 → W p l e R s m args below meth c H1 locs1 cells slots Q (F0 m (pc + 3) ls rest)) : W p l e R s m args below meth c H locs cells slots Q (F0 m pc ls (vI k :: vI d :: .ref a :: vI 0 :: .ref a0 :: rest)) := by
  have e0 : (nI 0).toNatClampNeg = 0 := nI_clamp (by decide)
  have e1 : (nI d).toNatClampNeg = d := nI_clamp (by omega)
  have e2 : (nI k).toNatClampNeg = k := nI_clamp (by omega)
  refine va_copyi S.1 S.2.1 (S.2.2.1.trans hsz.symm) S.2.2.2.1 (S.2.2.2.2 _ hlink) (S.2.2.2.2 _ hnat) (S.2.2.2.2 _ hstat) (S.2.2.2.2 _ hini) w.1 w.2.1 w.2.2.1 w.2.2.2.1 q0 q1 0 0 (ty := .int) ha0 ha1 rfl rfl rfl (nI_pos (by decide)) (nI_pos (by omega)) (nI_pos (by omega)) (by rw [e0, e2]; omega) (by rw [e1, e2]; exact hd) (fun i hi => rfl) hfr hlo hdg (fun H1 locs1 hP hD hS => ?_)
  rw [e0, e1, e2, hr] at hP hD
  exact kk H1 locs1 ⟨w.1, hw ▸ hP, hw ▸ hD, hS, w.2.2.2.2.1, w.2.2.2.2.2⟩
theorem nar_byte {x : Nat} (h : x < 128) : vp_nar .byte (nI x) = nI x := by
  rw [vp_nar_byte]
  exact lg_i2b_small (by rw [nI_toInt (by omega)]; omega) (by rw [nI_toInt (by omega)]; omega)
end NVM
