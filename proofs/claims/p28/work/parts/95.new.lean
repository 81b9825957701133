/-! new objects and arrays, and the methods that make them -/
def aoL : List String := ["ChannelLoom$State", "ChannelLoom$Voice"]
def AO (U : State) : Prop := ∀ C ∈ aoL, va_AO C U
theorem AO.moved {u U : State} (hvm : u.vm.Alike U.vm) (h : AO u) : AO U := fun C hC => va_AO.moved hvm (h C hC)
def PreK (D : va_G) (Z : Nat → ClassId) (sz : Nat) (ws : va_W) : State → Prop := fun U => Pre D Z sz ws U ∧ AO U
theorem fb_PreK {D : va_G} {Z : Nat → ClassId} {sz : Nat} {ws : va_W} {as : List Value} : FrameBlind (va_Pc as (PreK D Z sz ws)) := by
  intro a U g mk q
  obtain ⟨q0, ⟨q1, q2, q3, q4, q5⟩, q6⟩ := q
  exact ⟨q0, ⟨q1, q2, va_K.moved (u := U) (U := U.calling g mk a) (Vm.Alike.refl U.vm) q3, q4, Nst.same (u := U) rfl q5⟩, AO.moved (u := U) (U := U.calling g mk a) (Vm.Alike.refl U.vm) q6⟩
def Ck (l : Launch) (y : MethodName) (wy : List Cond) (fr lo mc ms : Nat) (D : va_G) (Z : Nat → ClassId) (as : List Value) (pre : va_W) {β : Type} (post : β → va_W) : Prop :=
  ∀ sz : Nat, Met l y wy { frames := fr, cells := mc, slots := ms, locals := lo } (va_Pc as (PreK D Z sz pre)) (va_Qv (fun (_ : β) => True) (fun a => Pst D Z (va_A pre sz) (post a)) (va_A pre sz)) mc ms (va_A pre sz)
abbrev Qk (below : List Frame) (D : va_G) (Z : Nat → ClassId) (A : Nat → Prop) (args : Array Value) (s : State) {β : Type} (post : β → va_W) (mc ms : Nat) : State → Prop := MQ below (va_Qv (fun (_ : β) => True) (fun a => Pst D Z A (post a)) A) args s mc ms A
section NKE
variable {l : Launch} {y : MethodName} {wy wy' : List Cond} {cc : ByteArray} {maxL fr lo mc ms : Nat} {D : va_G} {Z : Nat → ClassId} {as : List Value} {pre : va_W} {β : Type} {post : β → va_W}
theorem ne_k (hy : plainName y.cls = true) (hw : wy = Cond.code y cc maxL none :: wy') (hlen : (lg_sl as).length ≤ maxL) (hname : y.name = "<init>")
    (body : ∀ (p : Program) (e : Env) (s : State) (m : MethodId) (args : Array Value) (below : List Frame) (meth : Method) (c : Code) (A : Nat → Prop) (ls : Array Slot), CallFix p m c cc maxL s args wy y.cls → meth.sig.returnType = none → meth.locks = false → meth.name = "<init>" → AO s → lv_has ls maxL (lv_args 0 as) → Wd D Z A s pre s.heap [] →
      W p l e (rmX fr lo mc ms) s m args below meth c s.heap [] 0 0 (Qk below D Z A args s post mc ms) (F0 m 0 ls [])) : Ck l y wy fr lo mc ms D Z as pre post := by
  intro sz
  refine Met.ofW (cc := cc) (maxL := maxL) (ret := none) hy hw ?_
  intro p e s m args below meth c s₁ B hml hv
  obtain ⟨rfl, ⟨hsz, hP, hK, hD0, hN⟩, hao⟩ := hv
  subst hsz
  have hts := atoms_spec (ws := wy) B.pre
  have hown : s.vm.findClass y.cls = some m.cls := findClass_of_methodNamed B.named
  rw [lg_entry_eq]
  exact body p e s m _ below meth c (va_A pre s.heap.size) _ ⟨B.exec, B.bytes, hml, hown, hts⟩ B.returns B.notSynchronized ((name_of_methodNamed B.named B.method).1.trans hname) hao (lv_entry as hlen) ⟨hK, hP, hD0.self, va_S.rf, fun q h => Or.inr h, hN⟩
end NKE
section NKR
variable {p : Program} {l : Launch} {e : Env} {R : Room} {s : State} {m : MethodId} {args : Array Value} {below : List Frame} {meth : Method} {c : Code} {H : Heap} {locs : List Loc} {cells slots : Nat} {Q : State → Prop} {cc : ByteArray} {pc nL : Nat} {ls : Array Slot} {rest st0 : List Value} {Ts : List Cond} {own : String} {D : va_G} {Z : Nat → ClassId} {A : Nat → Prop} {ws ws' wc wp : va_W}
theorem nv_kret {β : Type} {post : β → va_W} {mc ms : Nat} (S : CallFix p m c cc nL s args Ts own) (w : Wd D Z A s ws H locs) (hr : meth.sig.returnType = none) (hlocks : meth.locks = false) (a : β) (hpost : ws = post a) (hc : cells ≤ mc) (hs : slots ≤ ms) (hdg : decode cc pc = .ok (.return_, 1)) : W p l e R s m args below meth c H locs cells slots (Qk below D Z A args s post mc ms) (F0 m pc ls []) := by
  subst hpost
  exact W.widen hc hs (W.vret S.1 S.2.1 hr (fun t ht hW => ⟨⟨a, rfl, trivial, by rw [ht]; exact w.2.1, va_K.moved hW.alike w.1, w.2.2.1⟩, w.2.2.2.1.F ht⟩) w.2.2.2.1.2.2 hdg hlocks)
theorem nv_obj {b idx : Nat} (S : CallFix p m c cc nL s args Ts own) (hsz : ls.size = nL) (h1 : Cond.methodLink own idx Lib.objectInit ∈ Ts) (h2 : Cond.instanceMethod Lib.objectInit ∈ Ts) (h3 : Cond.code Lib.objectInit ⟨#[0xb1]⟩ 1 none ∈ Ts) (hdg : decode cc pc = .ok (.invokespecial idx, 3)) (hfr : 1 ≤ R.frames) (hlo : 12 ≤ R.locals)
    (k : W p l e R s m args below meth c H locs cells slots Q (F0 m (pc + 3) ls [])) : W p l e R s m args below meth c H locs cells slots Q (F0 m pc ls [.ref b]) :=
  W.objInit S.1 S.2.1 S.2.2.2.1 (S.2.2.2.2 _ h1) (S.2.2.2.2 _ h2) (S.2.2.2.2 _ h3) rfl (hsz.trans S.2.2.1.symm) rfl hdg hfr (by show 2 * 0 + ([] : List Value).length + 12 ≤ R.locals; simpa using hlo) k
theorem ar_zero {n : Nat} : ar n (fun _ => 0) = fun _ => 0 := by
  funext j
  unfold ar
  split <;> rfl
theorem Wd.app1 {q : Nat} {e1 : va_E} {H1 : Heap} (w : Wd D Z A s ws H locs) (hP : va_P D vwCl (ws ++ [(q, e1)]) H1) (hD : va_D A (ws ++ [(q, e1)])) (hS : va_S A s.heap H1 locs) : Wd D Z A s (ws ++ [(q, e1)]) H1 locs := ⟨w.1, hP, hD, hS, w.2.2.2.2⟩
theorem tyv_last {cA : ClassId} {ty : FieldType} (hK : va_K D vwCl (tyv Z ++ [(cA, ty)]) s) : ArrOfT s cA ty ∧ va_RA s cA ty := hK.2 5 (cA, ty) rfl
theorem nv_newi (S : CallFix p m c cc nL s args Ts own) (w : Wd D Z A s ws H locs) {n : Nat} (harr : Cond.arrayClass .int ∈ Ts) (hn : n < 2 ^ 20) (hcells : cells + 1 ≤ R.cells) (hslots : slots + n ≤ R.slots) (hdg : decode cc pc = .ok (.newarray .int, 2))
    (kk : ∀ (q : Nat) (H1 : Heap), Wd D Z A s (ws ++ [(q, .inl (Z 0, n, .inl (ar n (fun _ => 0))))]) H1 locs → W p l e R s m args below meth c H1 locs (cells + 1) (slots + n) Q (F0 m (pc + 2) ls (.ref q :: rest))) : W p l e R s m args below meth c H locs cells slots Q (F0 m pc ls (vI n :: rest)) := by
  refine va_newa (ty := .int) S.1 S.2.1 (atype := .int) (S.2.2.2.2 _ harr) rfl w.1 w.2.1 w.2.2.1 w.2.2.2.1 w.2.2.2.2.1 (a0 := (n, .inl (ar n (fun _ => 0)))) (fun cA => by rw [ar_zero]; rfl) (nI_pos (by omega)) (nI_clamp (by omega)) (by show n * 4 ≤ _; omega) hcells hslots hdg (fun q cA H1 hK hP hD hS => ?_)
  have h1 : s.vm.findClass ("[" ++ FieldType.int.toString) = some cA := (tyv_last hK).2
  have h2 : s.vm.findClass ("[" ++ FieldType.int.toString) = some (Z 0) := (w.1.2 0 _ rfl).2
  obtain rfl : cA = Z 0 := Option.some.inj (h1.symm.trans h2)
  exact kk q H1 (w.app1 hP hD hS)
theorem nv_newb (S : CallFix p m c cc nL s args Ts own) (w : Wd D Z A s ws H locs) {n : Nat} (harr : Cond.arrayClass .byte ∈ Ts) (hn : n < 2 ^ 20) (hcells : cells + 1 ≤ R.cells) (hslots : slots + n ≤ R.slots) (hdg : decode cc pc = .ok (.newarray .byte, 2))
    (kk : ∀ (q : Nat) (H1 : Heap), Wd D Z A s (ws ++ [(q, .inl (Z 1, n, .inl (ar n (fun _ => 0))))]) H1 locs → W p l e R s m args below meth c H1 locs (cells + 1) (slots + n) Q (F0 m (pc + 2) ls (.ref q :: rest))) : W p l e R s m args below meth c H locs cells slots Q (F0 m pc ls (vI n :: rest)) := by
  refine va_newa (ty := .byte) S.1 S.2.1 (atype := .byte) (S.2.2.2.2 _ harr) rfl w.1 w.2.1 w.2.2.1 w.2.2.2.1 w.2.2.2.2.1 (a0 := (n, .inl (ar n (fun _ => 0)))) (fun cA => by rw [ar_zero]; rfl) (nI_pos (by omega)) (nI_clamp (by omega)) (by show n * 1 ≤ _; omega) hcells hslots hdg (fun q cA H1 hK hP hD hS => ?_)
  have h1 : s.vm.findClass ("[" ++ FieldType.byte.toString) = some cA := (tyv_last hK).2
  have h2 : s.vm.findClass ("[" ++ FieldType.byte.toString) = some (Z 1) := (w.1.2 1 _ rfl).2
  obtain rfl : cA = Z 1 := Option.some.inj (h1.symm.trans h2)
  exact kk q H1 (w.app1 hP hD hS)
theorem nv_newq (S : CallFix p m c cc nL s args Ts own) (w : Wd D Z A s ws H locs) (hao : AO s) {n index : Nat} {C : String} (kA kZ : Nat) (hC : aoL[kA]? = some C) (hZ : (tyv Z)[kZ]? = some (Z kZ, .object C)) (hlink : Cond.classLink own index C ∈ Ts) (hn : n < 2 ^ 20) (hcells : cells + 1 ≤ R.cells) (hslots : slots + n ≤ R.slots) (hdg : decode cc pc = .ok (.anewarray index, 3))
    (kk : ∀ (q : Nat) (H1 : Heap), Wd D Z A s (ws ++ [(q, .inl (Z kZ, n, .inr (.inr (.inr (.inr (fun _ => none))))))]) H1 locs → W p l e R s m args below meth c H1 locs (cells + 1) (slots + n) Q (F0 m (pc + 3) ls (.ref q :: rest))) : W p l e R s m args below meth c H locs cells slots Q (F0 m pc ls (vI n :: rest)) := by
  refine va_newq S.1 S.2.1 S.2.2.2.1 (S.2.2.2.2 _ hlink) (hao C (List.mem_of_getElem? hC)) w.1 w.2.1 w.2.2.1 w.2.2.2.1 w.2.2.2.2.1 (nI_pos (by omega)) (nI_clamp (by omega)) (by omega) hcells hslots hdg (fun q cA H1 hK hP hD hS => ?_)
  obtain ⟨-, -, -, -, -, h1⟩ := (tyv_last hK).2
  obtain ⟨-, -, -, -, -, h2⟩ := (w.1.2 kZ _ hZ).2
  obtain rfl : cA = Z kZ := Option.some.inj (h1.symm.trans h2)
  exact kk q H1 (w.app1 hP hD hS)
theorem nv_new (S : CallFix p m c cc nL s args Ts own) (w : Wd D Z A s ws H locs) {C : String} {T : u_T} {N ci index : Nat} (hin : ∀ w ∈ u_ws C T N, w ∈ Ts) {ty : Nat → FieldType} (hty : ∀ k, k < N → parseFieldDescriptor (T k).2.2.1 = some (ty k)) (hcl : Cond.classLink own index C ∈ Ts) (hinst : Cond.instantiable C N ∈ Ts) (hini : Cond.initialized C ∈ Ts) (hc : vwCl[ci]? = some (C, T, N)) {fs : List Value} (hfs : ∀ j, j < N → defaultValue (ty j) = vp_V fs j) (hcells : cells + 1 ≤ R.cells) (hslots : slots + N ≤ R.slots) (hdg : decode cc pc = .ok (.new index, 3))
    (kk : ∀ (q : Nat) (H1 : Heap), Wd D Z A s (ws ++ [(q, .inr (ci, fs))]) H1 locs → W p l e R s m args below meth c H1 locs (cells + 1) (slots + N) Q (F0 m (pc + 3) ls (.ref q :: rest))) : W p l e R s m args below meth c H locs cells slots Q (F0 m pc ls rest) :=
  va_new S.1 S.2.1 S.2.2.2.2 hin ty hty S.2.2.2.1 (S.2.2.2.2 _ hcl) (S.2.2.2.2 _ hinst) (S.2.2.2.2 _ hini) w.1 w.2.1 w.2.2.1 w.2.2.2.1 w.2.2.2.2.1 hc hfs hcells hslots hdg (fun q H1 hP hD hS => kk q H1 (w.app1 hP hD hS))
theorem nv_putR (S : CallFix p m c cc nL s args Ts own) (w : Wd D Z A s ws H locs) (hname : meth.name = "<init>") {C : String} {T : u_T} {N ci index a q : Nat} (hin : ∀ w ∈ u_ws C T N, w ∈ Ts) {ty0 : Nat → FieldType} (hty : ∀ k, k < N → parseFieldDescriptor (T k).2.2.1 = some (ty0 k)) (hnm : ∀ a, a < N → ∀ b, b < N → a ≠ b → (T a).2.1 ≠ (T b).2.1) (q0 : Nat) {fs : List Value} (he : ws[q0]? = some (a, .inr (ci, fs))) (hc : vwCl[ci]? = some (C, T, N)) (k : Nat) (hk : k < N) (hl : Cond.fieldLink own index (T k).1 (T k).2.1 (T k).2.2.1 ∈ Ts) (hfin : (T k).2.2.2 = true) (hdecl : (T k).1 = own) (hn : narrow (ty0 k) (.ref q) = .ref q) (hfit : fits (ty0 k) (.ref q) = true) (hlen : k < fs.length) {ws' : va_W} (hw : ws.set q0 (a, .inr (ci, fs.set k (.ref q))) = ws') (hdg : decode cc pc = .ok (.putfield index, 3))
    (kk : ∀ (H1 : Heap) (locs1 : List Loc), Wd D Z A s ws' H1 locs1 → W p l e R s m args below meth c H1 locs1 cells slots Q (F0 m (pc + 3) ls rest)) : W p l e R s m args below meth c H locs cells slots Q (F0 m pc ls (.ref q :: .ref a :: rest)) :=
  va_putF S.1 S.2.1 S.2.2.2.2 hin ty0 hty hnm S.2.2.2.1 w.1 w.2.1 w.2.2.1 w.2.2.2.1 q0 he hc k hk (S.2.2.2.2 _ hl) (fun _ h => h) hfin hname hdecl (ty := ty0 k) (v := .ref q) (hty k hk) hn hfit hlen hdg
    (fun H1 locs1 hP hD hS => kk H1 locs1 ⟨w.1, hw ▸ hP, hw ▸ hD, hS, w.2.2.2.2.1, w.2.2.2.2.2⟩)
theorem nv_astq (S : CallFix p m c cc nL s args Ts own) (w : Wd D Z A s ws H locs) (q0 t0 qk ci : Nat) {r : vw_C} {n v a i : Nat} {vs : List Value} {f : Nat → Option Nat} (ha : ws[q0]? = some (a, .inl (Z t0, n, .inr (.inr (.inr (.inr f)))))) (ht : (tyv Z)[t0]? = some (Z t0, .object r.1)) (hv : ws[qk]? = some (v, .inr (ci, vs))) (hc : vwCl[ci]? = some r) (hi : i < n) (hn : n < 2 ^ 31) {ws' : va_W} (hw : ws.set q0 (a, .inl (Z t0, n, .inr (.inr (.inr (.inr (va_up f i (some v))))))) = ws') (hdg : decode cc pc = .ok (.aastore, 1))
    (kk : ∀ (H1 : Heap) (locs1 : List Loc), Wd D Z A s ws' H1 locs1 → W p l e R s m args below meth c H1 locs1 cells slots Q (F0 m (pc + 1) ls rest)) : W p l e R s m args below meth c H locs cells slots Q (F0 m pc ls (.ref v :: vI i :: .ref a :: rest)) := by
  refine va_astq S.1 S.2.1 w.1 w.2.1 w.2.2.1 w.2.2.2.1 q0 t0 qk ci ha ht hv hc (vp_in_nI hi hn) hdg (fun H1 locs1 hP hD hS => kk H1 locs1 ?_)
  rw [nI_clamp (Nat.lt_trans hi hn), hw] at hP hD
  exact ⟨w.1, hP, hD, hS, w.2.2.2.2⟩
/-- a constructor's cells behind its call: those of the caller, then those that it made -/
theorem Wd.glueK {X : va_W} (w : Wd D Z A s (X ++ wc) H locs) {t : State} {H1 : Heap} {locs1 : List Loc} (ht : t.heap = H1) (hB : Pst D Z (va_A wc H.size) wp t) (hk : ∀ q : Nat, q < H.size → ¬ va_A wc H.size q → H1[q]? = H[q]?) (hS1 : va_S A s.heap H1 locs1) (hF : ∀ q, va_A wc H.size q → A q) : Wd D Z A s (X ++ wp) H1 locs1 := by
  obtain ⟨h1, h2, h3, h4, h5, h6⟩ := w
  obtain ⟨hP1, -, hD1⟩ := hB
  rw [ht] at hP1
  have h2' := va_P_mem.mp h2
  have hP1 := va_P_mem.mp hP1
  rw [va_D_nd] at h3 hD1
  have hX : ∀ q : Nat × va_E, q ∈ X → q.1 < H.size ∧ ¬ va_A wc H.size q.1 := by
    intro q hq
    have hm : q ∈ X ++ wc := List.mem_append_left _ hq
    obtain ⟨i, hi⟩ := List.mem_iff_getElem?.mp hm
    have hlt := (h2 i q hi).lt
    refine ⟨hlt, fun hA => ?_⟩
    rcases hA with ⟨k, e9, h⟩ | h
    · have h7 := h3.1
      rw [List.map_append] at h7
      exact (List.nodup_append.mp h7).2.2 q.1 (List.mem_map.mpr ⟨q, hq, rfl⟩) q.1 (List.mem_map.mpr ⟨(q.1, e9), List.mem_of_getElem? h, rfl⟩) rfl
    · omega
  refine ⟨h1, va_P_mem.mpr fun q hq => ?_, va_D_nd.mpr ⟨?_, fun q hq => ?_⟩, hS1, h5, h6⟩
  · rcases List.mem_append.mp hq with h | h
    · obtain ⟨i, hi⟩ := List.mem_iff_getElem?.mp (show q ∈ X ++ wc from List.mem_append_left _ h)
      exact (h2 i q hi).kept (hk q.1 (hX q h).1 (hX q h).2)
    · exact hP1 q h
  · rw [List.map_append]
    refine List.nodup_append.mpr ⟨?_, hD1.1, fun a ha b hb hab => ?_⟩
    · have h7 := h3.1
      rw [List.map_append] at h7
      exact (List.nodup_append.mp h7).1
    · obtain ⟨q, hq, rfl⟩ := List.mem_map.mp ha
      obtain ⟨q2, hq2, rfl⟩ := List.mem_map.mp hb
      exact (hX q hq).2 (by rw [hab]; exact hD1.2 q2 hq2)
  · rcases List.mem_append.mp hq with h | h
    · exact h3.2 q (List.mem_append_left _ h)
    · exact hF _ (hD1.2 q h)
theorem Wd.blkK {X : va_W} (w : Wd D Z A s (X ++ wc) H locs) : va_P D vwCl wc H ∧ va_D A wc ∧ ∀ q, va_A wc H.size q → A q := by
  have w2 : Wd D Z A s (X ++ (wc ++ [])) H locs := by rw [List.append_nil]; exact w
  exact w2.blk
variable {y : MethodName} {wy wy' : List Cond} {bytes : ByteArray} {maxL fr lo index : Nat}
theorem Wd.preK {As : List Value} (w : Wd D Z A s ws H locs) (hao : AO s) (hP : va_P D vwCl wc H) (hD : va_D A wc) : PreS s H (va_Pc As (PreK D Z H.size wc)) As :=
  ⟨fb_PreK, fun U hU hW => ⟨rfl, ((w.pre (As := As) hP hD).2 U hU hW).2, AO.moved hW.alike hao⟩⟩
theorem nv_k {X : va_W} {β : Type} {post1 : β → va_W} {b mc1 ms1 : Nat} (S : CallFix p m c cc nL s args Ts own) (w : Wd D Z A s (X ++ wc) H locs) (hao : AO s) (hsz : ls.size = nL) (hM : Ck l y wy fr lo mc1 ms1 D Z [.ref b] wc post1) (hT : GoodIn Ts wy) (hy : wy = Cond.code y bytes maxL none :: wy') (hini : Cond.initialized y.cls ∈ Ts) (hlink : Cond.methodLink own index y ∈ Ts) (hinst : Cond.instanceMethod y ∈ Ts) (hname : y.name = "<init>") (hd : y.cls ≠ "java/lang/invoke/MethodHandle" ∧ y.cls ≠ "java/lang/invoke/VarHandle" ∧ (parseMethodDescriptor y.desc).map (fun d => d.parameters.length) = some 0) (hRm : fr + 1 ≤ R.frames ∧ 8 + (maxL + 11) + lo ≤ R.locals) (hsum : (rest.map fun v => v.category).sum ≤ 8) (hf : cells + mc1 ≤ R.cells ∧ slots + ms1 ≤ R.slots) (hdg : decode cc pc = .ok (.invokespecial index, 3))
    (kk : ∀ (a : β) (H1 : Heap) (locs1 : List Loc), Wd D Z A s (X ++ post1 a) H1 locs1 → W p l e R s m args below meth c H1 locs1 (cells + mc1) (slots + ms1) Q (F0 m (pc + 3) ls rest)) : W p l e R s m args below meth c H locs cells slots Q (F0 m pc ls (.ref b :: rest)) := by
  obtain ⟨hP, hD, hF⟩ := w.blkK
  refine va_callv (va_runI (As := []) (n := 0) S (hM H.size) (cwI 0 S.2.2.2.2 hT hy rfl rfl (S.2.2.2.2 _ hini) (S.2.2.2.2 _ hlink) (S.2.2.2.2 _ hinst) hname hd hRm) (w.preK hao hP hD) rfl rfl hsz rfl (lv_room hsum) hdg hf) w.2.2.2.1 (fun q _ h => hF q h) hF (fun u t H1 locs1 ht hvm hpost hB hz hk hS1 => ?_)
  exact kk u H1 locs1 (w.glueK ht hB hk hS1 hF)
theorem nv_kN {X : va_W} {β : Type} {post1 : β → va_W} {b mc1 ms1 : Nat} (S : CallFix p m c cc nL s args Ts own) (w : Wd D Z A s (X ++ wc) H locs) (hao : AO s) (hsz : ls.size = nL) (hM : Ck l y wy fr lo mc1 ms1 D Z [.ref b] wc post1) (hT : GoodIn Ts wy) (hy : wy = Cond.code y bytes maxL none :: wy') (kN : Nat) (hN : nstL[kN]? = some (own, index, y)) (hini : Cond.initialized y.cls ∈ Ts) (hinst : Cond.instanceMethod y ∈ Ts) (hname : y.name = "<init>") (hd : y.cls ≠ "java/lang/invoke/MethodHandle" ∧ y.cls ≠ "java/lang/invoke/VarHandle" ∧ (parseMethodDescriptor y.desc).map (fun d => d.parameters.length) = some 0) (hRm : fr + 1 ≤ R.frames ∧ 8 + (maxL + 11) + lo ≤ R.locals) (hsum : (rest.map fun v => v.category).sum ≤ 8) (hf : cells + mc1 ≤ R.cells ∧ slots + ms1 ≤ R.slots) (hdg : decode cc pc = .ok (.invokespecial index, 3))
    (kk : ∀ (a : β) (H1 : Heap) (locs1 : List Loc), Wd D Z A s (X ++ post1 a) H1 locs1 → W p l e R s m args below meth c H1 locs1 (cells + mc1) (slots + ms1) Q (F0 m (pc + 3) ls rest)) : W p l e R s m args below meth c H locs cells slots Q (F0 m pc ls (.ref b :: rest)) := by
  obtain ⟨hP, hD, hF⟩ := w.blkK
  refine va_callv (va_runIN (As := []) (n := 0) S (hM H.size) ⟨va_cnB 0 S.2.2.2.2 hT hy rfl rfl (w.2.2.2.2.2.at kN hN) (S.2.2.2.2 _ hini) hd hRm, hname, S.2.2.2.2 _ hinst⟩ (w.preK hao hP hD) rfl rfl hsz rfl (lv_room hsum) hdg hf) w.2.2.2.1 (fun q _ h => hF q h) hF (fun u t H1 locs1 ht hvm hpost hB hz hk hS1 => ?_)
  exact kk u H1 locs1 (w.glueK ht hB hk hS1 hF)
end NKR
theorem up4 {a0 a1 a2 a3 : Nat} : va_up (va_up (va_up (va_up (fun _ => none) 0 (some a0)) 1 (some a1)) 2 (some a2)) 3 (some a3) = fun j => if j = 0 then some a0 else if j = 1 then some a1 else if j = 2 then some a2 else if j = 3 then some a3 else none := by
  funext j
  unfold va_up
  by_cases h3 : j = 3
  · subst h3; rfl
  · by_cases h2 : j = 2
    · subst h2; rfl
    · by_cases h1 : j = 1
      · subst h1; rfl
      · by_cases h0 : j = 0
        · subst h0; rfl
        · simp [h0, h1, h2, h3]
/-- how things begin -/
def G0 : SG := (fun _ => eC, fun _ => 4, fun _ => 0, 1)
def V0 : Nat → Nat := fun k => if k = 13 then 15 else 0
def P0 : PG := (fun k => if k = 3 then 3 else 0, fun _ => V0)
def S0 : ST := (G0, P0)
def flN (x : Nat) (f : Nat → Nat) (i : Nat) : Nat → Nat := fun j => if j < i then x else f j
theorem flN_0 {x : Nat} {f : Nat → Nat} : flN x f 0 = f := by
  funext j
  unfold flN
  rw [if_neg (by omega)]
theorem flN_s {x : Nat} {f : Nat → Nat} {i : Nat} : un (flN x f i) i x = flN x f (i + 1) := by
  funext j
  unfold un flN
  by_cases e : j = i
  · rw [if_pos e, if_pos (by omega)]
  · rw [if_neg e]
    by_cases h2 : j < i
    · rw [if_pos h2, if_pos (by omega)]
    · rw [if_neg h2, if_neg (by omega)]
