/-! methods that return or throw: the class of what is thrown is said (ex), the world is then as before -/
def xNm : List String := ["java/lang/RuntimeException", "java/lang/Exception"]
def xDcl : List MethodName := [Bundle.initS "java/lang/RuntimeException", Bundle.initS "java/lang/Exception", Bundle.initS Bundle.tN]
def xCst : List String := ["java/lang/IndexOutOfBoundsException", "java/lang/IllegalArgumentException", "java/lang/IllegalStateException"]
def xStr : List (Nat × String) := [(112, "the last place is needed"), (130, "too many ticks"), (218, "no state is saved"), (252, "no such cell"), (259, "no such thing"), (263, "out of range")]
def XT (A : Nat → Prop) (U : State) (H : Heap) : Prop := ((∀ y ∈ xDcl, va_Nw (.declares y) U) ∧ ∀ y ∈ xCst, va_Nw (.castable y y) U) ∧ (∀ q ∈ xStr, ∃ sa, vk_R RX7 q.1 q.2 sa U) ∧ vx_Zq Bundle.tN "UNASSIGNED_STACK" Bundle.steD A U H ∧ vx_Zq Bundle.tN "SUPPRESSED_SENTINEL" Bundle.listD A U H
theorem XT.warm {A B : Nat → Prop} {s U : State} {H0 H : Heap} (X : XT A s H0) (hW : s.WarmedH U.vm) (hq : ∀ a : Nat, a < H0.size → ¬ A a → H[a]? = H0[a]?) (hAB : ∀ q, B q → A q) : XT B U H :=
  ⟨⟨fun y hy => va_Nw.warmD hW (X.1.1 y hy), fun y hy => va_Nw.warmC hW (X.1.2 y hy)⟩, fun q hq => (X.2.1 q hq).imp fun _ h => vk_R.warm hW h, ((X.2.2.1.kept hq).moved hW.alike).narrow hAB, ((X.2.2.2.kept hq).moved hW.alike).narrow hAB⟩
def PreX (D : va_G) (Z : Nat → ClassId) (sz : Nat) (ws : va_W) : State → Prop := fun U => Pre D Z sz ws U ∧ XT (va_A ws sz) U U.heap
theorem fb_PreX {D : va_G} {Z : Nat → ClassId} {sz : Nat} {ws : va_W} {as : List Value} : FrameBlind (va_Pc as (PreX D Z sz ws)) := by
  intro a U g mk q
  obtain ⟨q0, ⟨q1, q2, q3, q4, q5⟩, x1, x2, x3, x4⟩ := q
  exact ⟨q0, ⟨q1, q2, va_K.moved (u := U) (U := U.calling g mk a) (Vm.Alike.refl U.vm) q3, q4, Nst.same (u := U) rfl q5⟩, ⟨fun y hy => va_Nw.same (u := U) rfl rfl (x1.1 y hy), fun y hy => va_Nw.same (u := U) rfl rfl (x1.2 y hy)⟩, fun z hz => (x2 z hz).imp fun _ h => vk_R.same (u := U) rfl h, vx_Zq.moved (u := U) (U := U.calling g mk a) (Vm.Alike.refl U.vm) x3, vx_Zq.moved (u := U) (U := U.calling g mk a) (Vm.Alike.refl U.vm) x4⟩
abbrev QXc (D : va_G) (Z : Nat → ClassId) (A : Nat → Prop) (ex : Option String) (pre : va_W) : String → State → State → Prop := vx_X (fun (_ : Unit) => True) (fun E _ t => ex = some E ∧ Pst D Z A pre t) A
def Xi (l : Launch) (y : MethodName) (wy : List Cond) (fr lo mc ms : Nat) (D : va_G) (Z : Nat → ClassId) (as : List Value) (pre : va_W) (ex : Option String) (ans : Int32) (post : va_W) : Prop :=
  ∀ sz : Nat, vx_Met l y wy { frames := fr, cells := mc, slots := ms, locals := lo } (va_Pc as (PreX D Z sz pre)) (va_Qi (fun r (_ : Unit) => ex = none ∧ r = ans) (fun _ => Pst D Z (va_A pre sz) post) (va_A pre sz)) (QXc D Z (va_A pre sz) ex pre) mc ms (va_A pre sz)
def Xv (l : Launch) (y : MethodName) (wy : List Cond) (fr lo mc ms : Nat) (D : va_G) (Z : Nat → ClassId) (as : List Value) (pre : va_W) (ex : Option String) (post : va_W) : Prop :=
  ∀ sz : Nat, vx_Met l y wy { frames := fr, cells := mc, slots := ms, locals := lo } (va_Pc as (PreX D Z sz pre)) (va_Qv (fun (_ : Unit) => ex = none) (fun _ => Pst D Z (va_A pre sz) post) (va_A pre sz)) (QXc D Z (va_A pre sz) ex pre) mc ms (va_A pre sz)
abbrev QXi (below : List Frame) (D : va_G) (Z : Nat → ClassId) (A : Nat → Prop) (args : Array Value) (s : State) (pre : va_W) (ex : Option String) (ans : Int32) (post : va_W) (mc ms : Nat) : State → Prop := vx_MQ below (va_Qi (fun r (_ : Unit) => ex = none ∧ r = ans) (fun _ => Pst D Z A post) A) (QXc D Z A ex pre) args s mc ms A
abbrev QXv (below : List Frame) (D : va_G) (Z : Nat → ClassId) (A : Nat → Prop) (args : Array Value) (s : State) (pre : va_W) (ex : Option String) (post : va_W) (mc ms : Nat) : State → Prop := vx_MQ below (va_Qv (fun (_ : Unit) => ex = none) (fun _ => Pst D Z A post) A) (QXc D Z A ex pre) args s mc ms A
abbrev rmX (fr lo mc ms : Nat) : Room := { frames := fr, cells := mc, slots := ms, locals := lo }
section NXE
variable {l : Launch} {y : MethodName} {wy wy' : List Cond} {cc : ByteArray} {maxL fr lo mc ms : Nat} {D : va_G} {Z : Nat → ClassId} {as : List Value} {pre post : va_W} {ex : Option String}
theorem nxe_i {ans : Int32} {ty : FieldType} (hy : plainName y.cls = true) (hw : wy = Cond.code y cc maxL (some ty) :: wy') (hlen : (lg_sl as).length ≤ maxL)
    (body : ∀ (p : Program) (e : Env) (s : State) (m : MethodId) (args : Array Value) (below : List Frame) (meth : Method) (c : Code) (A : Nat → Prop) (ls : Array Slot), CallFix p m c cc maxL s args wy y.cls → meth.sig.returnType = some ty → meth.locks = false → (∀ x ∈ c.exceptionTable.toList, False) → XT A s s.heap → lv_has ls maxL (lv_args 0 as) → Wd D Z A s pre s.heap [] →
      W p l e (rmX fr lo mc ms) s m args below meth c s.heap [] 0 0 (QXi below D Z A args s pre ex ans post mc ms) (F0 m 0 ls [])) : Xi l y wy fr lo mc ms D Z as pre ex ans post := by
  intro sz
  refine vx_ofW (cc := cc) (maxL := maxL) (ret := some ty) hy hw ?_
  intro p e s m args below meth c s₁ B hml htab hv
  obtain ⟨rfl, ⟨hsz, hP, hK, hD0, hN⟩, hX⟩ := hv
  subst hsz
  have hts := atoms_spec (ws := wy) B.pre
  have hown : s.vm.findClass y.cls = some m.cls := findClass_of_methodNamed B.named
  rw [lg_entry_eq]
  exact body p e s m _ below meth c (va_A pre s.heap.size) _ ⟨B.exec, B.bytes, hml, hown, hts⟩ B.returns B.notSynchronized htab hX (lv_entry as hlen) ⟨hK, hP, hD0.self, va_S.rf, fun q h => Or.inr h, hN⟩
theorem nxe_v (hy : plainName y.cls = true) (hw : wy = Cond.code y cc maxL none :: wy') (hlen : (lg_sl as).length ≤ maxL)
    (body : ∀ (p : Program) (e : Env) (s : State) (m : MethodId) (args : Array Value) (below : List Frame) (meth : Method) (c : Code) (A : Nat → Prop) (ls : Array Slot), CallFix p m c cc maxL s args wy y.cls → meth.sig.returnType = none → meth.locks = false → (∀ x ∈ c.exceptionTable.toList, False) → XT A s s.heap → lv_has ls maxL (lv_args 0 as) → Wd D Z A s pre s.heap [] →
      W p l e (rmX fr lo mc ms) s m args below meth c s.heap [] 0 0 (QXv below D Z A args s pre ex post mc ms) (F0 m 0 ls [])) : Xv l y wy fr lo mc ms D Z as pre ex post := by
  intro sz
  refine vx_ofW (cc := cc) (maxL := maxL) (ret := none) hy hw ?_
  intro p e s m args below meth c s₁ B hml htab hv
  obtain ⟨rfl, ⟨hsz, hP, hK, hD0, hN⟩, hX⟩ := hv
  subst hsz
  have hts := atoms_spec (ws := wy) B.pre
  have hown : s.vm.findClass y.cls = some m.cls := findClass_of_methodNamed B.named
  rw [lg_entry_eq]
  exact body p e s m _ below meth c (va_A pre s.heap.size) _ ⟨B.exec, B.bytes, hml, hown, hts⟩ B.returns B.notSynchronized htab hX (lv_entry as hlen) ⟨hK, hP, hD0.self, va_S.rf, fun q h => Or.inr h, hN⟩
end NXE
section NXR
variable {p : Program} {l : Launch} {e : Env} {R : Room} {s : State} {m : MethodId} {args : Array Value} {below : List Frame} {meth : Method} {c : Code} {H : Heap} {locs : List Loc} {cells slots mc ms : Nat} {Q : State → Prop} {cc : ByteArray} {pc nL : Nat} {ls : Array Slot} {rest st0 : List Value} {Ts : List Cond} {own : String} {D : va_G} {Z : Nat → ClassId} {A : Nat → Prop} {ws ws' wc wp X0 Y0 pre post : va_W} {ex : Option String}
variable {y : MethodName} {wy wy' : List Cond} {bytes : ByteArray} {maxL fr lo index : Nat} {As : List Value} {ret : Option FieldType} {Qc : Array Value → State → Outcome → State → Prop}
theorem nx_out {E : String} {ce : Cell} {q : Addr} (w : Wd D Z A s pre H locs) (htab : ∀ x ∈ c.exceptionTable.toList, False) (hlocks : meth.locks = false) (hcell : H[q]? = some ce) (hv : ce.vm = .none) (hcl : s.vm.findClass E = some ce.cls) (hE : ex = some E) (hc : cells ≤ mc) (hs : slots ≤ ms) :
    vx_W p l e R s m args below meth c H locs cells slots (vx_MQ below Qc (QXc D Z A ex pre) args s mc ms A) (F0 m pc ls rest) q :=
  vx_out (fun x hx => (htab x hx).elim) hlocks hcell hv hcl (fun t ht hA => ⟨(), trivial, ⟨hE, by rw [ht]; exact w.2.1, va_K.moved hA w.1, w.2.2.1⟩, w.2.2.2.1.F ht⟩) w.2.2.2.1.2.2 hc hs
theorem nx_iret {ans v : Int32} {ty : FieldType} (S : CallFix p m c cc nL s args Ts own) (w : Wd D Z A s ws H locs) (hr : meth.sig.returnType = some ty) (hlocks : meth.locks = false) (hn : narrow ty (.int v) = .int v) (hex : ex = none) (hans : v = ans) (hpost : ws = post) (hc : cells ≤ mc) (hs : slots ≤ ms) (hdg : decode cc pc = .ok (.ireturn, 1)) : W p l e R s m args below meth c H locs cells slots (QXi below D Z A args s pre ex ans post mc ms) (F0 m pc ls [.int v]) := by
  subst hans; subst hpost
  exact W.widen hc hs (vx_ret (W.zret S.1 S.2.1 hr hn (fun t ht hW => ⟨⟨_, (), rfl, ⟨hex, rfl⟩, by rw [ht]; exact w.2.1, va_K.moved hW.alike w.1, w.2.2.1⟩, w.2.2.2.1.F ht⟩) w.2.2.2.1.2.2 hdg hlocks))
theorem nx_vret (S : CallFix p m c cc nL s args Ts own) (w : Wd D Z A s ws H locs) (hr : meth.sig.returnType = none) (hlocks : meth.locks = false) (hex : ex = none) (hpost : ws = post) (hc : cells ≤ mc) (hs : slots ≤ ms) (hdg : decode cc pc = .ok (.return_, 1)) : W p l e R s m args below meth c H locs cells slots (QXv below D Z A args s pre ex post mc ms) (F0 m pc ls []) := by
  subst hpost
  exact W.widen hc hs (vx_ret (W.vret S.1 S.2.1 hr (fun t ht hW => ⟨⟨(), rfl, hex, by rw [ht]; exact w.2.1, va_K.moved hW.alike w.1, w.2.2.1⟩, w.2.2.2.1.F ht⟩) w.2.2.2.1.2.2 hdg hlocks))
theorem nx_hat {ic : Nat} {cls : String} (S : CallFix p m c cc nL s args Ts own) (X : XT A s s.heap) (hfil : ∀ w ∈ (vx_atS own ic cls xNm).filter goodWord, w ∈ Ts) (hbad : ∀ w ∈ (vx_atS own ic cls xNm).filter (fun w => !goodWord w), w ∈ xDcl.map Cond.declares ++ xCst.map (fun y => Cond.castable y y)) : ∀ w ∈ vx_atS own ic cls xNm, w.before args s = true :=
  vx_hat (fun w hw => S.2.2.2.2 w (hfil w hw)) hbad (fun w hw => by
    rcases List.mem_append.mp hw with hw | hw
    · obtain ⟨y, hy, rfl⟩ := List.mem_map.mp hw
      exact va_Nw.use rfl (X.1.1 y hy)
    · obtain ⟨y, hy, rfl⟩ := List.mem_map.mp hw
      exact va_Nw.use rfl (X.1.2 y hy))
theorem nx_XC {E : String} (w : Wd D Z A s pre H locs) (hE : ex = some E) : ∀ t : State, s.vm.Alike t.vm → H.size ≤ t.heap.size → (∀ q : Nat, q < H.size → t.heap[q]? = H[q]?) → QXc D Z A ex pre E s t :=
  fun t hA h1 h2 => ⟨(), trivial, ⟨hE, fun k q hq => (w.2.1 k q hq).kept (h2 q.1 (w.2.1 k q hq).lt), va_K.moved hA w.1, w.2.2.1⟩, Nat.le_trans w.2.2.2.1.1 h1, fun q hq hA9 => (h2 q (Nat.lt_of_lt_of_le hq w.2.2.2.1.1)).trans (w.2.2.2.1.2.1 q hq hA9)⟩
theorem nx_thr {cls : String} {ik is ic : Nat} {kS : Nat} {text : String} (S : CallFix p m c cc nL s args Ts own) (w : Wd D Z A s pre H locs) (X : XT A s s.heap) (hl : l.stackTraces = false) (hsz : ls.size = nL) (htab : ∀ x ∈ c.exceptionTable.toList, False) (hlocks : meth.locks = false) (hE : ex = some cls) (hown7 : own = RX7) (hcls : Bundle.fit cls = true) (hk : Cond.classLink own ik cls ∈ Ts) (hini : Cond.initialized cls ∈ Ts) (hstr : xStr[kS]? = some (is, text)) (hfil : ∀ w ∈ (vx_atS own ic cls xNm).filter goodWord, w ∈ Ts) (hbad : ∀ w ∈ (vx_atS own ic cls xNm).filter (fun w => !goodWord w), w ∈ xDcl.map Cond.declares ++ xCst.map (fun y => Cond.castable y y)) (hgood : ∀ w ∈ Cond.classLink own ik cls :: Cond.initialized cls :: vx_atS own ic cls xNm, vx_ot w = true)
    (d0 : decode cc pc = .ok (.new ik, 3)) (d3 : decode cc (pc + 3) = .ok (.dup, 1)) (d4 : decode cc (pc + 4) = .ok (.ldc is, 2)) (d6 : decode cc (pc + 6) = .ok (.invokespecial ic, 3)) (d9 : decode cc (pc + 9) = .ok (.athrow, 1))
    (hfr : 5 < R.frames) (hlo : (rest.map fun v => v.category).sum + 82 ≤ R.locals) (hRc : cells + 1 ≤ R.cells) (hRs : slots + 6 ≤ R.slots) (hc : cells + 1 ≤ mc) (hs : slots + 6 ≤ ms) :
    W p l e R s m args below meth c H locs cells slots (vx_MQ below Qc (QXc D Z A ex pre) args s mc ms A) (F0 m pc ls rest) := by
  obtain ⟨sa, hsa⟩ := X.2.1 _ (List.mem_of_getElem? hstr)
  subst hown7
  exact vx_throwS S.1 S.2.1 hl S.2.2.2.1 hcls (by decide +kernel) (S.2.2.2.2 _ hk) (S.2.2.2.2 _ hini) hsa (nx_hat S X hfil hbad) hgood X.2.2.1 X.2.2.2 w.2.2.2.1 (hsz.trans S.2.2.1.symm) d0 d3 d4 d6 d9 (fun x hx => (htab x hx).elim) hfr hlo hRc hRs hlocks (nx_XC w hE) w.2.2.2.1.2.2 hc hs
theorem nx_thrW {cls : String} {ik is ic : Nat} {kS : Nat} {text : String} (S : CallFix p m c cc nL s args Ts own) (w : Wd D Z A s pre H locs) (X : XT A s s.heap) (hl : l.stackTraces = false) (hsz : ls.size = nL) (htab : ∀ x ∈ c.exceptionTable.toList, False) (hlocks : meth.locks = false) (hE : ex = some cls) (hown7 : own = RX7) (hcls : Bundle.fit cls = true) (hk : Cond.classLink own ik cls ∈ Ts) (hini : Cond.initialized cls ∈ Ts) (hstr : xStr[kS]? = some (is, text)) (hfil : ∀ w ∈ (vx_atS own ic cls xNm).filter goodWord, w ∈ Ts) (hbad : ∀ w ∈ (vx_atS own ic cls xNm).filter (fun w => !goodWord w), w ∈ xDcl.map Cond.declares ++ xCst.map (fun y => Cond.castable y y)) (hgood : ∀ w ∈ Cond.classLink own ik cls :: Cond.initialized cls :: vx_atS own ic cls xNm, vx_ot w = true)
    (d0 : decode cc pc = .ok (.new ik, 3)) (d3 : decode cc (pc + 3) = .ok (.dup, 1)) (d4 : decode cc (pc + 4) = .ok (.ldc_w is, 3)) (d6 : decode cc (pc + 7) = .ok (.invokespecial ic, 3)) (d9 : decode cc (pc + 10) = .ok (.athrow, 1))
    (hfr : 5 < R.frames) (hlo : (rest.map fun v => v.category).sum + 82 ≤ R.locals) (hRc : cells + 1 ≤ R.cells) (hRs : slots + 6 ≤ R.slots) (hc : cells + 1 ≤ mc) (hs : slots + 6 ≤ ms) :
    W p l e R s m args below meth c H locs cells slots (vx_MQ below Qc (QXc D Z A ex pre) args s mc ms A) (F0 m pc ls rest) := by
  obtain ⟨sa, hsa⟩ := X.2.1 _ (List.mem_of_getElem? hstr)
  subst hown7
  exact vx_throwSW S.1 S.2.1 hl S.2.2.2.1 hcls (by decide +kernel) (S.2.2.2.2 _ hk) (S.2.2.2.2 _ hini) hsa (nx_hat S X hfil hbad) hgood X.2.2.1 X.2.2.2 w.2.2.2.1 (hsz.trans S.2.2.1.symm) d0 d3 d4 d6 d9 (fun x hx => (htab x hx).elim) hfr hlo hRc hRs hlocks (nx_XC w hE) w.2.2.2.1.2.2 hc hs
theorem nx_pSv (S : CallFix p m c cc nL s args Ts own) (w : Wd D Z A s ws H locs) (X : XT A s s.heap) (hsz : ls.size = nL) {n mc1 ms1 : Nat} {ex1 : Option String} (hM : Xv l y wy fr lo mc1 ms1 D Z As [] ex1 []) (hT : GoodIn Ts (va_wsS own index y wy)) (hy : wy = Cond.code y bytes maxL ret :: wy') (hd : y.cls ≠ "java/lang/invoke/MethodHandle" ∧ y.cls ≠ "java/lang/invoke/VarHandle" ∧ (parseMethodDescriptor y.desc).map (fun d => d.parameters.length) = some n) (hRm : fr + 1 ≤ R.frames ∧ 8 + (maxL + 11) + lo ≤ R.locals) (hlen : As.length = n) (hst : st0 = As.reverse ++ rest) (hsum : (rest.map fun v => v.category).sum ≤ 8) (hf : cells + mc1 ≤ R.cells ∧ slots + ms1 ≤ R.slots) (hdg : decode cc pc = .ok (.invokestatic index, 3))
    (kx : ∀ (E : String) (ce : Cell) (q9 : Addr) (H1 : Heap) (locs1 : List Loc), ex1 = some E → Wd D Z A s ws H1 locs1 → H1[q9]? = some ce → ce.vm = .none → s.vm.findClass E = some ce.cls → vx_W p l e R s m args below meth c H1 locs1 (cells + mc1) (slots + ms1) Q (F0 m pc ls rest) q9)
    (kk : ex1 = none → ∀ (H1 : Heap) (locs1 : List Loc), Wd D Z A s ws H1 locs1 → W p l e R s m args below meth c H1 locs1 (cells + mc1) (slots + ms1) Q (F0 m (pc + 3) ls rest)) : W p l e R s m args below meth c H locs cells slots Q (F0 m pc ls st0) := by
  have hP : PreS s H (va_Pc As (PreX D Z H.size [])) As := ⟨fb_PreX, fun U hU hW => ⟨rfl, ((w.pre0 (As := As)).2 U hU hW).2, by rw [hU]; exact X.warm hW w.2.2.2.1.2.1 w.free0⟩⟩
  refine vx_callv (vx_runS (n := n) S (hM H.size) (va_cwS n S.2.2.2.2 hT hy rfl rfl hd hRm) hP rfl hlen hsz hst (lv_room hsum) hdg hf) w.2.2.2.1 (fun q _ h => w.free0 q h) w.free0 (fun q _ h => w.free0 q h) (fun E ce q9 u t H1 locs1 ht hvm hp hB hz hk hS1 h1 h2 h3 => ?_) (fun u t H1 locs1 ht hvm hpost hB hz hk hS1 => ?_)
  · exact kx E ce q9 H1 locs1 hB.1 (w.glue0 hk hS1) h1 h2 h3
  · exact kk hpost H1 locs1 (w.glue0 hk hS1)
theorem nx_fVi (X0 Y0 : va_W) (S : CallFix p m c cc nL s args Ts own) (w : Wd D Z A s ws H locs) (X : XT A s s.heap) (hsz : ls.size = nL) {C : String} {T : u_T} {N b ci q0 n mc1 ms1 : Nat} {fs : List Value} {ex1 : Option String} {ans : Int32} (hM : Xi l y wy fr lo mc1 ms1 D Z (.ref b :: As) wc ex1 ans wp) (hsp : X0 ++ (wc ++ Y0) = ws) (hadr : wp.map (fun q => q.1) = wc.map (fun q => q.1)) (hw : X0 ++ (wp ++ Y0) = ws') (hT : GoodIn Ts (wsV own index C y wy)) (hy : wy = Cond.code y bytes maxL ret :: wy') (hd : y.cls = C ∧ y.cls ≠ "java/lang/invoke/MethodHandle" ∧ y.cls ≠ "java/lang/invoke/VarHandle" ∧ (parseMethodDescriptor y.desc).map (fun d => d.parameters.length) = some n) (hRm : fr + 1 ≤ R.frames ∧ 8 + (maxL + 11) + lo ≤ R.locals) (he : wc[q0]? = some (b, .inr (ci, fs))) (hc : vwCl[ci]? = some (C, T, N)) (hlen : As.length = n) (hst : st0 = As.reverse ++ .ref b :: rest) (hsum : (rest.map fun v => v.category).sum ≤ 8) (hf : cells + mc1 ≤ R.cells ∧ slots + ms1 ≤ R.slots) (hdg : decode cc pc = .ok (.invokevirtual index, 3))
    (kx : ∀ (E : String) (ce : Cell) (q9 : Addr) (H1 : Heap) (locs1 : List Loc), ex1 = some E → Wd D Z A s ws H1 locs1 → H1[q9]? = some ce → ce.vm = .none → s.vm.findClass E = some ce.cls → vx_W p l e R s m args below meth c H1 locs1 (cells + mc1) (slots + ms1) Q (F0 m pc ls rest) q9)
    (kk : ex1 = none → ∀ (H1 : Heap) (locs1 : List Loc), Wd D Z A s ws' H1 locs1 → W p l e R s m args below meth c H1 locs1 (cells + mc1) (slots + ms1) Q (F0 m (pc + 3) ls (.int ans :: rest))) : W p l e R s m args below meth c H locs cells slots Q (F0 m pc ls st0) := by
  have w := w.as hsp.symm
  obtain ⟨hP, hD, hF⟩ := w.blk
  have hPV : PreV s H C b (va_Pc (.ref b :: As) (PreX D Z H.size wc)) As := ⟨fb_PreX, va_recv w.1 hP hc he, fun U hU hW => ⟨rfl, ((w.pre (As := .ref b :: As) hP hD).2 U hU hW).2, by rw [hU]; exact X.warm hW w.2.2.2.1.2.1 hF⟩⟩
  refine vx_calli (vx_runV (C := C) (n := n) S (hM H.size) (cwV n S.2.2.2.2 hT hy rfl rfl hd hRm) hPV rfl hlen hsz hst (lv_room hsum) hdg hf) w.2.2.2.1 (fun q _ h => hF q h) hF (fun q _ h => hF q h) (fun E ce q9 u t H1 locs1 ht hvm hp hB hz hk hS1 h1 h2 h3 => ?_) (fun r u t H1 locs1 ht hvm hpost hB hz hk hS1 => ?_)
  · exact kx E ce q9 H1 locs1 hB.1 (hsp ▸ w.glueF rfl ht hB.2 hk hS1) h1 h2 h3
  · obtain ⟨hn9, rfl⟩ := hpost
    exact kk hn9 H1 locs1 (hw ▸ w.glueF hadr ht hB hk hS1)
end NXR
