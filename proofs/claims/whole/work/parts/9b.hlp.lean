/-! the law's helpers: what is thrown is caught and numbered -/
abbrev eIXs : String := "java/lang/IndexOutOfBoundsException"
abbrev eIAs : String := "java/lang/IllegalArgumentException"
abbrev eISs : String := "java/lang/IllegalStateException"
def NC (U : State) : Prop := va_Nc eIAs eIXs U ∧ va_Nc eISs eIAs U
theorem NC.moved {u U : State} (hvm : u.vm.Alike U.vm) (h : NC u) : NC U := ⟨h.1.moved hvm, h.2.moved hvm⟩
def PreH (D : va_G) (Z : Nat → ClassId) (sz : Nat) (ws : va_W) : State → Prop := fun U => PreX D Z sz ws U ∧ NC U
theorem fb_PreH {D : va_G} {Z : Nat → ClassId} {sz : Nat} {ws : va_W} {as : List Value} : FrameBlind (va_Pc as (PreH D Z sz ws)) := by
  intro a U g mk q
  obtain ⟨q0, q1, q2⟩ := q
  exact ⟨q0, (fb_PreX (as := as) a U g mk ⟨q0, q1⟩).2, NC.moved (u := U) (U := U.calling g mk a) (Vm.Alike.refl U.vm) q2⟩
def cd1 (ex : Option String) : Nat := if ex = none then 0 else 1
def cd2 (E1 : String) (ex : Option String) : Nat := if ex = none then 0 else if ex = some E1 then 1 else 2
def selW (ex : Option String) (pre post : va_W) : va_W := if ex = none then post else pre
theorem selW_n {ex : Option String} {pre post : va_W} (h : ex = none) : selW ex pre post = post := if_pos h
theorem selW_s {ex : Option String} {pre post : va_W} {E : String} (h : ex = some E) : selW ex pre post = pre := if_neg (by rw [h]; exact fun z => by cases z)
theorem cd1_n {ex : Option String} (h : ex = none) : cd1 ex = 0 := if_pos h
theorem cd1_s {ex : Option String} {E : String} (h : ex = some E) : cd1 ex = 1 := if_neg (by rw [h]; exact fun z => by cases z)
theorem cd2_n {ex : Option String} {E1 : String} (h : ex = none) : cd2 E1 ex = 0 := if_pos h
theorem cd2_1 {ex : Option String} {E1 : String} (h : ex = some E1) : cd2 E1 ex = 1 := by
  unfold cd2
  rw [if_neg (by rw [h]; exact fun z => by cases z), if_pos h]
theorem cd2_2 {ex : Option String} {E1 E2 : String} (h : ex = some E2) (hne : E2 ≠ E1) : cd2 E1 ex = 2 := by
  unfold cd2
  rw [if_neg (by rw [h]; exact fun z => by cases z), if_neg (by rw [h]; exact fun z => hne (Option.some.inj z))]
/-- what may be thrown -/
def exIn (ex : Option String) (L : List String) : Prop := ∀ E, ex = some E → E ∈ L
theorem exIn_n {L : List String} : exIn none L := fun _ h => by cases h
theorem exIn_x {P : Prop} [Decidable P] {E : String} {r : Option String} {L : List String} (hE : E ∈ L) (h : exIn r L) : exIn (xI P E r) L := by
  intro F hF
  unfold xI at hF
  split at hF
  · exact h F hF
  · cases hF; exact hE
theorem exIn1 {ex : Option String} {A E : String} (h : exIn ex [A]) (hE : ex = some E) : E = A := List.mem_singleton.mp (h E hE)
theorem exIn2 {ex : Option String} {A B E : String} (h : exIn ex [A, B]) (hE : ex = some E) : E = A ∨ E = B := by
  rcases List.mem_cons.mp (h E hE) with h | h
  · exact Or.inl h
  · exact Or.inr (List.mem_singleton.mp h)
def Xh (l : Launch) (y : MethodName) (wy : List Cond) (fr lo mc ms : Nat) (D : va_G) (Z : Nat → ClassId) (as : List Value) (pre : va_W) (cd : Nat) (post : va_W) : Prop :=
  ∀ sz : Nat, vx_Met l y wy { frames := fr, cells := mc, slots := ms, locals := lo } (va_Pc as (PreH D Z sz pre)) (va_Qi (fun r (_ : Unit) => r = nI cd) (fun _ => Pst D Z (va_A pre sz) post) (va_A pre sz)) (fun _ _ _ => False) mc ms (va_A pre sz)
abbrev QXh (below : List Frame) (D : va_G) (Z : Nat → ClassId) (A : Nat → Prop) (args : Array Value) (s : State) (cd : Nat) (post : va_W) (mc ms : Nat) : State → Prop := vx_MQ below (va_Qi (fun r (_ : Unit) => r = nI cd) (fun _ => Pst D Z A post) A) (fun _ _ _ => False) args s mc ms A
theorem nh_e {l : Launch} {y : MethodName} {wy wy' : List Cond} {cc : ByteArray} {maxL fr lo mc ms cd : Nat} {D : va_G} {Z : Nat → ClassId} {as : List Value} {pre post : va_W} {hh : List (Nat × Nat × Nat × Nat)} (hy : plainName y.cls = true) (hw : wy = Cond.codeWith y cc maxL (some .int) hh :: wy') (hlen : (lg_sl as).length ≤ maxL)
    (body : ∀ (p : Program) (e : Env) (s : State) (m : MethodId) (args : Array Value) (below : List Frame) (meth : Method) (c : Code) (A : Nat → Prop) (ls : Array Slot), CallFix p m c cc maxL s args wy y.cls → meth.sig.returnType = some .int → meth.locks = false → c.exceptionTable.toList = tableOf hh → XT A s s.heap → NC s → lv_has ls maxL (lv_args 0 as) → Wd D Z A s pre s.heap [] →
      W p l e (rmX fr lo mc ms) s m args below meth c s.heap [] 0 0 (QXh below D Z A args s cd post mc ms) (F0 m 0 ls [])) : Xh l y wy fr lo mc ms D Z as pre cd post := by
  intro sz
  refine vx_ofWH (cc := cc) (maxL := maxL) (ret := some .int) (hh := hh) hy hw ?_
  intro p e s m args below meth c s₁ B hml hv
  obtain ⟨rfl, ⟨⟨hsz, hP, hK, hD0, hN⟩, hX⟩, hnc⟩ := hv
  subst hsz
  have hts := atoms_spec (ws := wy) B.pre
  have hown : s.vm.findClass y.cls = some m.cls := findClass_of_methodNamed B.named
  have htab := vx_table (x := y) B (hts (Cond.codeWith y cc maxL (some .int) hh) (by rw [hw]; exact List.mem_cons_self))
  rw [lg_entry_eq]
  exact body p e s m _ below meth c (va_A pre s.heap.size) _ ⟨B.exec, B.bytes, hml, hown, hts⟩ B.returns B.notSynchronized htab hX hnc (lv_entry as hlen) ⟨hK, hP, hD0.self, va_S.rf, fun q h => Or.inr h, hN⟩
section NHR
variable {p : Program} {l : Launch} {e : Env} {R : Room} {s : State} {m : MethodId} {args : Array Value} {below : List Frame} {meth : Method} {c : Code} {H : Heap} {locs : List Loc} {cells slots mc ms : Nat} {Q : State → Prop} {cc : ByteArray} {pc nL : Nat} {ls : Array Slot} {rest st0 : List Value} {Ts : List Cond} {own : String} {D : va_G} {Z : Nat → ClassId} {A : Nat → Prop} {ws ws' wc wp X0 Y0 pre post : va_W} {ex : Option String}
theorem nh_ret {cd v : Nat} (S : CallFix p m c cc nL s args Ts own) (w : Wd D Z A s ws H locs) (hr : meth.sig.returnType = some .int) (hlocks : meth.locks = false) (hcd : cd = v) (hpost : ws = post) (hc : cells ≤ mc) (hs : slots ≤ ms) (hdg : decode cc pc = .ok (.ireturn, 1)) : W p l e R s m args below meth c H locs cells slots (QXh below D Z A args s cd post mc ms) (F0 m pc ls [vI v]) := by
  subst hcd; subst hpost
  exact W.widen hc hs (vx_ret (W.zret (ty := .int) S.1 S.2.1 hr rfl (fun t ht hW => ⟨⟨_, (), rfl, rfl, by rw [ht]; exact w.2.1, va_K.moved hW.alike w.1, w.2.2.1⟩, w.2.2.2.1.F ht⟩) w.2.2.2.1.2.2 hdg hlocks))
theorem nv_last (S : CallFix p m c cc nL s args Ts own) (w : Wd D Z A s ws H locs) {a n i : Nat} {f : Nat → Int64} {x : Int64} (q0 : Nat) (ha : ws[q0]? = some (a, .inl (Z 4, n, .inr (.inl f)))) (hi : i < n) (hn : n < 2 ^ 31) {ws' : va_W} (hw : ws.set q0 (a, .inl (Z 4, n, .inr (.inl (vp_updL f i x)))) = ws') (hdg : decode cc pc = .ok (.lastore, 1))
    (kk : ∀ (H1 : Heap) (locs1 : List Loc), Wd D Z A s ws' H1 locs1 → W p l e R s m args below meth c H1 locs1 cells slots Q (F0 m (pc + 1) ls rest)) : W p l e R s m args below meth c H locs cells slots Q (F0 m pc ls (.long x :: vI i :: .ref a :: rest)) := by
  refine va_last S.1 S.2.1 w.1 w.2.1 w.2.2.1 w.2.2.2.1 q0 4 ha rfl (vp_in_nI hi hn) hdg (fun H1 locs1 hP hD hS => kk H1 locs1 ?_)
  rw [nI_clamp (Nat.lt_trans hi hn), hw] at hP hD
  exact ⟨w.1, hP, hD, hS, w.2.2.2.2⟩
theorem nv_lald (S : CallFix p m c cc nL s args Ts own) (w : Wd D Z A s ws H locs) {a n i : Nat} {f : Nat → Int64} (q0 : Nat) (ha : ws[q0]? = some (a, .inl (Z 4, n, .inr (.inl f)))) (hi : i < n) (hn : n < 2 ^ 31) (hdg : decode cc pc = .ok (.laload, 1))
    (kk : W p l e R s m args below meth c H locs cells slots Q (F0 m (pc + 1) ls (.long (f i) :: rest))) : W p l e R s m args below meth c H locs cells slots Q (F0 m pc ls (vI i :: .ref a :: rest)) :=
  va_lald S.1 S.2.1 w.1 w.2.1 q0 4 ha rfl (vp_in_nI hi hn) hdg (by rw [nI_clamp (Nat.lt_trans hi hn)]; exact kk)
theorem nv_lastE (X9 : va_W) (S : CallFix p m c cc nL s args Ts own) {a n i : Nat} {f : Nat → Int64} {x : Int64} (w : Wd D Z A s (X9 ++ [(a, .inl (Z 4, n, .inr (.inl f)))]) H locs) (hi : i < n) (hn : n < 2 ^ 31) (hdg : decode cc pc = .ok (.lastore, 1))
    (kk : ∀ (H1 : Heap) (locs1 : List Loc), Wd D Z A s (X9 ++ [(a, .inl (Z 4, n, .inr (.inl (vp_updL f i x))))]) H1 locs1 → W p l e R s m args below meth c H1 locs1 cells slots Q (F0 m (pc + 1) ls rest)) : W p l e R s m args below meth c H locs cells slots Q (F0 m pc ls (.long x :: vI i :: .ref a :: rest)) :=
  nv_last (f := f) S w X9.length (by simp) hi hn (by simp) hdg kk
/-- caught by the first row -/
theorem nh_c1 {E : String} {ce : Cell} {q : Addr} {x : ExceptionTableEntry} {suf : List ExceptionTableEntry} (S : CallFix p m c cc nL s args Ts own) (X : XT A s s.heap) (htab : c.exceptionTable.toList = x :: suf) (hE : E ∈ xCst) (hx : covers x pc = true) (h0 : x.catchType ≠ 0) (hlink : Cond.classLink own x.catchType E ∈ Ts) (hcell : H[q]? = some ce) (hv : ce.vm = .none) (hcl : s.vm.findClass E = some ce.cls)
    (kk : W p l e R s m args below meth c H locs cells slots Q (F0 m x.handlerPc ls [.ref q])) : vx_W p l e R s m args below meth c H locs cells slots Q (F0 m pc ls rest) q :=
  vx_catch S.2.2.2.1 [] x suf htab (fun z hz => by cases hz) hx h0 (S.2.2.2.2 _ hlink) (va_Nw.use rfl (X.1.2 E hE)) hcell hv hcl kk
/-- caught by the second row -/
theorem nh_c2 {E E1 : String} {ce : Cell} {q : Addr} {x1 x : ExceptionTableEntry} {suf : List ExceptionTableEntry} (S : CallFix p m c cc nL s args Ts own) (X : XT A s s.heap) (htab : c.exceptionTable.toList = x1 :: x :: suf) (hE : E ∈ xCst) (hnc : va_Nc E E1 s) (h1 : x1.catchType ≠ 0) (hl1 : Cond.classLink own x1.catchType E1 ∈ Ts) (hx : covers x pc = true) (h0 : x.catchType ≠ 0) (hlink : Cond.classLink own x.catchType E ∈ Ts) (hcell : H[q]? = some ce) (hv : ce.vm = .none) (hcl : s.vm.findClass E = some ce.cls)
    (kk : W p l e R s m args below meth c H locs cells slots Q (F0 m x.handlerPc ls [.ref q])) : vx_W p l e R s m args below meth c H locs cells slots Q (F0 m pc ls rest) q :=
  vx_catch S.2.2.2.1 [x1] x suf htab (fun z hz => by rw [List.mem_singleton.mp hz]; exact Or.inr ⟨h1, E1, S.2.2.2.2 _ hl1, hnc⟩) hx h0 (S.2.2.2.2 _ hlink) (va_Nw.use rfl (X.1.2 E hE)) hcell hv hcl kk
end NHR
