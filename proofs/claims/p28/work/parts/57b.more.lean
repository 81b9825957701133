/-! a field written in a block of a big world; doubles -/
def Cd (l : Launch) (y : MethodName) (wy : List Cond) (fr lo : Nat) (D : va_G) (Z : Nat → ClassId) (as : List Value) (pre : va_W) (ans : UInt64) (post : va_W) : Prop :=
  ∀ sz : Nat, Met l y wy { frames := fr, cells := 0, slots := 0, locals := lo } (va_Pc as (Pre D Z sz pre)) (va_Qd (fun r (_ : Unit) => r = ans) (fun _ => Pst D Z (va_A pre sz) post) (va_A pre sz)) 0 0 (va_A pre sz)
abbrev Qd (below : List Frame) (D : va_G) (Z : Nat → ClassId) (A : Nat → Prop) (args : Array Value) (s : State) (ans : UInt64) (post : va_W) : State → Prop := MQ below (va_Qd (fun r (_ : Unit) => r = ans) (fun _ => Pst D Z A post) A) args s 0 0 A
theorem ne_d {l : Launch} {y : MethodName} {wy wy' : List Cond} {cc : ByteArray} {maxL fr lo : Nat} {D : va_G} {Z : Nat → ClassId} {as : List Value} {pre post : va_W} {ans : UInt64} (hy : plainName y.cls = true) (hw : wy = Cond.code y cc maxL (some .double) :: wy') (hlen : (lg_sl as).length ≤ maxL)
    (body : ∀ (p : Program) (e : Env) (s : State) (m : MethodId) (args : Array Value) (below : List Frame) (meth : Method) (c : Code) (A : Nat → Prop) (ls : Array Slot), CallFix p m c cc maxL s args wy y.cls → meth.sig.returnType = some .double → meth.locks = false → lv_has ls maxL (lv_args 0 as) → Wd D Z A s pre s.heap [] →
      W p l e (rmO fr lo) s m args below meth c s.heap [] 0 0 (Qd below D Z A args s ans post) (F0 m 0 ls [])) : Cd l y wy fr lo D Z as pre ans post := by
  intro sz
  refine Met.ofW (cc := cc) (maxL := maxL) (ret := some .double) hy hw ?_
  intro p e s m args below meth c s₁ B hml hv
  obtain ⟨rfl, hsz, hP, hK, hD0, hN⟩ := hv
  subst hsz
  have hts := atoms_spec (ws := wy) B.pre
  have hown : s.vm.findClass y.cls = some m.cls := findClass_of_methodNamed B.named
  rw [lg_entry_eq]
  exact body p e s m _ below meth c (va_A pre s.heap.size) _ ⟨B.exec, B.bytes, hml, hown, hts⟩ B.returns B.notSynchronized (lv_entry as hlen) ⟨hK, hP, hD0.self, va_S.rf, fun q h => Or.inr h, hN⟩
section NVM
variable {p : Program} {l : Launch} {e : Env} {R : Room} {s : State} {m : MethodId} {args : Array Value} {below : List Frame} {meth : Method} {c : Code} {H : Heap} {locs : List Loc} {cells slots : Nat} {Q : State → Prop} {cc : ByteArray} {pc nL : Nat} {ls : Array Slot} {rest : List Value} {Ts : List Cond} {own : String} {D : va_G} {Z : Nat → ClassId} {A : Nat → Prop} {ws ws' wc wp : va_W}
theorem nv_dret {ans v : UInt64} {post : va_W} (S : CallFix p m c cc nL s args Ts own) (w : Wd D Z A s ws H locs) (hr : meth.sig.returnType = some .double) (hlocks : meth.locks = false) (hans : v = ans) (hpost : ws = post) (hdg : decode cc pc = .ok (.dreturn, 1)) : W p l e R s m args below meth c H locs 0 0 (Qd below D Z A args s ans post) (F0 m pc ls [.double v]) := by
  subst hans; subst hpost
  exact W.dret S.1 S.2.1 hr (fun t ht hW => ⟨⟨_, (), rfl, rfl, by rw [ht]; exact w.2.1, va_K.moved hW.alike w.1, w.2.2.1⟩, w.2.2.2.1.F ht⟩) w.2.2.2.1.2.2 hdg hlocks
theorem nv_putF (X0 Y0 : va_W) (S : CallFix p m c cc nL s args Ts own) (w : Wd D Z A s ws H locs) {C : String} {T : u_T} {N ci index a : Nat} (hin : ∀ w ∈ u_ws C T N, w ∈ Ts) {ty0 : Nat → FieldType} (hty : ∀ k, k < N → parseFieldDescriptor (T k).2.2.1 = some (ty0 k)) (hnm : ∀ a, a < N → ∀ b, b < N → a ≠ b → (T a).2.1 ≠ (T b).2.1) (hsp : X0 ++ (wc ++ Y0) = ws) (q0 : Nat) {fs : List Value} (he : wc[q0]? = some (a, .inr (ci, fs))) (hc : vwCl[ci]? = some (C, T, N)) (k : Nat) (hk : k < N) (hl : Cond.fieldLink own index (T k).1 (T k).2.1 (T k).2.2.1 ∈ Ts) (hfin : (T k).2.2.2 = false) (h0 : ty0 k = .int) {x : Int32} (hlen : k < fs.length) (hw1 : wc.set q0 (a, .inr (ci, fs.set k (.int x))) = wp) (hw : X0 ++ (wp ++ Y0) = ws') (hdg : decode cc pc = .ok (.putfield index, 3))
    (kk : ∀ (H1 : Heap) (locs1 : List Loc), Wd D Z A s ws' H1 locs1 → W p l e R s m args below meth c H1 locs1 cells slots Q (F0 m (pc + 3) ls rest)) : W p l e R s m args below meth c H locs cells slots Q (F0 m pc ls (.int x :: .ref a :: rest)) := by
  subst hsp; subst hw1; subst hw
  have hlt : q0 < wc.length := (List.getElem?_eq_some_iff.mp he).1
  refine nv_put S w hin hty hnm (X0.length + q0) (fs := fs) ?_ hc k hk hl hfin h0 hlen ?_ hdg kk
  · rw [List.getElem?_append_right (Nat.le_add_right _ _), Nat.add_sub_cancel_left, List.getElem?_append_left hlt]
    exact he
  · rw [List.set_append_right _ _ (Nat.le_add_right _ _), Nat.add_sub_cancel_left, List.set_append_left _ _ hlt]
end NVM
theorem pk_cel {n v f x : Nat} : pk (cel n v f x) = n + v * 2 ^ 6 + f * 2 ^ 10 + x * 2 ^ 13 := by
  simp only [pk, cel]
  simp
  omega
def stNote (X : ST) (i n v : Nat) : ST := ((uc X.1.1 i (cel n v (X.1.1 i 2) (X.1.1 i 3)), X.1.2), X.2)
def stEff (X : ST) (i f x : Nat) : ST := ((uc X.1.1 i (cel (X.1.1 i 0) (X.1.1 i 1) f x), X.1.2), X.2)
def stRows (X : ST) (p n : Nat) : ST := ((X.1.1, un X.1.2.1 p n, X.1.2.2), X.2)
def stOrd (X : ST) (i p : Nat) : ST := ((X.1.1, X.1.2.1, un X.1.2.2.1 i p, max X.1.2.2.2 (i + 1)), X.2)
def stSho (X : ST) : ST := ((X.1.1, X.1.2.1, X.1.2.2.1, X.1.2.2.2 - 1), X.2)
def stPat (X : ST) (p n : Nat) (k : Nat → Nat → Nat) : ST := ((fun i => if 32 * p ≤ i ∧ i < 32 * p + 32 then k (i - 32 * p) else X.1.1 i, un X.1.2.1 p n, X.1.2.2), X.2)
def rtA (r : Nat) : Int32 := if r = 0 then -1 else nI r
def rtM (r : Nat) : Nat := if r = 0 then 1000 else r
