/-! numbers as Nat, worlds as one fact, calls as one row each -/
abbrev vI (k : Nat) : Value := .int (nI k)
def un (f : Nat → Nat) (k x : Nat) : Nat → Nat := fun j => if j = k then x else f j
theorem un_eq {f : Nat → Nat} {k x : Nat} : un f k x k = x := by simp [un]
theorem un_ne {f : Nat → Nat} {k x j : Nat} (h : j ≠ k) : un f k x j = f j := by simp [un, h]
def ar (n : Nat) (g : Nat → Nat) : Nat → Int32 := fun j => if j < n then nI (g j) else 0
theorem ar_get {n : Nat} {g : Nat → Nat} {i : Nat} (h : i < n) : ar n g i = nI (g i) := if_pos h
theorem ar_upd {n : Nat} {g : Nat → Nat} {i x : Nat} (h : i < n) : upd (ar n g) i (nI x) = ar n (un g i x) := by
  funext j
  by_cases hj : j = i
  · subst hj; simp [upd, ar, un, h]
  · simp [upd, ar, un, hj]
theorem ar_congr {n : Nat} {g h : Nat → Nat} (e : ∀ j, j < n → g j = h j) : ar n g = ar n h := by
  funext j
  by_cases hj : j < n
  · simp [ar, hj, e j hj]
  · simp [ar, hj]
theorem ar_cpy {n : Nat} {g h : Nat → Nat} : va_cpy (ar n g) (ar n h) 0 0 n = ar n g := by
  funext j
  by_cases hj : j < n
  · simp [va_cpy, ar, hj]
  · simp [va_cpy, ar, hj]
theorem ar_cpyAt {k n d : Nat} {g h : Nat → Nat} (hd : d + k ≤ n) : va_cpy (ar k g) (ar n h) 0 d k = ar n (fun j => if d ≤ j ∧ j < d + k then g (j - d) else h j) := by
  funext j
  by_cases h1 : d ≤ j ∧ j < d + k
  · have h2 : j < n := by omega
    have h3 : j - d < k := by omega
    simp [va_cpy, ar, h1, h2, h3]
  · simp [va_cpy, ar, h1]
theorem ofInt_nI (k : Nat) : Int32.ofInt (k : Int) = nI k := by
  show Int32.ofInt (k : Int) = Int32.ofNat k
  rfl
theorem nI_incI (a k : Nat) : nI a + Int32.ofInt (k : Int) = nI (a + k) := by rw [ofInt_nI, nI_add]
def bP (P : Prop) [Decidable P] : Nat := if P then 1 else 0
theorem bP_t {P : Prop} [Decidable P] (h : P) : bP P = 1 := if_pos h
theorem bP_f {P : Prop} [Decidable P] (h : ¬ P) : bP P = 0 := if_neg h
theorem bP_0 {P : Prop} [Decidable P] : nI (bP P) = 0 ↔ ¬ P := by
  by_cases h : P
  · simp only [bP, h, if_true, not_true, iff_false]; decide
  · simp only [bP, h, if_false, not_false_iff, iff_true]; decide
theorem bP_n {P : Prop} [Decidable P] : narrow .boolean (.int (nI (bP P))) = .int (nI (bP P)) := by
  by_cases h : P
  · rw [bP_t h]; decide
  · rw [bP_f h]; decide
theorem nI_bool {k : Nat} (h : k ≤ 1) : narrow .boolean (.int (nI k)) = .int (nI k) := by
  rcases (show k = 0 ∨ k = 1 by omega) with rfl | rfl <;> decide
/-- private methods of nest mates -/
def nstL : List (String × Nat × MethodName) := [(RX7, 11, yX5_init), (RX7, 25, yX2_init), (RX1, 17, yX5_init), (RX3, 21, yX6_init), (RX4, 33, yX7_isCell), (RX4, 41, yX7_isIndex), (RX6, 52, yX7_isIndex), (RX6, 87, yX7_stolenSound), (RX6, 90, yX7_sound)]
def Nst (U : State) : Prop := ∀ q ∈ nstL, va_Nw (.methodLinkNest q.1 q.2.1 q.2.2 RX7) U
theorem Nst.same {u U : State} (h : u.vm = U.vm) (hN : Nst u) : Nst U := fun q hq => va_Nw.same rfl h (hN q hq)
theorem Nst.warm {s U : State} (hW : s.WarmedH U.vm) (hN : Nst s) : Nst U := fun q hq => va_Nw.warmM hW (hN q hq)
theorem Nst.at {s : State} (hN : Nst s) (k : Nat) {q : String × Nat × MethodName} (h : nstL[k]? = some q) : va_Nw (.methodLinkNest q.1 q.2.1 q.2.2 RX7) s := hN q (List.mem_of_getElem? h)
abbrev tyv (Z : Nat → ClassId) : List (ClassId × FieldType) := [(Z 0, .int), (Z 1, .byte), (Z 2, .object "ChannelLoom$State"), (Z 3, .object "ChannelLoom$Voice"), (Z 4, .int)]
/-- the world at a point of a method -/
def Wd (D : va_G) (Z : Nat → ClassId) (A : Nat → Prop) (s : State) (ws : va_W) (H : Heap) (locs : List Loc) : Prop :=
  va_K D vwCl (tyv Z) s ∧ va_P D vwCl ws H ∧ va_D A ws ∧ va_S A s.heap H locs ∧ (∀ q, s.heap.size ≤ q → A q) ∧ Nst s
theorem Wd.as {D : va_G} {Z : Nat → ClassId} {A : Nat → Prop} {s : State} {ws ws' : va_W} {H : Heap} {locs : List Loc} (w : Wd D Z A s ws H locs) (e : ws = ws') : Wd D Z A s ws' H locs := e ▸ w
theorem Wd.pick {D : va_G} {Z : Nat → ClassId} {A : Nat → Prop} {s : State} {ws ws' : va_W} {H : Heap} {locs : List Loc} (w : Wd D Z A s ws H locs) (is : List Nat) (hn : va_nd is = true) (hs : is.map (fun i => ws[i]?) = ws'.map some) : Wd D Z A s ws' H locs := by
  obtain ⟨h1, h2, h3, h4, h5, h6⟩ := w
  refine ⟨h1, ?_, h3.sub is hn hs, h4, h5, h6⟩
  intro k q hq
  have e1 : (is.map (fun i => ws[i]?))[k]? = some (some q) := by rw [hs, List.getElem?_map, hq]; rfl
  rw [List.getElem?_map] at e1
  cases hi : is[k]? with
  | none => rw [hi] at e1; cases e1
  | some i => rw [hi] at e1; exact h2 i q (Option.some.inj e1)
def Pre (D : va_G) (Z : Nat → ClassId) (sz : Nat) (ws : va_W) : State → Prop := fun U => U.heap.size = sz ∧ va_P D vwCl ws U.heap ∧ va_K D vwCl (tyv Z) U ∧ va_D (fun _ => True) ws ∧ Nst U
def Pst (D : va_G) (Z : Nat → ClassId) (A : Nat → Prop) (ws : va_W) : State → Prop := fun t => va_P D vwCl ws t.heap ∧ va_K D vwCl (tyv Z) t ∧ va_D A ws
theorem fb_Pre {D : va_G} {Z : Nat → ClassId} {sz : Nat} {ws : va_W} {as : List Value} : FrameBlind (va_Pc as (Pre D Z sz ws)) := by
  intro a U g mk q
  obtain ⟨q0, q1, q2, q3, q4, q5⟩ := q
  exact ⟨q0, q1, q2, va_K.moved (u := U) (U := U.calling g mk a) (Vm.Alike.refl U.vm) q3, q4, Nst.same (u := U) rfl q5⟩
/-- contracts: an int, a long, nothing; room of fr frames and lo words -/
def Ci (l : Launch) (y : MethodName) (wy : List Cond) (fr lo : Nat) (D : va_G) (Z : Nat → ClassId) (as : List Value) (pre : va_W) (ans : Int32) (post : va_W) : Prop :=
  ∀ sz : Nat, Met l y wy { frames := fr, cells := 0, slots := 0, locals := lo } (va_Pc as (Pre D Z sz pre)) (va_Qi (fun r (_ : Unit) => r = ans) (fun _ => Pst D Z (va_A pre sz) post) (va_A pre sz)) 0 0 (va_A pre sz)
def Cl (l : Launch) (y : MethodName) (wy : List Cond) (fr lo : Nat) (D : va_G) (Z : Nat → ClassId) (as : List Value) (pre : va_W) (ans : Int64) (post : va_W) : Prop :=
  ∀ sz : Nat, Met l y wy { frames := fr, cells := 0, slots := 0, locals := lo } (va_Pc as (Pre D Z sz pre)) (va_Ql (fun r (_ : Unit) => r = ans) (fun _ => Pst D Z (va_A pre sz) post) (va_A pre sz)) 0 0 (va_A pre sz)
def Cv (l : Launch) (y : MethodName) (wy : List Cond) (fr lo : Nat) (D : va_G) (Z : Nat → ClassId) (as : List Value) (pre post : va_W) : Prop :=
  ∀ sz : Nat, Met l y wy { frames := fr, cells := 0, slots := 0, locals := lo } (va_Pc as (Pre D Z sz pre)) (va_Qv (fun (_ : Unit) => True) (fun _ => Pst D Z (va_A pre sz) post) (va_A pre sz)) 0 0 (va_A pre sz)
abbrev Qi (below : List Frame) (D : va_G) (Z : Nat → ClassId) (A : Nat → Prop) (args : Array Value) (s : State) (ans : Int32) (post : va_W) : State → Prop := MQ below (va_Qi (fun r (_ : Unit) => r = ans) (fun _ => Pst D Z A post) A) args s 0 0 A
abbrev Ql (below : List Frame) (D : va_G) (Z : Nat → ClassId) (A : Nat → Prop) (args : Array Value) (s : State) (ans : Int64) (post : va_W) : State → Prop := MQ below (va_Ql (fun r (_ : Unit) => r = ans) (fun _ => Pst D Z A post) A) args s 0 0 A
abbrev Qv (below : List Frame) (D : va_G) (Z : Nat → ClassId) (A : Nat → Prop) (args : Array Value) (s : State) (post : va_W) : State → Prop := MQ below (va_Qv (fun (_ : Unit) => True) (fun _ => Pst D Z A post) A) args s 0 0 A
abbrev rmO (fr lo : Nat) : Room := { frames := fr, cells := 0, slots := 0, locals := lo }
section NVE
variable {l : Launch} {y : MethodName} {wy wy' : List Cond} {cc : ByteArray} {maxL fr lo : Nat} {D : va_G} {Z : Nat → ClassId} {as : List Value} {pre post : va_W}
theorem ne_i {ans : Int32} {ty : FieldType} (hy : plainName y.cls = true) (hw : wy = Cond.code y cc maxL (some ty) :: wy') (hlen : (lg_sl as).length ≤ maxL)
    (body : ∀ (p : Program) (e : Env) (s : State) (m : MethodId) (args : Array Value) (below : List Frame) (meth : Method) (c : Code) (A : Nat → Prop) (ls : Array Slot), CallFix p m c cc maxL s args wy y.cls → meth.sig.returnType = some ty → meth.locks = false → lv_has ls maxL (lv_args 0 as) → Wd D Z A s pre s.heap [] →
      W p l e (rmO fr lo) s m args below meth c s.heap [] 0 0 (Qi below D Z A args s ans post) (F0 m 0 ls [])) : Ci l y wy fr lo D Z as pre ans post := by
  intro sz
  refine Met.ofW (cc := cc) (maxL := maxL) (ret := some ty) hy hw ?_
  intro p e s m args below meth c s₁ B hml hv
  obtain ⟨rfl, hsz, hP, hK, hD0, hN⟩ := hv
  subst hsz
  have hts := atoms_spec (ws := wy) B.pre
  have hown : s.vm.findClass y.cls = some m.cls := findClass_of_methodNamed B.named
  rw [lg_entry_eq]
  exact body p e s m _ below meth c (va_A pre s.heap.size) _ ⟨B.exec, B.bytes, hml, hown, hts⟩ B.returns B.notSynchronized (lv_entry as hlen) ⟨hK, hP, hD0.self, va_S.rf, fun q h => Or.inr h, hN⟩
theorem ne_l {ans : Int64} (hy : plainName y.cls = true) (hw : wy = Cond.code y cc maxL (some .long) :: wy') (hlen : (lg_sl as).length ≤ maxL)
    (body : ∀ (p : Program) (e : Env) (s : State) (m : MethodId) (args : Array Value) (below : List Frame) (meth : Method) (c : Code) (A : Nat → Prop) (ls : Array Slot), CallFix p m c cc maxL s args wy y.cls → meth.sig.returnType = some .long → meth.locks = false → lv_has ls maxL (lv_args 0 as) → Wd D Z A s pre s.heap [] →
      W p l e (rmO fr lo) s m args below meth c s.heap [] 0 0 (Ql below D Z A args s ans post) (F0 m 0 ls [])) : Cl l y wy fr lo D Z as pre ans post := by
  intro sz
  refine Met.ofW (cc := cc) (maxL := maxL) (ret := some .long) hy hw ?_
  intro p e s m args below meth c s₁ B hml hv
  obtain ⟨rfl, hsz, hP, hK, hD0, hN⟩ := hv
  subst hsz
  have hts := atoms_spec (ws := wy) B.pre
  have hown : s.vm.findClass y.cls = some m.cls := findClass_of_methodNamed B.named
  rw [lg_entry_eq]
  exact body p e s m _ below meth c (va_A pre s.heap.size) _ ⟨B.exec, B.bytes, hml, hown, hts⟩ B.returns B.notSynchronized (lv_entry as hlen) ⟨hK, hP, hD0.self, va_S.rf, fun q h => Or.inr h, hN⟩
theorem ne_v (hy : plainName y.cls = true) (hw : wy = Cond.code y cc maxL none :: wy') (hlen : (lg_sl as).length ≤ maxL)
    (body : ∀ (p : Program) (e : Env) (s : State) (m : MethodId) (args : Array Value) (below : List Frame) (meth : Method) (c : Code) (A : Nat → Prop) (ls : Array Slot), CallFix p m c cc maxL s args wy y.cls → meth.sig.returnType = none → meth.locks = false → lv_has ls maxL (lv_args 0 as) → Wd D Z A s pre s.heap [] →
      W p l e (rmO fr lo) s m args below meth c s.heap [] 0 0 (Qv below D Z A args s post) (F0 m 0 ls [])) : Cv l y wy fr lo D Z as pre post := by
  intro sz
  refine Met.ofW (cc := cc) (maxL := maxL) (ret := none) hy hw ?_
  intro p e s m args below meth c s₁ B hml hv
  obtain ⟨rfl, hsz, hP, hK, hD0, hN⟩ := hv
  subst hsz
  have hts := atoms_spec (ws := wy) B.pre
  have hown : s.vm.findClass y.cls = some m.cls := findClass_of_methodNamed B.named
  rw [lg_entry_eq]
  exact body p e s m _ below meth c (va_A pre s.heap.size) _ ⟨B.exec, B.bytes, hml, hown, hts⟩ B.returns B.notSynchronized (lv_entry as hlen) ⟨hK, hP, hD0.self, va_S.rf, fun q h => Or.inr h, hN⟩
end NVE
section NVR
variable {p : Program} {l : Launch} {e : Env} {R : Room} {s : State} {m : MethodId} {args : Array Value} {below : List Frame} {meth : Method} {c : Code} {H : Heap} {locs : List Loc} {cells slots : Nat} {Q : State → Prop} {cc : ByteArray} {pc nL : Nat} {ls : Array Slot} {rest : List Value} {Ts : List Cond} {own : String} {D : va_G} {Z : Nat → ClassId} {A : Nat → Prop} {ws : va_W}
theorem nv_iadd (S : CallFix p m c cc nL s args Ts own) {x y : Nat} (hdg : decode cc pc = .ok (.iadd, 1)) (k : W p l e R s m args below meth c H locs cells slots Q (F0 m (pc + 1) ls (vI (x + y) :: rest))) : W p l e R s m args below meth c H locs cells slots Q (F0 m pc ls (vI y :: vI x :: rest)) := lv_iadd S.1 S.2.1 hdg (by rw [nI_add]; exact k)
theorem nv_isub (S : CallFix p m c cc nL s args Ts own) {x y : Nat} (h : y ≤ x) (hdg : decode cc pc = .ok (.isub, 1)) (k : W p l e R s m args below meth c H locs cells slots Q (F0 m (pc + 1) ls (vI (x - y) :: rest))) : W p l e R s m args below meth c H locs cells slots Q (F0 m pc ls (vI y :: vI x :: rest)) := lv_isub S.1 S.2.1 hdg (by rw [pk_sub h]; exact k)
theorem nv_imul (S : CallFix p m c cc nL s args Ts own) {x y : Nat} (hdg : decode cc pc = .ok (.imul, 1)) (k : W p l e R s m args below meth c H locs cells slots Q (F0 m (pc + 1) ls (vI (x * y) :: rest))) : W p l e R s m args below meth c H locs cells slots Q (F0 m pc ls (vI y :: vI x :: rest)) := lv_imul S.1 S.2.1 hdg (by rw [pk_mul]; exact k)
theorem nv_idiv (S : CallFix p m c cc nL s args Ts own) {x y : Nat} (hx : x < 2 ^ 31) (h0 : 0 < y) (hy : y < 2 ^ 31) (hdg : decode cc pc = .ok (.idiv, 1)) (k : W p l e R s m args below meth c H locs cells slots Q (F0 m (pc + 1) ls (vI (x / y) :: rest))) : W p l e R s m args below meth c H locs cells slots Q (F0 m pc ls (vI y :: vI x :: rest)) := lv_idiv S.1 S.2.1 hdg (nI_ne0 h0 hy) (by rw [pk_div hx h0 hy]; exact k)
theorem nv_irem (S : CallFix p m c cc nL s args Ts own) {x y : Nat} (hx : x < 2 ^ 31) (h0 : 0 < y) (hy : y < 2 ^ 31) (hdg : decode cc pc = .ok (.irem, 1)) (k : W p l e R s m args below meth c H locs cells slots Q (F0 m (pc + 1) ls (vI (x % y) :: rest))) : W p l e R s m args below meth c H locs cells slots Q (F0 m pc ls (vI y :: vI x :: rest)) := lv_irem S.1 S.2.1 hdg (nI_ne0 h0 hy) (by rw [pk_rem hx h0 hy]; exact k)
theorem nv_iand (S : CallFix p m c cc nL s args Ts own) {x y : Nat} (hdg : decode cc pc = .ok (.iand, 1)) {z : Int32} (hz : nI x &&& nI y = z) (k : W p l e R s m args below meth c H locs cells slots Q (F0 m (pc + 1) ls (.int z :: rest))) : W p l e R s m args below meth c H locs cells slots Q (F0 m pc ls (vI y :: vI x :: rest)) := lv_iand S.1 S.2.1 hdg (by rw [hz]; exact k)
theorem nv_ior (S : CallFix p m c cc nL s args Ts own) {x y : Nat} (hdg : decode cc pc = .ok (.ior, 1)) {z : Int32} (hz : nI x ||| nI y = z) (k : W p l e R s m args below meth c H locs cells slots Q (F0 m (pc + 1) ls (.int z :: rest))) : W p l e R s m args below meth c H locs cells slots Q (F0 m pc ls (vI y :: vI x :: rest)) := lv_ior S.1 S.2.1 hdg (by rw [hz]; exact k)
theorem nv_if_eq (S : CallFix p m c cc nL s args Ts own) {x : Nat} (hx : x < 2 ^ 31) {off : Int} {tgt : Nat} (hdg : decode cc pc = .ok (.ifCond .eq off, 3)) (ht : (pc : Int) + off = (tgt : Int)) (kt : x = 0 → W p l e R s m args below meth c H locs cells slots Q (F0 m tgt ls rest)) (kf : x ≠ 0 → W p l e R s m args below meth c H locs cells slots Q (F0 m (pc + 3) ls rest)) : W p l e R s m args below meth c H locs cells slots Q (F0 m pc ls (vI x :: rest)) :=
  lv_if_eq S.1 S.2.1 hdg ht (fun h => kt ((nI_eq (b := 0) hx (by decide)).mp (by rw [h]; exact nI_0.symm))) (fun h => kf (fun z => h (by rw [z]; exact nI_0)))
theorem nv_if_ne (S : CallFix p m c cc nL s args Ts own) {x : Nat} (hx : x < 2 ^ 31) {off : Int} {tgt : Nat} (hdg : decode cc pc = .ok (.ifCond .ne off, 3)) (ht : (pc : Int) + off = (tgt : Int)) (kt : x ≠ 0 → W p l e R s m args below meth c H locs cells slots Q (F0 m tgt ls rest)) (kf : x = 0 → W p l e R s m args below meth c H locs cells slots Q (F0 m (pc + 3) ls rest)) : W p l e R s m args below meth c H locs cells slots Q (F0 m pc ls (vI x :: rest)) :=
  lv_if_ne S.1 S.2.1 hdg ht (fun h => kt (fun z => h (by rw [z]; exact nI_0))) (fun h => kf ((nI_eq (b := 0) hx (by decide)).mp (by rw [nI_0]; exact h)))
theorem nv_if_le (S : CallFix p m c cc nL s args Ts own) {x : Nat} (hx : x < 2 ^ 31) {off : Int} {tgt : Nat} (hdg : decode cc pc = .ok (.ifCond .le off, 3)) (ht : (pc : Int) + off = (tgt : Int)) (kt : x = 0 → W p l e R s m args below meth c H locs cells slots Q (F0 m tgt ls rest)) (kf : 0 < x → W p l e R s m args below meth c H locs cells slots Q (F0 m (pc + 3) ls rest)) : W p l e R s m args below meth c H locs cells slots Q (F0 m pc ls (vI x :: rest)) :=
  lv_if_le S.1 S.2.1 hdg ht (fun h => kt (by rcases Nat.eq_zero_or_pos x with z | z; exact z; exact absurd h (nI_nle z hx))) (fun h => kf (by rcases Nat.eq_zero_or_pos x with z | z; exact absurd (show nI x ≤ 0 by rw [z]; decide) h; exact z))
theorem nv_if_gt (S : CallFix p m c cc nL s args Ts own) {x : Nat} (hx : x < 2 ^ 31) {off : Int} {tgt : Nat} (hdg : decode cc pc = .ok (.ifCond .gt off, 3)) (ht : (pc : Int) + off = (tgt : Int)) (kt : 0 < x → W p l e R s m args below meth c H locs cells slots Q (F0 m tgt ls rest)) (kf : x = 0 → W p l e R s m args below meth c H locs cells slots Q (F0 m (pc + 3) ls rest)) : W p l e R s m args below meth c H locs cells slots Q (F0 m pc ls (vI x :: rest)) :=
  lv_if_gt S.1 S.2.1 hdg ht (fun h => kt (by rcases Nat.eq_zero_or_pos x with z | z; exact absurd h (by rw [z]; decide); exact z)) (fun h => kf (by rcases Nat.eq_zero_or_pos x with z | z; exact z; exact absurd (by have := (nI_ltI (a := 0) (by decide) hx).mpr z; rw [nI_0] at this; exact this) h))
theorem nv_if_lt (S : CallFix p m c cc nL s args Ts own) {x : Nat} (hx : x < 2 ^ 31) {off : Int} {tgt : Nat} (hdg : decode cc pc = .ok (.ifCond .lt off, 3)) (ht : (pc : Int) + off = (tgt : Int)) (kf : W p l e R s m args below meth c H locs cells slots Q (F0 m (pc + 3) ls rest)) : W p l e R s m args below meth c H locs cells slots Q (F0 m pc ls (vI x :: rest)) :=
  lv_if_lt S.1 S.2.1 hdg ht (fun h => absurd h (nI_pos hx)) (fun _ => kf)
theorem nv_if_ge (S : CallFix p m c cc nL s args Ts own) {x : Nat} (hx : x < 2 ^ 31) {off : Int} {tgt : Nat} (hdg : decode cc pc = .ok (.ifCond .ge off, 3)) (ht : (pc : Int) + off = (tgt : Int)) (kt : W p l e R s m args below meth c H locs cells slots Q (F0 m tgt ls rest)) : W p l e R s m args below meth c H locs cells slots Q (F0 m pc ls (vI x :: rest)) :=
  lv_if_ge S.1 S.2.1 hdg ht (fun _ => kt) (fun h => absurd (nI_pos' hx) h)
theorem nv_if_eqB (S : CallFix p m c cc nL s args Ts own) {P : Prop} [Decidable P] {off : Int} {tgt : Nat} (hdg : decode cc pc = .ok (.ifCond .eq off, 3)) (ht : (pc : Int) + off = (tgt : Int)) (kt : ¬ P → W p l e R s m args below meth c H locs cells slots Q (F0 m tgt ls rest)) (kf : P → W p l e R s m args below meth c H locs cells slots Q (F0 m (pc + 3) ls rest)) : W p l e R s m args below meth c H locs cells slots Q (F0 m pc ls (vI (bP P) :: rest)) :=
  lv_if_eq S.1 S.2.1 hdg ht (fun h => kt (bP_0.mp h)) (fun h => kf (Decidable.not_not.mp fun z => h (bP_0.mpr z)))
theorem nv_if_neB (S : CallFix p m c cc nL s args Ts own) {P : Prop} [Decidable P] {off : Int} {tgt : Nat} (hdg : decode cc pc = .ok (.ifCond .ne off, 3)) (ht : (pc : Int) + off = (tgt : Int)) (kt : P → W p l e R s m args below meth c H locs cells slots Q (F0 m tgt ls rest)) (kf : ¬ P → W p l e R s m args below meth c H locs cells slots Q (F0 m (pc + 3) ls rest)) : W p l e R s m args below meth c H locs cells slots Q (F0 m pc ls (vI (bP P) :: rest)) :=
  lv_if_ne S.1 S.2.1 hdg ht (fun h => kt (Decidable.not_not.mp fun z => h (bP_0.mpr z))) (fun h => kf (bP_0.mp h))
theorem nv_icmp_eq (S : CallFix p m c cc nL s args Ts own) {x y : Nat} (hx : x < 2 ^ 31) (hy : y < 2 ^ 31) {off : Int} {tgt : Nat} (hdg : decode cc pc = .ok (.if_icmp .eq off, 3)) (ht : (pc : Int) + off = (tgt : Int)) (kt : x = y → W p l e R s m args below meth c H locs cells slots Q (F0 m tgt ls rest)) (kf : x ≠ y → W p l e R s m args below meth c H locs cells slots Q (F0 m (pc + 3) ls rest)) : W p l e R s m args below meth c H locs cells slots Q (F0 m pc ls (vI y :: vI x :: rest)) :=
  lv_icmp_eq S.1 S.2.1 hdg ht (fun h => kt ((nI_eq hx hy).mp h)) (fun h => kf (fun z => h (by rw [z])))
theorem nv_icmp_ne (S : CallFix p m c cc nL s args Ts own) {x y : Nat} (hx : x < 2 ^ 31) (hy : y < 2 ^ 31) {off : Int} {tgt : Nat} (hdg : decode cc pc = .ok (.if_icmp .ne off, 3)) (ht : (pc : Int) + off = (tgt : Int)) (kt : x ≠ y → W p l e R s m args below meth c H locs cells slots Q (F0 m tgt ls rest)) (kf : x = y → W p l e R s m args below meth c H locs cells slots Q (F0 m (pc + 3) ls rest)) : W p l e R s m args below meth c H locs cells slots Q (F0 m pc ls (vI y :: vI x :: rest)) :=
  lv_icmp_ne S.1 S.2.1 hdg ht (fun h => kt (fun z => h (by rw [z]))) (fun h => kf ((nI_eq hx hy).mp h))
theorem nv_icmp_ge (S : CallFix p m c cc nL s args Ts own) {x y : Nat} (hx : x < 2 ^ 31) (hy : y < 2 ^ 31) {off : Int} {tgt : Nat} (hdg : decode cc pc = .ok (.if_icmp .ge off, 3)) (ht : (pc : Int) + off = (tgt : Int)) (kt : y ≤ x → W p l e R s m args below meth c H locs cells slots Q (F0 m tgt ls rest)) (kf : x < y → W p l e R s m args below meth c H locs cells slots Q (F0 m (pc + 3) ls rest)) : W p l e R s m args below meth c H locs cells slots Q (F0 m pc ls (vI y :: vI x :: rest)) :=
  lv_icmp_ge S.1 S.2.1 hdg ht (fun h => kt ((nI_leI hy hx).mp h)) (fun h => kf (Nat.lt_of_not_le fun z => h ((nI_leI hy hx).mpr z)))
theorem nv_icmp_lt (S : CallFix p m c cc nL s args Ts own) {x y : Nat} (hx : x < 2 ^ 31) (hy : y < 2 ^ 31) {off : Int} {tgt : Nat} (hdg : decode cc pc = .ok (.if_icmp .lt off, 3)) (ht : (pc : Int) + off = (tgt : Int)) (kt : x < y → W p l e R s m args below meth c H locs cells slots Q (F0 m tgt ls rest)) (kf : y ≤ x → W p l e R s m args below meth c H locs cells slots Q (F0 m (pc + 3) ls rest)) : W p l e R s m args below meth c H locs cells slots Q (F0 m pc ls (vI y :: vI x :: rest)) :=
  lv_icmp_lt S.1 S.2.1 hdg ht (fun h => kt ((nI_ltI hx hy).mp h)) (fun h => kf (Nat.le_of_not_lt fun z => h ((nI_ltI hx hy).mpr z)))
theorem nv_icmp_le (S : CallFix p m c cc nL s args Ts own) {x y : Nat} (hx : x < 2 ^ 31) (hy : y < 2 ^ 31) {off : Int} {tgt : Nat} (hdg : decode cc pc = .ok (.if_icmp .le off, 3)) (ht : (pc : Int) + off = (tgt : Int)) (kt : x ≤ y → W p l e R s m args below meth c H locs cells slots Q (F0 m tgt ls rest)) (kf : y < x → W p l e R s m args below meth c H locs cells slots Q (F0 m (pc + 3) ls rest)) : W p l e R s m args below meth c H locs cells slots Q (F0 m pc ls (vI y :: vI x :: rest)) :=
  lv_icmp_le S.1 S.2.1 hdg ht (fun h => kt ((nI_leI hx hy).mp h)) (fun h => kf (Nat.lt_of_not_le fun z => h ((nI_leI hx hy).mpr z)))
theorem nv_icmp_gt (S : CallFix p m c cc nL s args Ts own) {x y : Nat} (hx : x < 2 ^ 31) (hy : y < 2 ^ 31) {off : Int} {tgt : Nat} (hdg : decode cc pc = .ok (.if_icmp .gt off, 3)) (ht : (pc : Int) + off = (tgt : Int)) (kt : y < x → W p l e R s m args below meth c H locs cells slots Q (F0 m tgt ls rest)) (kf : x ≤ y → W p l e R s m args below meth c H locs cells slots Q (F0 m (pc + 3) ls rest)) : W p l e R s m args below meth c H locs cells slots Q (F0 m pc ls (vI y :: vI x :: rest)) :=
  lv_icmp_gt S.1 S.2.1 hdg ht (fun h => kt ((nI_ltI hy hx).mp h)) (fun h => kf (Nat.le_of_not_lt fun z => h ((nI_ltI hy hx).mpr z)))
theorem nv_tableIn (S : CallFix p m c cc nL s args Ts own) {dflt lo hi : Int} {offs : Array Int} {len : Nat} {x : Nat} {off : Int} {tgt : Nat} (hx : x < 2 ^ 31) (hdg : decode cc pc = .ok (.tableswitch dflt lo hi offs, len)) (h1 : lo ≤ (x : Int)) (h2 : (x : Int) ≤ hi) (ho : offs[((x : Int) - lo).toNat]? = some off) (ht : (pc : Int) + off = (tgt : Int)) (k : W p l e R s m args below meth c H locs cells slots Q (F0 m tgt ls rest)) : W p l e R s m args below meth c H locs cells slots Q (F0 m pc ls (vI x :: rest)) :=
  lv_tableIn S.1 S.2.1 hdg (by rw [nI_toInt hx]; omega) (by rw [nI_toInt hx]; omega) (by rw [nI_toInt hx]; exact ho) ht k
theorem nv_tableOut (S : CallFix p m c cc nL s args Ts own) {dflt lo hi : Int} {offs : Array Int} {len : Nat} {x : Nat} {tgt : Nat} (hx : x < 2 ^ 31) (hdg : decode cc pc = .ok (.tableswitch dflt lo hi offs, len)) (h : (x : Int) < lo ∨ hi < (x : Int)) (ht : (pc : Int) + dflt = (tgt : Int)) (k : W p l e R s m args below meth c H locs cells slots Q (F0 m tgt ls rest)) : W p l e R s m args below meth c H locs cells slots Q (F0 m pc ls (vI x :: rest)) :=
  lv_tableOut S.1 S.2.1 hdg (by rw [nI_toInt hx]; exact h) ht k
theorem nv_get (S : CallFix p m c cc nL s args Ts own) (w : Wd D Z A s ws H locs) {C : String} {T : u_T} {N ci index a : Nat} (hin : ∀ w ∈ u_ws C T N, w ∈ Ts) (q0 : Nat) {fs : List Value} (he : ws[q0]? = some (a, .inr (ci, fs))) (hc : vwCl[ci]? = some (C, T, N)) (k : Nat) (hk : k < N) (hl : Cond.fieldLink own index (T k).1 (T k).2.1 (T k).2.2.1 ∈ Ts) {v : Value} (hv : fs[k]? = some v) (hdg : decode cc pc = .ok (.getfield index, 3))
    (kk : W p l e R s m args below meth c H locs cells slots Q (F0 m (pc + 3) ls (v :: rest))) : W p l e R s m args below meth c H locs cells slots Q (F0 m pc ls (.ref a :: rest)) :=
  va_get S.1 S.2.1 S.2.2.2.2 hin S.2.2.2.1 w.1 w.2.1 q0 he hc k hk (S.2.2.2.2 _ hl) (fun _ h => h) hv hdg kk
theorem nv_put (S : CallFix p m c cc nL s args Ts own) (w : Wd D Z A s ws H locs) {C : String} {T : u_T} {N ci index a : Nat} (hin : ∀ w ∈ u_ws C T N, w ∈ Ts) {ty0 : Nat → FieldType} (hty : ∀ k, k < N → parseFieldDescriptor (T k).2.2.1 = some (ty0 k)) (hnm : ∀ a, a < N → ∀ b, b < N → a ≠ b → (T a).2.1 ≠ (T b).2.1) (q0 : Nat) {fs : List Value} (he : ws[q0]? = some (a, .inr (ci, fs))) (hc : vwCl[ci]? = some (C, T, N)) (k : Nat) (hk : k < N) (hl : Cond.fieldLink own index (T k).1 (T k).2.1 (T k).2.2.1 ∈ Ts) (hfin : (T k).2.2.2 = false) (h0 : ty0 k = .int) {x : Int32} (hlen : k < fs.length) {ws' : va_W} (hw : ws.set q0 (a, .inr (ci, fs.set k (.int x))) = ws') (hdg : decode cc pc = .ok (.putfield index, 3))
    (kk : ∀ (H1 : Heap) (locs1 : List Loc), Wd D Z A s ws' H1 locs1 → W p l e R s m args below meth c H1 locs1 cells slots Q (F0 m (pc + 3) ls rest)) : W p l e R s m args below meth c H locs cells slots Q (F0 m pc ls (.int x :: .ref a :: rest)) :=
  va_put S.1 S.2.1 S.2.2.2.2 hin ty0 hty hnm S.2.2.2.1 w.1 w.2.1 w.2.2.1 w.2.2.2.1 q0 he hc k hk (S.2.2.2.2 _ hl) (fun _ h => h) hfin (ty := .int) (v := .int x) (by rw [hty k hk, h0]) rfl rfl hlen hdg
    (fun H1 locs1 hP hD hS => kk H1 locs1 ⟨w.1, hw ▸ hP, hw ▸ hD, hS, w.2.2.2.2.1, w.2.2.2.2.2⟩)
theorem nv_iald (S : CallFix p m c cc nL s args Ts own) (w : Wd D Z A s ws H locs) {a n i : Nat} {g : Nat → Nat} (q0 : Nat) (ha : ws[q0]? = some (a, .inl (Z 0, n, .inl (ar n g)))) (hi : i < n) (hn : n < 2 ^ 31) (hdg : decode cc pc = .ok (.iaload, 1))
    (kk : W p l e R s m args below meth c H locs cells slots Q (F0 m (pc + 1) ls (vI (g i) :: rest))) : W p l e R s m args below meth c H locs cells slots Q (F0 m pc ls (vI i :: .ref a :: rest)) :=
  va_iald S.1 S.2.1 w.1 w.2.1 q0 0 ha rfl (vp_in_nI hi hn) hdg (by rw [nI_clamp (Nat.lt_trans hi hn), ar_get hi]; exact kk)
theorem nv_bald (S : CallFix p m c cc nL s args Ts own) (w : Wd D Z A s ws H locs) {a n i : Nat} {g : Nat → Nat} (q0 : Nat) (ha : ws[q0]? = some (a, .inl (Z 1, n, .inl (ar n g)))) (hi : i < n) (hn : n < 2 ^ 31) (hdg : decode cc pc = .ok (.baload, 1))
    (kk : W p l e R s m args below meth c H locs cells slots Q (F0 m (pc + 1) ls (vI (g i) :: rest))) : W p l e R s m args below meth c H locs cells slots Q (F0 m pc ls (vI i :: .ref a :: rest)) :=
  va_bald S.1 S.2.1 w.1 w.2.1 q0 1 ha rfl (vp_in_nI hi hn) hdg (by rw [nI_clamp (Nat.lt_trans hi hn), ar_get hi]; exact kk)
theorem nv_iast (S : CallFix p m c cc nL s args Ts own) (w : Wd D Z A s ws H locs) {a n i x : Nat} {g : Nat → Nat} (q0 : Nat) (ha : ws[q0]? = some (a, .inl (Z 0, n, .inl (ar n g)))) (hi : i < n) (hn : n < 2 ^ 31) {ws' : va_W} (hw : ws.set q0 (a, .inl (Z 0, n, .inl (ar n (un g i x)))) = ws') (hdg : decode cc pc = .ok (.iastore, 1))
    (kk : ∀ (H1 : Heap) (locs1 : List Loc), Wd D Z A s ws' H1 locs1 → W p l e R s m args below meth c H1 locs1 cells slots Q (F0 m (pc + 1) ls rest)) : W p l e R s m args below meth c H locs cells slots Q (F0 m pc ls (vI x :: vI i :: .ref a :: rest)) :=
  va_iast S.1 S.2.1 w.1 w.2.1 w.2.2.1 w.2.2.2.1 q0 0 ha rfl (vp_in_nI hi hn) hdg
    (fun H1 locs1 hP hD hS => by
      rw [nI_clamp (Nat.lt_trans hi hn), ar_upd hi] at hP hD
      exact kk H1 locs1 ⟨w.1, hw ▸ hP, hw ▸ hD, hS, w.2.2.2.2.1, w.2.2.2.2.2⟩)
theorem nv_bast (S : CallFix p m c cc nL s args Ts own) (w : Wd D Z A s ws H locs) {a n i x : Nat} {g : Nat → Nat} (q0 : Nat) (ha : ws[q0]? = some (a, .inl (Z 1, n, .inl (ar n g)))) (hi : i < n) (hn : n < 2 ^ 31) (hx : vp_nar .byte (nI x) = nI x) {ws' : va_W} (hw : ws.set q0 (a, .inl (Z 1, n, .inl (ar n (un g i x)))) = ws') (hdg : decode cc pc = .ok (.bastore, 1))
    (kk : ∀ (H1 : Heap) (locs1 : List Loc), Wd D Z A s ws' H1 locs1 → W p l e R s m args below meth c H1 locs1 cells slots Q (F0 m (pc + 1) ls rest)) : W p l e R s m args below meth c H locs cells slots Q (F0 m pc ls (vI x :: vI i :: .ref a :: rest)) :=
  va_bast S.1 S.2.1 w.1 w.2.1 w.2.2.1 w.2.2.2.1 q0 1 ha rfl (vp_in_nI hi hn) hdg
    (fun H1 locs1 hP hD hS => by
      rw [nI_clamp (Nat.lt_trans hi hn), hx, ar_upd hi] at hP hD
      exact kk H1 locs1 ⟨w.1, hw ▸ hP, hw ▸ hD, hS, w.2.2.2.2.1, w.2.2.2.2.2⟩)
theorem nv_aald (S : CallFix p m c cc nL s args Ts own) (w : Wd D Z A s ws H locs) {a n i q cA : Nat} {C : String} {f : Nat → Option Nat} (q0 t0 : Nat) (ha : ws[q0]? = some (a, .inl (cA, n, .inr (.inr (.inr (.inr f)))))) (ht : (tyv Z)[t0]? = some (cA, .object C)) (hi : i < n) (hn : n < 2 ^ 31) (hf : f i = some q) (hdg : decode cc pc = .ok (.aaload, 1))
    (kk : W p l e R s m args below meth c H locs cells slots Q (F0 m (pc + 1) ls (.ref q :: rest))) : W p l e R s m args below meth c H locs cells slots Q (F0 m pc ls (vI i :: .ref a :: rest)) :=
  va_aldq S.1 S.2.1 w.1 w.2.1 q0 t0 ha ht (vp_in_nI hi hn) hdg (by rw [nI_clamp (Nat.lt_trans hi hn), hf]; exact kk)
theorem nv_alen (S : CallFix p m c cc nL s args Ts own) (w : Wd D Z A s ws H locs) {a : Nat} {cA : ClassId} {x : vp_A} (q0 t0 : Nat) (ha : ws[q0]? = some (a, .inl (cA, x))) {ty : FieldType} (ht : (tyv Z)[t0]? = some (cA, ty)) {n : Nat} (hv : x.1 = n) (hdg : decode cc pc = .ok (.arraylength, 1))
    (kk : W p l e R s m args below meth c H locs cells slots Q (F0 m (pc + 1) ls (vI n :: rest))) : W p l e R s m args below meth c H locs cells slots Q (F0 m pc ls (.ref a :: rest)) :=
  va_alen S.1 S.2.1 w.1 w.2.1 q0 t0 ha ht (v := nI n) (by rw [hv]; rfl) hdg kk
theorem nv_iret {ans v : Int32} {post : va_W} {ty : FieldType} (S : CallFix p m c cc nL s args Ts own) (w : Wd D Z A s ws H locs) (hr : meth.sig.returnType = some ty) (hlocks : meth.locks = false) (hn : narrow ty (.int v) = .int v) (hans : v = ans) (hpost : ws = post) (hdg : decode cc pc = .ok (.ireturn, 1)) : W p l e R s m args below meth c H locs 0 0 (Qi below D Z A args s ans post) (F0 m pc ls [.int v]) := by
  subst hans; subst hpost
  exact W.zret S.1 S.2.1 hr hn (fun t ht hW => ⟨⟨_, (), rfl, rfl, by rw [ht]; exact w.2.1, va_K.moved hW.alike w.1, w.2.2.1⟩, w.2.2.2.1.F ht⟩) w.2.2.2.1.2.2 hdg hlocks
theorem nv_lret {ans v : Int64} {post : va_W} (S : CallFix p m c cc nL s args Ts own) (w : Wd D Z A s ws H locs) (hr : meth.sig.returnType = some .long) (hlocks : meth.locks = false) (hans : v = ans) (hpost : ws = post) (hdg : decode cc pc = .ok (.lreturn, 1)) : W p l e R s m args below meth c H locs 0 0 (Ql below D Z A args s ans post) (F0 m pc ls [.long v]) := by
  subst hans; subst hpost
  exact W.lret S.1 S.2.1 hr (fun t ht hW => ⟨⟨_, (), rfl, rfl, by rw [ht]; exact w.2.1, va_K.moved hW.alike w.1, w.2.2.1⟩, w.2.2.2.1.F ht⟩) w.2.2.2.1.2.2 hdg hlocks
theorem nv_vret {post : va_W} (S : CallFix p m c cc nL s args Ts own) (w : Wd D Z A s ws H locs) (hr : meth.sig.returnType = none) (hlocks : meth.locks = false) (hpost : ws = post) (hdg : decode cc pc = .ok (.return_, 1)) : W p l e R s m args below meth c H locs 0 0 (Qv below D Z A args s post) (F0 m pc ls []) := by
  subst hpost
  exact W.vret S.1 S.2.1 hr (fun t ht hW => ⟨⟨(), rfl, trivial, by rw [ht]; exact w.2.1, va_K.moved hW.alike w.1, w.2.2.1⟩, w.2.2.2.1.F ht⟩) w.2.2.2.1.2.2 hdg hlocks
/-- the world that a callee's is cut out of, joined again, in the order isP -/
theorem Wd.cut {wc : va_W} (w : Wd D Z A s ws H locs) (isC : List Nat) (hC : isC.map (fun i => ws[i]?) = wc.map some) (hn1 : va_nd isC = true) : va_P D vwCl wc H ∧ va_D A wc ∧ ∀ q, va_A wc H.size q → A q :=
  ⟨(w.pick isC hn1 hC).2.1, (w.pick isC hn1 hC).2.2.1, va_free w.2.2.1 w.2.2.2.1 w.2.2.2.2.1 isC hC⟩
theorem Wd.glue {wc wr wp ws' : va_W} (w : Wd D Z A s ws H locs) (isC isR : List Nat) (hC : isC.map (fun i => ws[i]?) = wc.map some) (hR : isR.map (fun i => ws[i]?) = wr.map some) (hn2 : va_nd isR = true) (hdis : ∀ i ∈ isR, i ∉ isC) (hF : ∀ q, va_A wc H.size q → A q) {t : State} {H1 : Heap} {locs1 : List Loc} (ht : t.heap = H1) (hB : Pst D Z (va_A wc H.size) wp t) (hk : ∀ q : Nat, q < H.size → ¬ va_A wc H.size q → H1[q]? = H[q]?) (hS1 : va_S A s.heap H1 locs1)
    (isP : List Nat) (hp : isP.map (fun i => (wr ++ wp)[i]?) = ws'.map some) (hn3 : va_nd isP = true) : Wd D Z A s ws' H1 locs1 := by
  obtain ⟨hP1, -, hD1⟩ := hB
  rw [ht] at hP1
  obtain ⟨hP, hD⟩ := va_join w.2.1 w.2.2.1 isC isR hC hR hn2 hdis hk hF hP1 hD1
  exact Wd.pick ⟨w.1, hP, hD, hS1, w.2.2.2.2.1, w.2.2.2.2.2⟩ isP hn3 hp
theorem Wd.pre {wc : va_W} {As : List Value} (w : Wd D Z A s ws H locs) (hP : va_P D vwCl wc H) (hD : va_D A wc) : PreS s H (va_Pc As (Pre D Z H.size wc)) As :=
  ⟨fb_Pre, fun U hU hW => ⟨rfl, by rw [hU], by rw [hU]; exact hP, va_K.moved hW.alike w.1, hD.weaken (fun _ _ _ _ => trivial), w.2.2.2.2.2.warm hW⟩⟩
end NVR
