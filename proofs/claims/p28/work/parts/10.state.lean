/-! what a state is: a voice is a function on 16 places (pitch, volume, stolen ticks, by, frames, three frames of pattern and row, heard, the cell that was read), as the reference lays it -/
def pk (r : Nat → Nat) : Nat := r 0 + 64 * r 1 + 1024 * r 2 + 8192 * r 3
def rv (V : Nat → Nat) : Nat → Nat := fun k => V (12 + k)
def voiceB (Z : Nat → ClassId) (q qp qr : Nat) (V : Nat → Nat) : va_W :=
  [(q, .inr (5, [vI (V 0), vI (V 1), vI (V 2), vI (V 3), vI (V 11), vI (V 4), .ref qp, .ref qr, vI (pk (rv V))])), (qp, .inl (Z 0, 3, .inl (ar 3 (fun j => V (5 + 2 * j))))), (qr, .inl (Z 0, 3, .inl (ar 3 (fun j => V (6 + 2 * j)))))]
theorem voiceB_mk {Z : Nat → ClassId} {q qp qr : Nat} {V : Nat → Nat} {t0 t1 t2 t3 t4 t5 t6 : Nat} {f g : Nat → Nat} (e0 : t0 = V 0) (e1 : t1 = V 1) (e2 : t2 = V 2) (e3 : t3 = V 3) (e4 : t4 = V 11) (e5 : t5 = V 4) (e6 : t6 = pk (rv V)) (ef : ∀ j, j < 3 → f j = V (5 + 2 * j)) (eg : ∀ j, j < 3 → g j = V (6 + 2 * j)) :
    ([(q, .inr (5, [vI t0, vI t1, vI t2, vI t3, vI t4, vI t5, .ref qp, .ref qr, vI t6])), (qp, .inl (Z 0, 3, .inl (ar 3 f))), (qr, .inl (Z 0, 3, .inl (ar 3 g)))] : va_W) = voiceB Z q qp qr V := by
  subst e0; subst e1; subst e2; subst e3; subst e4; subst e5; subst e6
  unfold voiceB
  rw [ar_congr ef, ar_congr eg]
def VB (V : Nat → Nat) : Prop := V 0 ≤ 999 ∧ V 1 ≤ 15 ∧ V 2 ≤ 99 ∧ V 3 ≤ 60 ∧ V 4 ≤ 3 ∧ V 5 ≤ 5 ∧ V 6 ≤ 8 ∧ V 7 ≤ 5 ∧ V 8 ≤ 8 ∧ V 9 ≤ 5 ∧ V 10 ≤ 8 ∧ V 11 ≤ 16000 ∧ V 12 ≤ 61 ∧ V 13 ≤ 15 ∧ V 14 ≤ 7 ∧ V 15 ≤ 9
/-- a cell as it is read: note, volume, effect, number -/
def RB (r : Nat → Nat) : Prop := r 0 ≤ 61 ∧ r 1 ≤ 15 ∧ r 2 ≤ 7 ∧ r 3 ≤ 9
def begV (V : Nat → Nat) : Nat → Nat := if V 12 = 61 then un V 1 0 else if 0 < V 12 then un (un V 0 (16 * V 12)) 1 (V 13) else V
def setR (V r : Nat → Nat) : Nat → Nat := fun k => if 12 ≤ k ∧ k < 16 then r (k - 12) else V k
def brV (V r : Nat → Nat) : Nat → Nat := if r 2 = 6 ∧ 0 < r 3 then setR V r else begV (setR V r)
def goV (V : Nat → Nat) (t : Nat) : Nat → Nat := if V 14 = 1 then un V 0 (min (V 0 + V 15) 999) else if V 14 = 2 then un V 0 (V 0 - V 15) else if V 14 = 3 then un V 1 (min (V 1 + V 15) 15) else if V 14 = 4 then un V 1 (V 1 - V 15) else if V 14 = 6 ∧ V 15 = t then begV V else V
def hearV (V : Nat → Nat) : Nat → Nat := if 0 < V 2 then un (un V 11 (16 * (16 * V 3) + 15)) 2 (V 2 - 1) else un V 11 (if V 1 = 0 then 0 else 16 * V 0 + V 1)
def end1V (rw : Nat → Nat) (V : Nat → Nat) : Nat → Nat := if V 4 = 0 then V else if rw (V (5 + 2 * (V 4 - 1))) ≤ V (6 + 2 * (V 4 - 1)) + 1 then un (un V (6 + 2 * (V 4 - 1)) (V (6 + 2 * (V 4 - 1)) + 1)) 4 (V 4 - 1) else un V (6 + 2 * (V 4 - 1)) (V (6 + 2 * (V 4 - 1)) + 1)
def entV (V : Nat → Nat) (x : Nat) : Nat → Nat := if V 4 < 3 then un (un (un V (5 + 2 * V 4) x) (6 + 2 * V 4) 0) 4 (V 4 + 1) else V
def endV (rw : Nat → Nat) (V : Nat → Nat) : Nat → Nat := if V 14 = 5 ∧ V 15 < 6 then entV (end1V rw V) (V 15) else end1V rw V
theorem un_at (f : Nat → Nat) (k x j : Nat) : un f k x j = if j = k then x else f j := rfl
/-- bits of a packed cell -/
theorem pk_note {r : Nat → Nat} (h : RB r) : nI (pk r) &&& nI 63 = nI (r 0) := by
  unfold RB at h
  have e := pk_andN (n := pk r) (by unfold pk; omega) (m := nI 63) 6 (by decide)
  rw [e]
  congr 1
  unfold pk; omega
theorem pk_vol {r : Nat → Nat} (h : RB r) : (nI (pk r) >>> (nI 6 &&& 31)) &&& nI 15 = nI (r 1) := by
  unfold RB at h
  rw [pk_shrN (n := pk r) (by unfold pk; omega) (nI 6 &&& 31) 6 (by decide), pk_andN (n := pk r / 2 ^ 6) (by unfold pk; omega) (m := nI 15) 4 (by decide)]
  congr 1
  unfold pk; omega
theorem pk_eff {r : Nat → Nat} (h : RB r) : (nI (pk r) >>> (nI 10 &&& 31)) &&& nI 7 = nI (r 2) := by
  unfold RB at h
  rw [pk_shrN (n := pk r) (by unfold pk; omega) (nI 10 &&& 31) 10 (by decide), pk_andN (n := pk r / 2 ^ 10) (by unfold pk; omega) (m := nI 7) 3 (by decide)]
  congr 1
  unfold pk; omega
theorem pk_num {r : Nat → Nat} (h : RB r) : (nI (pk r) >>> (nI 13 &&& 31)) &&& nI 15 = nI (r 3) := by
  unfold RB at h
  rw [pk_shrN (n := pk r) (by unfold pk; omega) (nI 13 &&& 31) 13 (by decide), pk_andN (n := pk r / 2 ^ 13) (by unfold pk; omega) (m := nI 15) 4 (by decide)]
  congr 1
  unfold pk; omega
theorem fa_or (a b : Nat) : nI a ||| nI b = nI (a ||| b) := by
  apply Int32.toBitVec_inj.1
  show BitVec.ofNat 32 a ||| BitVec.ofNat 32 b = BitVec.ofNat 32 (a ||| b)
  apply BitVec.eq_of_getLsbD_eq
  intro i hi
  simp [hi]
theorem fa_and (a b : Nat) : nI a &&& nI b = nI (a &&& b) := by
  apply Int32.toBitVec_inj.1
  show BitVec.ofNat 32 a &&& BitVec.ofNat 32 b = BitVec.ofNat 32 (a &&& b)
  apply BitVec.eq_of_getLsbD_eq
  intro i hi
  simp [hi]
theorem or_sum {a k b : Nat} (h : a < 2 ^ k) : nI a ||| nI (b * 2 ^ k) = nI (a + b * 2 ^ k) := by
  rw [fa_or, Nat.or_comm, Nat.mul_comm b, ← Nat.two_pow_add_eq_or_of_lt h, Nat.add_comm]
theorem bP_congr {P Q : Prop} [Decidable P] [Decidable Q] (h : P ↔ Q) : bP P = bP Q := by
  by_cases hp : P
  · rw [bP_t hp, bP_t (h.mp hp)]
  · rw [bP_f hp, bP_f (fun z => hp (h.mpr z))]

theorem VB.rb {V : Nat → Nat} (h : VB V) : RB (rv V) := by
  unfold VB at h
  show V 12 ≤ 61 ∧ V 13 ≤ 15 ∧ V 14 ≤ 7 ∧ V 15 ≤ 9
  omega
theorem VB_setR {V r : Nat → Nat} (h : VB V) (hr : RB r) : VB (setR V r) := by
  unfold VB RB at *
  simp [setR]
  omega
theorem VB_begV {V : Nat → Nat} (h : VB V) : VB (begV V) := by
  unfold begV
  split
  · unfold VB at *
    simp [un_at]
    omega
  · split
    · unfold VB at *
      simp [un_at]
      omega
    · exact h
theorem VB_brV {V r : Nat → Nat} (h : VB V) (hr : RB r) : VB (brV V r) := by
  unfold brV
  split
  · exact VB_setR h hr
  · exact VB_begV (VB_setR h hr)
theorem VB_goV {V : Nat → Nat} {t : Nat} (h : VB V) : VB (goV V t) := by
  unfold goV
  split
  · unfold VB at *; simp [un_at]; omega
  · split
    · unfold VB at *; simp [un_at]; omega
    · split
      · unfold VB at *; simp [un_at]; omega
      · split
        · unfold VB at *; simp [un_at]; omega
        · split
          · exact VB_begV h
          · exact h
theorem VB_hearV {V : Nat → Nat} (h : VB V) : VB (hearV V) := by
  unfold hearV
  split
  · unfold VB at *; simp [un_at]; omega
  · unfold VB at *
    simp [un_at]
    split <;> omega
theorem VB_end1V {rw' V : Nat → Nat} (h : VB V) (hl : 0 < V 4 → V (6 + 2 * (V 4 - 1)) ≤ 7) : VB (end1V rw' V) := by
  unfold end1V
  have h2 := h
  unfold VB at h2
  rcases (show V 4 = 0 ∨ V 4 = 1 ∨ V 4 = 2 ∨ V 4 = 3 by omega) with e | e | e | e
  · simp [e, h]
  all_goals
    rw [e] at hl ⊢
    simp at hl ⊢
    split <;> (unfold VB at *; simp [un_at]; omega)
theorem VB_entV {V : Nat → Nat} {x : Nat} (h : VB V) (hx : x ≤ 5) : VB (entV V x) := by
  unfold entV
  have h2 := h
  unfold VB at h2
  rcases (show V 4 = 0 ∨ V 4 = 1 ∨ V 4 = 2 ∨ V 4 = 3 by omega) with e | e | e | e
  all_goals
    rw [e]
    simp only [Nat.reduceSub, Nat.reduceMul, Nat.reduceAdd, Nat.reduceLT, if_true, if_false]
    first
    | exact h
    | (unfold VB at *; simp [un_at]; omega)
theorem VB_endV {rw' V : Nat → Nat} (h : VB V) (hl : 0 < V 4 → V (6 + 2 * (V 4 - 1)) ≤ 7) : VB (endV rw' V) := by
  unfold endV
  split
  · exact VB_entV (VB_end1V h hl) (by omega)
  · exact VB_end1V h hl
section NVX
variable {p : Program} {l : Launch} {e : Env} {R : Room} {s : State} {m : MethodId} {args : Array Value} {below : List Frame} {meth : Method} {c : Code} {H : Heap} {locs : List Loc} {cells slots : Nat} {Q : State → Prop} {cc : ByteArray} {pc nL : Nat} {ls : Array Slot} {rest : List Value} {Ts : List Cond} {own : String} {index : Nat}
theorem nv_imax0 (S : CallFix p m c cc nL s args Ts own) (hsz : ls.size = nL) (hlink : Cond.methodLink own index Lib.Math.max.name ∈ Ts) (hstat : Cond.static Lib.Math.max.name ∈ Ts) (hini : Cond.initialized "java/lang/Math" ∈ Ts) (hcode : Cond.code Lib.Math.max.name Lib.Math.max.code 2 (some .int) ∈ Ts) (hfr : 1 ≤ R.frames) (hlo : (rest.map fun v => v.category).sum + 13 ≤ R.locals) (hf : cells ≤ R.cells ∧ slots ≤ R.slots) {x : Int32} (hx : x < 0) (hdg : decode cc pc = .ok (.invokestatic index, 3))
    (kk : W p l e R s m args below meth c H locs cells slots Q (F0 m (pc + 3) ls (vI 0 :: rest))) : W p l e R s m args below meth c H locs cells slots Q (F0 m pc ls (vI 0 :: .int x :: rest)) := by
  refine va_mmax S.1 S.2.1 (S.2.2.1.trans hsz.symm) S.2.2.2.1 (S.2.2.2.2 _ hlink) (S.2.2.2.2 _ hstat) (S.2.2.2.2 _ hini) (S.2.2.2.2 _ hcode) hfr hlo hf.1 hf.2 hdg ?_
  rw [nI_0, if_pos hx, ← nI_0]
  exact kk
end NVX
