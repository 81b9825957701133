/-! rows of the law's own walk -/
theorem vx_Run.no {p : Program} {l : Launch} {e : Env} {R : Room} {s : State} {m : MethodId} {args : Array Value} {below : List Frame} {meth : Method} {c : Code} {H : Heap} {locs : List Loc} {cells slots mc ms : Nat} {g : JFrame} {rest : List Value} {Qa : State → Outcome → State → Prop} {XC : String → State → State → Prop} {free : Addr → Prop} (h : vx_Run p l e R s m args below meth c H locs cells slots mc ms g rest Qa (fun _ _ _ => False) free) : vx_Run p l e R s m args below meth c H locs cells slots mc ms g rest Qa XC free := by
  intro T hT X
  rcases h T hT X with h | ⟨q, st₀, t, T', L, E, ce, h0, X', hL, e1, e2, hF, h9⟩
  · exact Or.inl h
  · exact hF.elim
def Scr (bs L : Nat) (xs : Nat → Int32) (A : Nat → Prop) (s : State) : Prop := va_X bs L xs s s.heap ∧ bs < s.heap.size ∧ ¬ A bs ∧ L ≤ 3072
section NLR
variable {p : Program} {l : Launch} {e : Env} {R : Room} {s : State} {m : MethodId} {args : Array Value} {below : List Frame} {meth : Method} {c : Code} {H : Heap} {locs : List Loc} {cells slots : Nat} {Q : State → Prop} {cc : ByteArray} {pc nL : Nat} {ls : Array Slot} {rest st0 : List Value} {Ts : List Cond} {own : String} {D : va_G} {Z : Nat → ClassId} {A : Nat → Prop} {ws ws' wc wp Y0 : va_W} {bs L : Nat} {xs : Nat → Int32}
theorem nl_sld (S : CallFix p m c cc nL s args Ts own) (w : Wd D Z A s ws H locs) (h : Scr bs L xs A s) {i : Nat} (hi : i < L) (hdg : decode cc pc = .ok (.iaload, 1))
    (kk : W p l e R s m args below meth c H locs cells slots Q (F0 m (pc + 1) ls (.int (xs i) :: rest))) : W p l e R s m args below meth c H locs cells slots Q (F0 m pc ls (vI i :: .ref bs :: rest)) := by
  have hL := h.2.2.2
  exact va_sld S.1 S.2.1 h.1 h.2.1 h.2.2.1 w.2.2.2.1 (vp_in_nI hi (by omega)) hdg (by rw [nI_clamp (by omega)]; exact kk)
theorem nl_slen (S : CallFix p m c cc nL s args Ts own) (w : Wd D Z A s ws H locs) (h : Scr bs L xs A s) (hdg : decode cc pc = .ok (.arraylength, 1))
    (kk : W p l e R s m args below meth c H locs cells slots Q (F0 m (pc + 1) ls (vI L :: rest))) : W p l e R s m args below meth c H locs cells slots Q (F0 m pc ls (.ref bs :: rest)) :=
  va_slen S.1 S.2.1 h.1 h.2.1 h.2.2.1 w.2.2.2.1 hdg kk
variable {y : MethodName} {wy wy' : List Cond} {bytes : ByteArray} {maxL fr lo index : Nat} {As : List Value} {ret : Option FieldType} {hh : List (Nat × Nat × Nat × Nat)}
theorem nl_h (S : CallFix p m c cc nL s args Ts own) (w : Wd D Z A s (wc ++ Y0) H locs) (X : XT A s s.heap) (hnc : NC s) (hsz : ls.size = nL) {n mc1 ms1 cd : Nat} (hM : Xh l y wy fr lo mc1 ms1 D Z As wc cd wp) (hadr : wp.map (fun q => q.1) = wc.map (fun q => q.1)) (hT : GoodIn Ts (va_wsS own index y wy)) (hy : wy = Cond.codeWith y bytes maxL ret hh :: wy') (hd : y.cls ≠ "java/lang/invoke/MethodHandle" ∧ y.cls ≠ "java/lang/invoke/VarHandle" ∧ (parseMethodDescriptor y.desc).map (fun d => d.parameters.length) = some n) (hRm : fr + 1 ≤ R.frames ∧ 8 + (maxL + 11) + lo ≤ R.locals) (hlen : As.length = n) (hst : st0 = As.reverse ++ rest) (hsum : (rest.map fun v => v.category).sum ≤ 8) (hf : cells + mc1 ≤ R.cells ∧ slots + ms1 ≤ R.slots) (hdg : decode cc pc = .ok (.invokestatic index, 3))
    (kk : ∀ (H1 : Heap) (locs1 : List Loc), Wd D Z A s (wp ++ Y0) H1 locs1 → W p l e R s m args below meth c H1 locs1 (cells + mc1) (slots + ms1) Q (F0 m (pc + 3) ls (vI cd :: rest))) : W p l e R s m args below meth c H locs cells slots Q (F0 m pc ls st0) := by
  have w : Wd D Z A s ([] ++ (wc ++ Y0)) H locs := w
  obtain ⟨hP, hD, hF⟩ := w.blk
  have hPV : PreS s H (va_Pc As (PreH D Z H.size wc)) As := ⟨fb_PreH, fun U hU hW => ⟨rfl, ⟨((w.pre (As := As) hP hD).2 U hU hW).2, by rw [hU]; exact X.warm hW w.2.2.2.1.2.1 hF⟩, hnc.moved hW.alike⟩⟩
  refine vx_calli (px := fun (_ : Unit) => False) (BX := fun _ _ _ => True) (AX := A) (vx_Run.no (vx_runSX (n := n) S (hM H.size) (vx_cwSW n S.2.2.2.2 hT hy rfl rfl hd hRm) hPV rfl hlen hsz hst (lv_room hsum) hdg hf)) w.2.2.2.1 (fun q _ h => hF q h) hF (fun q _ h => h) (fun E ce q9 u t H1 locs1 ht hvm hp hB hz hk hS1 h1 h2 h3 => hp.elim) (fun r u t H1 locs1 ht hvm hpost hB hz hk hS1 => ?_)
  obtain rfl := hpost
  exact kk H1 locs1 (Wd.glueF (X := []) w hadr ht hB hk hS1)
theorem nl_d (X Y : va_W) (S : CallFix p m c cc nL s args Ts own) (w : Wd D Z A s ws H locs) (hsz : ls.size = nL) {C : String} {T : u_T} {N b ci q0 n : Nat} {fs : List Value} {ans : UInt64} (hM : Cd l y wy fr lo D Z (.ref b :: As) wc ans wp) (hsp : X ++ (wc ++ Y) = ws) (hadr : wp.map (fun q => q.1) = wc.map (fun q => q.1)) (hw : X ++ (wp ++ Y) = ws') (hT : GoodIn Ts (wsV own index C y wy)) (hy : wy = Cond.code y bytes maxL ret :: wy') (hd : y.cls = C ∧ y.cls ≠ "java/lang/invoke/MethodHandle" ∧ y.cls ≠ "java/lang/invoke/VarHandle" ∧ (parseMethodDescriptor y.desc).map (fun d => d.parameters.length) = some n) (hRm : fr + 1 ≤ R.frames ∧ 8 + (maxL + 11) + lo ≤ R.locals) (he : wc[q0]? = some (b, .inr (ci, fs))) (hc : vwCl[ci]? = some (C, T, N)) (hlen : As.length = n) (hst : st0 = As.reverse ++ .ref b :: rest) (hsum : (rest.map fun v => v.category).sum ≤ 8) (hf : cells ≤ R.cells ∧ slots ≤ R.slots) (hdg : decode cc pc = .ok (.invokevirtual index, 3))
    (kk : ∀ (H1 : Heap) (locs1 : List Loc), Wd D Z A s ws' H1 locs1 → W p l e R s m args below meth c H1 locs1 cells slots Q (F0 m (pc + 3) ls (.double ans :: rest))) : W p l e R s m args below meth c H locs cells slots Q (F0 m pc ls st0) := by
  have w := w.as hsp.symm
  obtain ⟨hP, hD, hF⟩ := w.blk
  refine va_calld (va_runV (C := C) (n := n) S (hM H.size) (cwV n S.2.2.2.2 hT hy rfl rfl hd hRm) ⟨fb_Pre, va_recv w.1 hP hc he, (w.pre hP hD).2⟩ rfl hlen hsz hst (lv_room hsum) hdg hf) w.2.2.2.1 (fun q _ h => hF q h) hF (fun r u t H1 locs1 ht hvm hpost hB hz hk hS1 => ?_)
  obtain rfl := hpost; exact kk H1 locs1 (hw ▸ Wd.glueF w hadr ht hB hk hS1)
end NLR
theorem adr_cz {Z : Nat → ClassId} {z : Nat → Nat → Nat} {S T : LawS} : (czW Z z S).map (fun q => q.1) = (czW Z z T).map (fun q => q.1) := rfl
theorem adr_jo {Z : Nat → ClassId} {z : Nat → Nat → Nat} {qo : Nat} {f g : Nat → Int64} {S T : LawS} : (czW Z z S ++ joW Z qo f).map (fun q => q.1) = (czW Z z T ++ joW Z qo g).map (fun q => q.1) := rfl
theorem adr_md {Z : Nat → ClassId} {b : Nat → Nat} {S T : LawS} : (mdW Z b S).map (fun q => q.1) = (mdW Z b T).map (fun q => q.1) := rfl
theorem nI_subL {L i : Nat} (hL : L ≤ 3072) (hi : i ≤ 4000) (h : ¬ nI L - nI 6 < nI i) : i + 6 ≤ L := by
  rw [Int32.lt_iff_toInt_lt, nI_toInt (by omega)] at h
  by_cases h6 : 6 ≤ L
  · rw [pk_sub h6, nI_toInt (by omega)] at h
    omega
  · exfalso
    apply h
    obtain rfl | rfl | rfl | rfl | rfl | rfl : L = 0 ∨ L = 1 ∨ L = 2 ∨ L = 3 ∨ L = 4 ∨ L = 5 := by omega
    · rw [show (nI 0 - nI 6).toInt = -6 by decide]; omega
    · rw [show (nI 1 - nI 6).toInt = -5 by decide]; omega
    · rw [show (nI 2 - nI 6).toInt = -4 by decide]; omega
    · rw [show (nI 3 - nI 6).toInt = -3 by decide]; omega
    · rw [show (nI 4 - nI 6).toInt = -2 by decide]; omega
    · rw [show (nI 5 - nI 6).toInt = -1 by decide]; omega
theorem lg_cmp_self {x : Int64} : lg_cmp x x = 0 := (lg_cmp_eq x x).mpr rfl
theorem nl_lald {p : Program} {l : Launch} {e : Env} {R : Room} {s : State} {m : MethodId} {args : Array Value} {below : List Frame} {meth : Method} {c : Code} {H : Heap} {locs : List Loc} {cells slots : Nat} {Q : State → Prop} {cc : ByteArray} {pc nL : Nat} {ls : Array Slot} {rest : List Value} {Ts : List Cond} {own : String} {D : va_G} {Z : Nat → ClassId} {A : Nat → Prop} (X9 Y9 : va_W) (S : CallFix p m c cc nL s args Ts own) {qo : Nat} {f : Nat → Int64} (w : Wd D Z A s (X9 ++ joW Z qo f ++ Y9) H locs) (hdg : decode cc pc = .ok (.laload, 1))
    (kk : W p l e R s m args below meth c H locs cells slots Q (F0 m (pc + 1) ls (.long (f 0) :: rest))) : W p l e R s m args below meth c H locs cells slots Q (F0 m pc ls (vI 0 :: .ref qo :: rest)) :=
  nv_lald (n := 1) (f := f) S w X9.length (by rw [List.append_assoc]; unfold joW; simp) (by decide) (by decide) hdg kk
