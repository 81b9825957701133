/-! rows of the law's own methods: contracts whose answer and world are said of something that is found -/
def qW (Z : Nat → ClassId) (z : Nat → Nat → Nat) (X : ST) (o n : Nat) (Y : Nat → ST) (P9 : PG) : va_W := zzW Z z X o n Y 0 0 0 0 (fun _ => 0) (fun _ _ => 0) P9
def Cr {β : Type} (l : Launch) (y : MethodName) (wy : List Cond) (fr lo mc ms : Nat) (D : va_G) (Z : Nat → ClassId) (as : List Value) (pre : va_W) (Rb : β → Prop) (ans : Int32) (post : β → va_W) : Prop :=
  ∀ sz : Nat, Met l y wy { frames := fr, cells := mc, slots := ms, locals := lo } (va_Pc as (PreX D Z sz pre)) (va_Qi (fun r (u : β) => Rb u ∧ r = ans) (fun u => Pst D Z (va_A pre sz) (post u)) (va_A pre sz)) mc ms (va_A pre sz)
abbrev Qr {β : Type} (below : List Frame) (D : va_G) (Z : Nat → ClassId) (A : Nat → Prop) (args : Array Value) (s : State) (Rb : β → Prop) (ans : Int32) (post : β → va_W) (mc ms : Nat) : State → Prop := MQ below (va_Qi (fun r (u : β) => Rb u ∧ r = ans) (fun u => Pst D Z A (post u)) A) args s mc ms A
section NRE
variable {β : Type} {l : Launch} {y : MethodName} {wy wy' : List Cond} {cc : ByteArray} {maxL fr lo mc ms : Nat} {D : va_G} {Z : Nat → ClassId} {as : List Value} {pre : va_W} {Rb : β → Prop} {ans : Int32} {post : β → va_W}
theorem ne_r {ty : FieldType} (hy : plainName y.cls = true) (hw : wy = Cond.code y cc maxL (some ty) :: wy') (hlen : (lg_sl as).length ≤ maxL)
    (body : ∀ (p : Program) (e : Env) (s : State) (m : MethodId) (args : Array Value) (below : List Frame) (meth : Method) (c : Code) (A : Nat → Prop) (ls : Array Slot), CallFix p m c cc maxL s args wy y.cls → meth.sig.returnType = some ty → meth.locks = false → XT A s s.heap → lv_has ls maxL (lv_args 0 as) → Wd D Z A s pre s.heap [] →
      W p l e (rmX fr lo mc ms) s m args below meth c s.heap [] 0 0 (Qr below D Z A args s Rb ans post mc ms) (F0 m 0 ls [])) : Cr l y wy fr lo mc ms D Z as pre Rb ans post := by
  intro sz
  refine Met.ofW (cc := cc) (maxL := maxL) (ret := some ty) hy hw ?_
  intro p e s m args below meth c s₁ B hml hv
  obtain ⟨rfl, ⟨hsz, hP, hK, hD0, hN⟩, hX⟩ := hv
  subst hsz
  have hts := atoms_spec (ws := wy) B.pre
  have hown : s.vm.findClass y.cls = some m.cls := findClass_of_methodNamed B.named
  rw [lg_entry_eq]
  exact body p e s m _ below meth c (va_A pre s.heap.size) _ ⟨B.exec, B.bytes, hml, hown, hts⟩ B.returns B.notSynchronized hX (lv_entry as hlen) ⟨hK, hP, hD0.self, va_S.rf, fun q h => Or.inr h, hN⟩
end NRE
def Scr (bs L : Nat) (xs : Nat → Int32) (A : Nat → Prop) (s : State) : Prop := va_X bs L xs s s.heap ∧ bs < s.heap.size ∧ ¬ A bs ∧ L ≤ 3072
def CLc (l : Launch) (bs L : Nat) (xs : Nat → Int32) (k : Nat) : Prop :=
  ∀ sz : Nat, Met l yL_cell wsL_cell { frames := 0, cells := 0, slots := 0, locals := 0 } (va_Pc [.ref bs, vI k] (fun U => U.heap.size = sz ∧ va_X bs L xs U U.heap ∧ bs < sz)) (va_Qi (fun _ (_ : Unit) => True) (fun _ _ => True) (va_A [] sz)) 0 0 (va_A [] sz)
section NRR
variable {p : Program} {l : Launch} {e : Env} {R : Room} {s : State} {m : MethodId} {args : Array Value} {below : List Frame} {meth : Method} {c : Code} {H : Heap} {locs : List Loc} {cells slots mc ms : Nat} {Q : State → Prop} {cc : ByteArray} {pc nL : Nat} {ls : Array Slot} {rest st0 : List Value} {Ts : List Cond} {own : String} {D : va_G} {Z : Nat → ClassId} {A : Nat → Prop} {ws ws' wc wp X0 Y0 pre : va_W}
theorem nr_iret {β : Type} {Rb : β → Prop} {ans v : Int32} {post : β → va_W} {ty : FieldType} (S : CallFix p m c cc nL s args Ts own) (w : Wd D Z A s ws H locs) (hr : meth.sig.returnType = some ty) (hlocks : meth.locks = false) (hn : narrow ty (.int v) = .int v) (u : β) (hu : Rb u) (hans : v = ans) (hpost : ws = post u) (hc : cells ≤ mc) (hs : slots ≤ ms) (hdg : decode cc pc = .ok (.ireturn, 1)) : W p l e R s m args below meth c H locs cells slots (Qr below D Z A args s Rb ans post mc ms) (F0 m pc ls [.int v]) := by
  subst hans; subst hpost
  exact W.widen hc hs (W.zret S.1 S.2.1 hr hn (fun t ht hW => ⟨⟨_, u, rfl, ⟨hu, rfl⟩, by rw [ht]; exact w.2.1, va_K.moved hW.alike w.1, w.2.2.1⟩, w.2.2.2.1.F ht⟩) w.2.2.2.1.2.2 hdg hlocks)
variable {y : MethodName} {wy wy' : List Cond} {bytes : ByteArray} {maxL fr lo index : Nat} {As : List Value} {ret : Option FieldType}
theorem nx_nVi (X0 Y0 : va_W) (S : CallFix p m c cc nL s args Ts own) (w : Wd D Z A s ws H locs) (X : XT A s s.heap) (hsz : ls.size = nL) {C : String} {T : u_T} {N b ci q0 n mc1 ms1 : Nat} {fs : List Value} {ans : Int32} (hM : Xi l y wy fr lo mc1 ms1 D Z (.ref b :: As) wc none ans wp) (hsp : X0 ++ (wc ++ Y0) = ws) (hadr : wp.map (fun q => q.1) = wc.map (fun q => q.1)) (hw : X0 ++ (wp ++ Y0) = ws') (hT : GoodIn Ts (wsV own index C y wy)) (hy : wy = Cond.code y bytes maxL ret :: wy') (hd : y.cls = C ∧ y.cls ≠ "java/lang/invoke/MethodHandle" ∧ y.cls ≠ "java/lang/invoke/VarHandle" ∧ (parseMethodDescriptor y.desc).map (fun d => d.parameters.length) = some n) (hRm : fr + 1 ≤ R.frames ∧ 8 + (maxL + 11) + lo ≤ R.locals) (he : wc[q0]? = some (b, .inr (ci, fs))) (hc : vwCl[ci]? = some (C, T, N)) (hlen : As.length = n) (hst : st0 = As.reverse ++ .ref b :: rest) (hsum : (rest.map fun v => v.category).sum ≤ 8) (hf : cells + mc1 ≤ R.cells ∧ slots + ms1 ≤ R.slots) (hdg : decode cc pc = .ok (.invokevirtual index, 3))
    (kk : ∀ (H1 : Heap) (locs1 : List Loc), Wd D Z A s ws' H1 locs1 → W p l e R s m args below meth c H1 locs1 (cells + mc1) (slots + ms1) Q (F0 m (pc + 3) ls (.int ans :: rest))) : W p l e R s m args below meth c H locs cells slots Q (F0 m pc ls st0) :=
  nx_fVi X0 Y0 S w X hsz hM hsp hadr hw hT hy hd hRm he hc hlen hst hsum hf hdg (fun E ce q9 H1 locs1 hE _ _ _ _ => by cases hE) (fun _ H1 locs1 w1 => kk H1 locs1 w1)
theorem nr_S {β : Type} {Rb : β → Prop} {ans : Int32} {post : β → va_W} (X0 Y0 : va_W) (S : CallFix p m c cc nL s args Ts own) (w : Wd D Z A s ws H locs) (X : XT A s s.heap) (hsz : ls.size = nL) {n mc1 ms1 : Nat} (hM : Cr l y wy fr lo mc1 ms1 D Z As wc Rb ans post) (hsp : X0 ++ (wc ++ Y0) = ws) (hadr : ∀ u, (post u).map (fun q => q.1) = wc.map (fun q => q.1)) (hT : GoodIn Ts (va_wsS own index y wy)) (hy : wy = Cond.code y bytes maxL ret :: wy') (hd : y.cls ≠ "java/lang/invoke/MethodHandle" ∧ y.cls ≠ "java/lang/invoke/VarHandle" ∧ (parseMethodDescriptor y.desc).map (fun d => d.parameters.length) = some n) (hRm : fr + 1 ≤ R.frames ∧ 8 + (maxL + 11) + lo ≤ R.locals) (hlen : As.length = n) (hst : st0 = As.reverse ++ rest) (hsum : (rest.map fun v => v.category).sum ≤ 8) (hf : cells + mc1 ≤ R.cells ∧ slots + ms1 ≤ R.slots) (hdg : decode cc pc = .ok (.invokestatic index, 3))
    (kk : ∀ u, Rb u → ∀ (H1 : Heap) (locs1 : List Loc), Wd D Z A s (X0 ++ (post u ++ Y0)) H1 locs1 → W p l e R s m args below meth c H1 locs1 (cells + mc1) (slots + ms1) Q (F0 m (pc + 3) ls (.int ans :: rest))) : W p l e R s m args below meth c H locs cells slots Q (F0 m pc ls st0) := by
  have w := w.as hsp.symm
  obtain ⟨hP, hD, hF⟩ := w.blk
  have hPV : PreS s H (va_Pc As (PreX D Z H.size wc)) As := ⟨fb_PreX, fun U hU hW => ⟨rfl, ((w.pre (As := As) hP hD).2 U hU hW).2, by rw [hU]; exact X.warm hW w.2.2.2.1.2.1 hF⟩⟩
  refine va_calli (va_runS (n := n) S (hM H.size) (va_cwS n S.2.2.2.2 hT hy rfl rfl hd hRm) hPV rfl hlen hsz hst (lv_room hsum) hdg hf) w.2.2.2.1 (fun q _ h => hF q h) hF (fun r u t H1 locs1 ht hvm hpost hB hz hk hS1 => ?_)
  obtain ⟨hu, rfl⟩ := hpost
  exact kk u hu H1 locs1 (w.glueF (hadr u) ht hB hk hS1)
theorem fb_cell {bs L sz : Nat} {xs : Nat → Int32} {as : List Value} : FrameBlind (va_Pc as (fun U => U.heap.size = sz ∧ va_X bs L xs U U.heap ∧ bs < sz)) := by
  intro a U g mk q
  obtain ⟨q0, q1, q2, q3⟩ := q
  exact ⟨q0, q1, va_X.moved (u := U) (U := U.calling g mk a) (Vm.Alike.refl U.vm) q2, q3⟩
theorem nr_cell {bs L k : Nat} {xs : Nat → Int32} (S : CallFix p m c cc nL s args Ts own) (w : Wd D Z A s ws H locs) (h : Scr bs L xs A s) (hsz : ls.size = nL) (hM : CLc l bs L xs k) (hT : GoodIn Ts (va_wsS own index yL_cell wsL_cell)) (hRm : 1 ≤ R.frames ∧ 21 ≤ R.locals) (hsum : (rest.map fun v => v.category).sum ≤ 8) (hf : cells ≤ R.cells ∧ slots ≤ R.slots) (hdg : decode cc pc = .ok (.invokestatic index, 3))
    (kk : ∀ (x : Int32) (H1 : Heap) (locs1 : List Loc), Wd D Z A s ws H1 locs1 → W p l e R s m args below meth c H1 locs1 cells slots Q (F0 m (pc + 3) ls (.int x :: rest))) : W p l e R s m args below meth c H locs cells slots Q (F0 m pc ls (vI k :: .ref bs :: rest)) := by
  have hX1 : va_X bs L xs s H := h.1.kept (w.2.2.2.1.2.1 bs h.2.1 h.2.2.1)
  have hPV : PreS s H (va_Pc [.ref bs, vI k] (fun U => U.heap.size = H.size ∧ va_X bs L xs U U.heap ∧ bs < H.size)) [.ref bs, vI k] :=
    ⟨fb_cell, fun U hU hW => ⟨rfl, by rw [hU], by rw [hU]; exact va_X.moved hW.alike hX1, Nat.lt_of_lt_of_le h.2.1 w.2.2.2.1.1⟩⟩
  refine va_calli (va_runS (n := 2) S (hM H.size) (va_cwS 2 S.2.2.2.2 hT rfl rfl rfl (by decide +kernel) hRm) hPV rfl rfl hsz rfl (lv_room hsum) hdg hf) w.2.2.2.1 (fun q _ h => w.free0 q h) w.free0 (fun r u t H1 locs1 ht hvm hpost hB hz hk hS1 => ?_)
  exact kk r H1 locs1 (w.glue0 hk hS1)
theorem nl_d (X Y : va_W) (S : CallFix p m c cc nL s args Ts own) (w : Wd D Z A s ws H locs) (hsz : ls.size = nL) {C : String} {T : u_T} {N b ci q0 n : Nat} {fs : List Value} {ans : UInt64} (hM : Cd l y wy fr lo D Z (.ref b :: As) wc ans wp) (hsp : X ++ (wc ++ Y) = ws) (hadr : wp.map (fun q => q.1) = wc.map (fun q => q.1)) (hw : X ++ (wp ++ Y) = ws') (hT : GoodIn Ts (wsV own index C y wy)) (hy : wy = Cond.code y bytes maxL ret :: wy') (hd : y.cls = C ∧ y.cls ≠ "java/lang/invoke/MethodHandle" ∧ y.cls ≠ "java/lang/invoke/VarHandle" ∧ (parseMethodDescriptor y.desc).map (fun d => d.parameters.length) = some n) (hRm : fr + 1 ≤ R.frames ∧ 8 + (maxL + 11) + lo ≤ R.locals) (he : wc[q0]? = some (b, .inr (ci, fs))) (hc : vwCl[ci]? = some (C, T, N)) (hlen : As.length = n) (hst : st0 = As.reverse ++ .ref b :: rest) (hsum : (rest.map fun v => v.category).sum ≤ 8) (hf : cells ≤ R.cells ∧ slots ≤ R.slots) (hdg : decode cc pc = .ok (.invokevirtual index, 3))
    (kk : ∀ (H1 : Heap) (locs1 : List Loc), Wd D Z A s ws' H1 locs1 → W p l e R s m args below meth c H1 locs1 cells slots Q (F0 m (pc + 3) ls (.double ans :: rest))) : W p l e R s m args below meth c H locs cells slots Q (F0 m pc ls st0) := by
  have w := w.as hsp.symm
  obtain ⟨hP, hD, hF⟩ := w.blk
  refine va_calld (va_runV (C := C) (n := n) S (hM H.size) (cwV n S.2.2.2.2 hT hy rfl rfl hd hRm) ⟨fb_Pre, va_recv w.1 hP hc he, (w.pre hP hD).2⟩ rfl hlen hsz hst (lv_room hsum) hdg hf) w.2.2.2.1 (fun q _ h => hF q h) hF (fun r u t H1 locs1 ht hvm hpost hB hz hk hS1 => ?_)
  obtain rfl := hpost; exact kk H1 locs1 (hw ▸ Wd.glueF w hadr ht hB hk hS1)
end NRR
theorem c_L_cell (l : Launch) (bs L : Nat) (xs : Nat → Int32) (k : Nat) (hL : L ≤ 3072) (hk : k < 1000) : CLc l bs L xs k := by
  intro sz
  refine Met.ofW (cc := cL_cell) (maxL := 2) (ret := some .int) (by decide +kernel) rfl ?_
  intro p e s m args below meth c s₁ B hml hv
  obtain ⟨rfl, hsz, hX, hbs⟩ := hv
  subst hsz
  have hts := atoms_spec (ws := wsL_cell) B.pre
  have hown : s.vm.findClass yL_cell.cls = some m.cls := findClass_of_methodNamed B.named
  have S : CallFix p m c cL_cell 2 s [Value.ref bs, vI k].toArray wsL_cell RL := ⟨B.exec, B.bytes, hml, hown, hts⟩
  have hr : meth.sig.returnType = some .int := B.returns
  have hlocks : meth.locks = false := B.notSynchronized
  have hA : ¬ va_A [] s.heap.size bs := fun h => by
    rcases h with ⟨j, e9, h⟩ | h
    · simp at h
    · exact absurd h (Nat.not_le.mpr hbs)
  have hS : va_S (va_A [] s.heap.size) s.heap s.heap [] := va_S.rf
  have hl := lv_entry ([.ref bs, vI k]) (n := 2) (Nat.le_of_ble_eq_true rfl)
  rw [lg_entry_eq]
  generalize (lg_sl ([.ref bs, vI k]) ++ List.replicate (2 - (lg_sl ([.ref bs, vI k])).length) Slot.unset).toArray = ls at hl ⊢
  have hl : lv_has ls 2 [(0, .ref bs), (1, vI k)] := hl
  have fin : ∀ v : Int32, W p l e { frames := 0, cells := 0, slots := 0, locals := 0 } s m [Value.ref bs, vI k].toArray below meth c s.heap [] 0 0 (MQ below (va_Qi (fun _ (_ : Unit) => True) (fun _ _ => True) (va_A [] s.heap.size)) [Value.ref bs, vI k].toArray s 0 0 (va_A [] s.heap.size)) (F0 m 20 ls [.int v]) := fun v =>
    W.zret S.1 S.2.1 hr rfl (fun t ht hW => ⟨⟨v, (), rfl, trivial, trivial⟩, hS.F ht⟩) hS.2.2 dL_cell_20 hlocks
  refine lv_iload_n S.1 S.2.1 dL_cell_0 rfl (lv_at hl 1 rfl) ?_
  refine lv_aload_n S.1 S.2.1 dL_cell_1 rfl (lv_at hl 0 rfl) ?_
  refine va_slen S.1 S.2.1 hX hbs hA hS dL_cell_2 ?_
  refine nv_icmp_ge (tgt := 12) S (by omega) (by omega) dL_cell_3 (by decide) (fun h => ?_) (fun h => ?_)
  · refine lv_ldc (v := 1116352408) S.1 S.2.1 S.2.2.2.1 (S.2.2.2.2 _ (by decide +kernel)) dL_cell_12 ?_
    refine lv_iload_n S.1 S.2.1 dL_cell_14 rfl (lv_at hl 1 rfl) ?_
    refine lv_sipush (v := nI 613) S.1 S.2.1 dL_cell_15 (by decide +kernel) ?_
    refine lv_iadd S.1 S.2.1 dL_cell_18 ?_
    refine lv_imul S.1 S.2.1 dL_cell_19 ?_
    exact fin _
  · refine lv_aload_n S.1 S.2.1 dL_cell_6 rfl (lv_at hl 0 rfl) ?_
    refine lv_iload_n S.1 S.2.1 dL_cell_7 rfl (lv_at hl 1 rfl) ?_
    refine va_sld S.1 S.2.1 hX hbs hA hS (vp_in_nI (by omega) (by omega)) dL_cell_8 ?_
    refine lv_goto (tgt := 20) S.1 S.2.1 dL_cell_9 (by decide) ?_
    exact fin _
def upA (x : Int32) : Nat := (x &&& nI 2147483647).toBitVec.toNat
theorem upA_lt (x : Int32) : upA x < 2 ^ 31 := by
  unfold upA
  rw [Int32.toBitVec_and, BitVec.toNat_and]
  have : (nI 2147483647).toBitVec.toNat = 2147483647 := by decide
  rw [this]
  exact Nat.lt_of_le_of_lt Nat.and_le_right (by decide)
theorem upA_eq (x : Int32) : x &&& nI 2147483647 = nI (upA x) := by
  apply Int32.toBitVec_inj.1
  show _ = BitVec.ofNat 32 _
  unfold upA
  rw [BitVec.ofNat_toNat, BitVec.setWidth_eq]
def upN (x : Int32) (n : Nat) : Nat := upA x % n
theorem upN_lt {x : Int32} {n : Nat} (h : 0 < n) : upN x n < n := Nat.mod_lt _ h
theorem and3 (x : Int32) : ∃ k, k < 4 ∧ x &&& nI 3 = nI k := by
  refine ⟨(x &&& nI 3).toBitVec.toNat, ?_, ?_⟩
  · rw [Int32.toBitVec_and, BitVec.toNat_and]
    have : (nI 3).toBitVec.toNat = 3 := by decide
    rw [this]
    exact Nat.lt_of_le_of_lt Nat.and_le_right (by decide)
  · apply Int32.toBitVec_inj.1
    show _ = BitVec.ofNat 32 _
    rw [BitVec.ofNat_toNat, BitVec.setWidth_eq]
theorem dc_self : ∀ k, k < 61 → Op.cmpValue (FP.dcmp (FP.ddiv (FP.i2d (nI k)) 4616189618054758400) (FP.ddiv (FP.i2d (nI k)) 4616189618054758400)) .l = 0 := by decide +kernel
