theorem hn_X3_passTicks_6 : ∀ w ∈ wsX60, w ∈ wsX3_passTicks := by decide +kernel
theorem hdV_X3_passTick : yX3_passTick.cls = RX3 ∧ yX3_passTick.cls ≠ "java/lang/invoke/MethodHandle" ∧ yX3_passTick.cls ≠ "java/lang/invoke/VarHandle" ∧ (parseMethodDescriptor yX3_passTick.desc).map (fun d => d.parameters.length) = some 1 := by decide +kernel
theorem hn_X3_passTicks_3 : ∀ w ∈ wsX30, w ∈ wsX3_passTicks := by decide +kernel
set_option maxRecDepth 100000 in
set_option maxHeartbeats 4000000 in
theorem k_X3_passTicks (l : Launch) (D : va_G) (Z : Nat → ClassId) (a : Nat → Nat) (P : PG) (q9 qc qw qo : Nat) (G : SG) (n : Nat) (hs : SB G) (hp : PB G P) (hn : n < 2 ^ 31) {p : Program} {e : Env} {s : State} {m : MethodId} {args : Array Value} {below : List Frame} {meth : Method} {c : Code} {A : Nat → Prop} (S : CallFix p m c cX3_passTicks 9 s args wsX3_passTicks RX3) (hr : meth.sig.returnType = (some .int)) (hlocks : meth.locks = false) : ∀ (n9 : Nat), (∀ (k i : Nat) (x : Int32) (hk : k < n) (hi4 : i ≤ 4) (ex : x = hs4 (hsN G P k) (tkN G P (k + 1)).2 i) (hm : 7 * (n - k) + (4 - i) < n9), ∀ (H : Heap) (locs : List Loc) (ls : Array Slot) (hl : lv_has ls 9 [(0, .ref (a 0)), (1, .ref q9), (2, vI n), (3, .int x), (4, vI k), (5, .ref (a 1)), (6, vI 4), (7, vI i)]) (w : Wd D Z A s (plB Z a (tkN G P (k + 1)) ++ songB Z q9 qc qw qo G) H locs), W p l e (rmO 5 117) s m args below meth c H locs 0 0 (Qi below D Z A args s (hsN G P n) (plB Z a (tkN G P n) ++ songB Z q9 qc qw qo G)) (F0 m 31 ls [])) ∧ (∀ (k : Nat) (x : Int32) (hk : k ≤ n) (ex : x = hsN G P k) (hm : 7 * (n - k) + 6 < n9), ∀ (H : Heap) (locs : List Loc) (ls : Array Slot) (hl : lv_has ls 9 [(0, .ref (a 0)), (1, .ref q9), (2, vI n), (3, .int x), (4, vI k)]) (w : Wd D Z A s (plB Z a (tkN G P k) ++ songB Z q9 qc qw qo G) H locs), W p l e (rmO 5 117) s m args below meth c H locs 0 0 (Qi below D Z A args s (hsN G P n) (plB Z a (tkN G P n) ++ songB Z q9 qc qw qo G)) (F0 m 6 ls [])) := by
  intro n9
  induction n9 with
  | zero => exact ⟨fun k i x hk hi4 ex hm => absurd hm (Nat.not_lt_zero _), fun k x hk ex hm => absurd hm (Nat.not_lt_zero _)⟩
  | succ n9 ih =>
    refine ⟨?_, ?_⟩
    · intro k i x hk hi4 ex hm H locs ls hl w
      refine lv_iload S.1 S.2.1 dX3_passTicks_31 (lv_at hl 7 rfl) ?_
      refine lv_iload S.1 S.2.1 dX3_passTicks_33 (lv_at hl 6 rfl) ?_
      refine nv_icmp_ge S (by omega) (by omega) (tgt := 62) dX3_passTicks_35 (by decide) (fun h_1 => ?_) (fun h_1 => ?_)
      · skip
        refine lv_iinc (v := nI (k + 1)) (lv' := [(4, vI (k + 1)), (0, .ref (a 0)), (1, .ref q9), (2, vI n), (3, .int x), (5, .ref (a 1)), (6, vI 4), (7, vI i)]) S.1 S.2.1 dX3_passTicks_62 hl (k := 4) rfl (nI_incI k 1) (by decide) rfl (fun ls hl => ?_)
        refine lv_goto (tgt := 6) S.1 S.2.1 dX3_passTicks_65 (by decide) ?_
        exact (ih).2 (k + 1) x (by omega) (by rw [ex, show i = 4 by omega]; rfl) (by omega) _ _ _ (lv_sub hl [1, 2, 3, 4, 0] rfl) w
      · skip
        rcases (show i = 0 ∨ i = 1 ∨ i = 2 ∨ i = 3 by omega) with rfl | rfl | rfl | rfl
        · skip
          refine lv_aload S.1 S.2.1 dX3_passTicks_38 (lv_at hl 5 rfl) ?_
          refine lv_iload S.1 S.2.1 dX3_passTicks_40 (lv_at hl 7 rfl) ?_
          refine nv_aald S w (i := 0) (q := (a 2)) 1 3 rfl rfl (by omega) (by decide) rfl dX3_passTicks_42 ?_
          refine lv_astore (lv' := [(8, .ref (a 2)), (0, .ref (a 0)), (1, .ref q9), (2, vI n), (3, .int x), (4, vI k), (5, .ref (a 1)), (6, vI 4), (7, vI 0)]) S.1 S.2.1 dX3_passTicks_43 hl (by decide) rfl (fun ls hl => ?_)
          refine lv_bipush (v := nI 31) S.1 S.2.1 dX3_passTicks_45 (by decide +kernel) ?_
          refine lv_iload_n S.1 S.2.1 dX3_passTicks_47 rfl (lv_at hl 4 rfl) ?_
          refine lv_imul S.1 S.2.1 dX3_passTicks_48 ?_
          refine lv_aload S.1 S.2.1 dX3_passTicks_49 (lv_at hl 0 rfl) ?_
          refine nv_get S w (C := RX6) (T := TX6) (N := 9) hn_X3_passTicks_6 2 rfl rfl 4 (by decide) (List.mem_of_getElem? (i := 2) rfl) (v := vI ((((tkN G P (k + 1)).2) 0) 11)) rfl dX3_passTicks_51 ?_
          refine lv_iadd S.1 S.2.1 dX3_passTicks_54 ?_
          refine lv_istore_n (lv' := [(3, .int (((nI 31) * x) + (nI ((((tkN G P (k + 1)).2) 0) 11)))), (8, .ref (a 2)), (0, .ref (a 0)), (1, .ref q9), (2, vI n), (4, vI k), (5, .ref (a 1)), (6, vI 4), (7, vI 0)]) S.1 S.2.1 dX3_passTicks_55 rfl hl (by decide) rfl (fun ls hl => ?_)
          refine lv_iinc (v := nI 1) (lv' := [(7, vI 1), (3, .int (((nI 31) * x) + (nI ((((tkN G P (k + 1)).2) 0) 11)))), (8, .ref (a 2)), (0, .ref (a 0)), (1, .ref q9), (2, vI n), (4, vI k), (5, .ref (a 1)), (6, vI 4)]) S.1 S.2.1 dX3_passTicks_56 hl (k := 8) rfl (nI_incI 0 1) (by decide) rfl (fun ls hl => ?_)
          refine lv_goto (tgt := 31) S.1 S.2.1 dX3_passTicks_59 (by decide) ?_
          exact (ih).1 k 1 (((nI 31) * x) + (nI ((((tkN G P (k + 1)).2) 0) 11))) (by omega) (by omega) (by rw [ex]; rfl) (by omega) _ _ _ (lv_sub hl [3, 4, 5, 1, 6, 7, 8, 0] rfl) (w.as rfl)
        · skip
          refine lv_aload S.1 S.2.1 dX3_passTicks_38 (lv_at hl 5 rfl) ?_
          refine lv_iload S.1 S.2.1 dX3_passTicks_40 (lv_at hl 7 rfl) ?_
          refine nv_aald S w (i := 1) (q := (a 5)) 1 3 rfl rfl (by omega) (by decide) rfl dX3_passTicks_42 ?_
          refine lv_astore (lv' := [(8, .ref (a 5)), (0, .ref (a 0)), (1, .ref q9), (2, vI n), (3, .int x), (4, vI k), (5, .ref (a 1)), (6, vI 4), (7, vI 1)]) S.1 S.2.1 dX3_passTicks_43 hl (by decide) rfl (fun ls hl => ?_)
          refine lv_bipush (v := nI 31) S.1 S.2.1 dX3_passTicks_45 (by decide +kernel) ?_
          refine lv_iload_n S.1 S.2.1 dX3_passTicks_47 rfl (lv_at hl 4 rfl) ?_
          refine lv_imul S.1 S.2.1 dX3_passTicks_48 ?_
          refine lv_aload S.1 S.2.1 dX3_passTicks_49 (lv_at hl 0 rfl) ?_
          refine nv_get S w (C := RX6) (T := TX6) (N := 9) hn_X3_passTicks_6 5 rfl rfl 4 (by decide) (List.mem_of_getElem? (i := 2) rfl) (v := vI ((((tkN G P (k + 1)).2) 1) 11)) rfl dX3_passTicks_51 ?_
          refine lv_iadd S.1 S.2.1 dX3_passTicks_54 ?_
          refine lv_istore_n (lv' := [(3, .int (((nI 31) * x) + (nI ((((tkN G P (k + 1)).2) 1) 11)))), (8, .ref (a 5)), (0, .ref (a 0)), (1, .ref q9), (2, vI n), (4, vI k), (5, .ref (a 1)), (6, vI 4), (7, vI 1)]) S.1 S.2.1 dX3_passTicks_55 rfl hl (by decide) rfl (fun ls hl => ?_)
          refine lv_iinc (v := nI 2) (lv' := [(7, vI 2), (3, .int (((nI 31) * x) + (nI ((((tkN G P (k + 1)).2) 1) 11)))), (8, .ref (a 5)), (0, .ref (a 0)), (1, .ref q9), (2, vI n), (4, vI k), (5, .ref (a 1)), (6, vI 4)]) S.1 S.2.1 dX3_passTicks_56 hl (k := 8) rfl (nI_incI 1 1) (by decide) rfl (fun ls hl => ?_)
          refine lv_goto (tgt := 31) S.1 S.2.1 dX3_passTicks_59 (by decide) ?_
          exact (ih).1 k 2 (((nI 31) * x) + (nI ((((tkN G P (k + 1)).2) 1) 11))) (by omega) (by omega) (by rw [ex]; rfl) (by omega) _ _ _ (lv_sub hl [3, 4, 5, 1, 6, 7, 8, 0] rfl) (w.as rfl)
        · skip
          refine lv_aload S.1 S.2.1 dX3_passTicks_38 (lv_at hl 5 rfl) ?_
          refine lv_iload S.1 S.2.1 dX3_passTicks_40 (lv_at hl 7 rfl) ?_
          refine nv_aald S w (i := 2) (q := (a 8)) 1 3 rfl rfl (by omega) (by decide) rfl dX3_passTicks_42 ?_
          refine lv_astore (lv' := [(8, .ref (a 8)), (0, .ref (a 0)), (1, .ref q9), (2, vI n), (3, .int x), (4, vI k), (5, .ref (a 1)), (6, vI 4), (7, vI 2)]) S.1 S.2.1 dX3_passTicks_43 hl (by decide) rfl (fun ls hl => ?_)
          refine lv_bipush (v := nI 31) S.1 S.2.1 dX3_passTicks_45 (by decide +kernel) ?_
          refine lv_iload_n S.1 S.2.1 dX3_passTicks_47 rfl (lv_at hl 4 rfl) ?_
          refine lv_imul S.1 S.2.1 dX3_passTicks_48 ?_
          refine lv_aload S.1 S.2.1 dX3_passTicks_49 (lv_at hl 0 rfl) ?_
          refine nv_get S w (C := RX6) (T := TX6) (N := 9) hn_X3_passTicks_6 8 rfl rfl 4 (by decide) (List.mem_of_getElem? (i := 2) rfl) (v := vI ((((tkN G P (k + 1)).2) 2) 11)) rfl dX3_passTicks_51 ?_
          refine lv_iadd S.1 S.2.1 dX3_passTicks_54 ?_
          refine lv_istore_n (lv' := [(3, .int (((nI 31) * x) + (nI ((((tkN G P (k + 1)).2) 2) 11)))), (8, .ref (a 8)), (0, .ref (a 0)), (1, .ref q9), (2, vI n), (4, vI k), (5, .ref (a 1)), (6, vI 4), (7, vI 2)]) S.1 S.2.1 dX3_passTicks_55 rfl hl (by decide) rfl (fun ls hl => ?_)
          refine lv_iinc (v := nI 3) (lv' := [(7, vI 3), (3, .int (((nI 31) * x) + (nI ((((tkN G P (k + 1)).2) 2) 11)))), (8, .ref (a 8)), (0, .ref (a 0)), (1, .ref q9), (2, vI n), (4, vI k), (5, .ref (a 1)), (6, vI 4)]) S.1 S.2.1 dX3_passTicks_56 hl (k := 8) rfl (nI_incI 2 1) (by decide) rfl (fun ls hl => ?_)
          refine lv_goto (tgt := 31) S.1 S.2.1 dX3_passTicks_59 (by decide) ?_
          exact (ih).1 k 3 (((nI 31) * x) + (nI ((((tkN G P (k + 1)).2) 2) 11))) (by omega) (by omega) (by rw [ex]; rfl) (by omega) _ _ _ (lv_sub hl [3, 4, 5, 1, 6, 7, 8, 0] rfl) (w.as rfl)
        · skip
          refine lv_aload S.1 S.2.1 dX3_passTicks_38 (lv_at hl 5 rfl) ?_
          refine lv_iload S.1 S.2.1 dX3_passTicks_40 (lv_at hl 7 rfl) ?_
          refine nv_aald S w (i := 3) (q := (a 11)) 1 3 rfl rfl (by omega) (by decide) rfl dX3_passTicks_42 ?_
          refine lv_astore (lv' := [(8, .ref (a 11)), (0, .ref (a 0)), (1, .ref q9), (2, vI n), (3, .int x), (4, vI k), (5, .ref (a 1)), (6, vI 4), (7, vI 3)]) S.1 S.2.1 dX3_passTicks_43 hl (by decide) rfl (fun ls hl => ?_)
          refine lv_bipush (v := nI 31) S.1 S.2.1 dX3_passTicks_45 (by decide +kernel) ?_
          refine lv_iload_n S.1 S.2.1 dX3_passTicks_47 rfl (lv_at hl 4 rfl) ?_
          refine lv_imul S.1 S.2.1 dX3_passTicks_48 ?_
          refine lv_aload S.1 S.2.1 dX3_passTicks_49 (lv_at hl 0 rfl) ?_
          refine nv_get S w (C := RX6) (T := TX6) (N := 9) hn_X3_passTicks_6 11 rfl rfl 4 (by decide) (List.mem_of_getElem? (i := 2) rfl) (v := vI ((((tkN G P (k + 1)).2) 3) 11)) rfl dX3_passTicks_51 ?_
          refine lv_iadd S.1 S.2.1 dX3_passTicks_54 ?_
          refine lv_istore_n (lv' := [(3, .int (((nI 31) * x) + (nI ((((tkN G P (k + 1)).2) 3) 11)))), (8, .ref (a 11)), (0, .ref (a 0)), (1, .ref q9), (2, vI n), (4, vI k), (5, .ref (a 1)), (6, vI 4), (7, vI 3)]) S.1 S.2.1 dX3_passTicks_55 rfl hl (by decide) rfl (fun ls hl => ?_)
          refine lv_iinc (v := nI 4) (lv' := [(7, vI 4), (3, .int (((nI 31) * x) + (nI ((((tkN G P (k + 1)).2) 3) 11)))), (8, .ref (a 11)), (0, .ref (a 0)), (1, .ref q9), (2, vI n), (4, vI k), (5, .ref (a 1)), (6, vI 4)]) S.1 S.2.1 dX3_passTicks_56 hl (k := 8) rfl (nI_incI 3 1) (by decide) rfl (fun ls hl => ?_)
          refine lv_goto (tgt := 31) S.1 S.2.1 dX3_passTicks_59 (by decide) ?_
          exact (ih).1 k 4 (((nI 31) * x) + (nI ((((tkN G P (k + 1)).2) 3) 11))) (by omega) (by omega) (by rw [ex]; rfl) (by omega) _ _ _ (lv_sub hl [3, 4, 5, 1, 6, 7, 8, 0] rfl) (w.as rfl)
    · intro k x hk ex hm H locs ls hl w
      refine lv_iload S.1 S.2.1 dX3_passTicks_6 (lv_at hl 4 rfl) ?_
      refine lv_iload_n S.1 S.2.1 dX3_passTicks_8 rfl (lv_at hl 2 rfl) ?_
      refine nv_icmp_ge S (by omega) (by omega) (tgt := 68) dX3_passTicks_9 (by decide) (fun h_2 => ?_) (fun h_2 => ?_)
      · skip
        refine lv_iload_n S.1 S.2.1 dX3_passTicks_68 rfl (lv_at hl 3 rfl) ?_
        exact nv_iret S w hr hlocks rfl (by rw [ex, show k = n by omega]) (by rw [show k = n by omega]) dX3_passTicks_69
      · skip
        refine lv_aload_n S.1 S.2.1 dX3_passTicks_12 rfl (lv_at hl 0 rfl) ?_
        refine lv_aload_n S.1 S.2.1 dX3_passTicks_13 rfl (lv_at hl 1 rfl) ?_
        refine nv_fVv (rest := []) ([]) ([]) (ws' := plB Z a (tkP G (tkN G P k)) ++ songB Z q9 qc qw qo G) S w hl.1 (c_X3_passTick l D Z a (tkN G P k) q9 qc qw qo G hs (tkN_PB hs hp k)) (by simp only [List.append_assoc, List.nil_append, List.append_nil]) rfl (by simp only [List.append_assoc, List.nil_append, List.append_nil]) gX3_passTicks_X3_passTick rfl hdV_X3_passTick ⟨Nat.le_of_ble_eq_true rfl, Nat.le_of_ble_eq_true rfl⟩ (q0 := 0) rfl rfl rfl rfl (Nat.le_of_ble_eq_true rfl) ⟨Nat.zero_le _, Nat.zero_le _⟩ dX3_passTicks_14 (fun H locs w => ?_)
        refine lv_aload_n S.1 S.2.1 dX3_passTicks_17 rfl (lv_at hl 0 rfl) ?_
        refine nv_get S w (C := RX3) (T := TX3) (N := 7) hn_X3_passTicks_3 0 rfl rfl 6 (by decide) (List.mem_of_getElem? (i := 1) rfl) (v := .ref (a 1)) rfl dX3_passTicks_18 ?_
        refine lv_astore (lv' := [(5, .ref (a 1)), (0, .ref (a 0)), (1, .ref q9), (2, vI n), (3, .int x), (4, vI k)]) S.1 S.2.1 dX3_passTicks_21 hl (by decide) rfl (fun ls hl => ?_)
        refine lv_aload S.1 S.2.1 dX3_passTicks_23 (lv_at hl 0 rfl) ?_
        refine nv_alen S w 1 3 rfl rfl (n := 4) rfl dX3_passTicks_25 ?_
        refine lv_istore (lv' := [(6, vI 4), (5, .ref (a 1)), (0, .ref (a 0)), (1, .ref q9), (2, vI n), (3, .int x), (4, vI k)]) S.1 S.2.1 dX3_passTicks_26 hl (by decide) rfl (fun ls hl => ?_)
        refine lv_iconst (v := nI 0) S.1 S.2.1 dX3_passTicks_28 (ofInt_nI 0) ?_
        refine lv_istore (lv' := [(7, vI 0), (6, vI 4), (5, .ref (a 1)), (0, .ref (a 0)), (1, .ref q9), (2, vI n), (3, .int x), (4, vI k)]) S.1 S.2.1 dX3_passTicks_29 hl (by decide) rfl (fun ls hl => ?_)
        exact (ih).1 k 0 x (by omega) (by omega) ex (by omega) _ _ _ (lv_sub hl [3, 4, 5, 6, 7, 2, 1, 0] rfl) (w.as rfl)
set_option maxRecDepth 100000 in
set_option maxHeartbeats 4000000 in
theorem c_X3_passTicks (l : Launch) (D : va_G) (Z : Nat → ClassId) (a : Nat → Nat) (P : PG) (q9 qc qw qo : Nat) (G : SG) (n : Nat) (hs : SB G) (hp : PB G P) (hn : n < 2 ^ 31) : Ci l yX3_passTicks wsX3_passTicks 5 117 D Z [.ref (a 0), .ref q9, vI n] (plB Z a P ++ songB Z q9 qc qw qo G) (hsN G P n) (plB Z a (tkN G P n) ++ songB Z q9 qc qw qo G) := by
  refine ne_i (cc := cX3_passTicks) (maxL := 9) (by decide +kernel) rfl (Nat.le_of_ble_eq_true rfl) (fun p e s m args below meth c A ls (S : CallFix p m c cX3_passTicks 9 s args wsX3_passTicks RX3) hr hlocks hl w => ?_)
  have hl : lv_has ls 9 [(0, .ref (a 0)), (1, .ref q9), (2, vI n)] := hl
  refine lv_bipush (v := nI 17) S.1 S.2.1 dX3_passTicks_0 (by decide +kernel) ?_
  refine lv_istore_n (lv' := [(3, vI 17), (0, .ref (a 0)), (1, .ref q9), (2, vI n)]) S.1 S.2.1 dX3_passTicks_2 rfl hl (by decide) rfl (fun ls hl => ?_)
  refine lv_iconst (v := nI 0) S.1 S.2.1 dX3_passTicks_3 (ofInt_nI 0) ?_
  refine lv_istore (lv' := [(4, vI 0), (3, vI 17), (0, .ref (a 0)), (1, .ref q9), (2, vI n)]) S.1 S.2.1 dX3_passTicks_4 hl (by decide) rfl (fun ls hl => ?_)
  exact (k_X3_passTicks l D Z a P q9 qc qw qo G n hs hp hn S hr hlocks _).2 0 (nI 17) (by omega) rfl (Nat.lt_succ_self _) _ _ _ (lv_sub hl [2, 3, 4, 1, 0] rfl) w
