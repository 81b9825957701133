def cpN (f g : Nat → Nat) (i : Nat) : Nat → Nat := fun j => if j < i then f j else g j
theorem cpN_0 {f g : Nat → Nat} : cpN f g 0 = g := by
  funext j
  unfold cpN
  rw [if_neg (by omega)]
theorem cpN_s {f g : Nat → Nat} {i : Nat} : un (cpN f g i) i (f i) = cpN f g (i + 1) := by
  funext j
  unfold un cpN
  by_cases h : j = i
  · rw [if_pos h, if_pos (by omega), h]
  · rw [if_neg h]
    by_cases h2 : j < i
    · rw [if_pos h2, if_pos (by omega)]
    · rw [if_neg h2, if_neg (by omega)]
def shN (sv : Nat → Nat) (i : Nat) : Nat → Nat := fun j => if j < i then sv (j + 853) else sv j
theorem shN_0 {f : Nat → Nat} : shN f 0 = f := by
  funext j
  unfold shN
  rw [if_neg (by omega)]
theorem shN_g {f : Nat → Nat} {i : Nat} : shN f i (i + 853) = f (i + 853) := by
  unfold shN
  rw [if_neg (by omega)]
theorem shN_s {f : Nat → Nat} {i : Nat} : un (shN f i) i (f (i + 853)) = shN f (i + 1) := by
  funext j
  unfold un shN
  by_cases h : j = i
  · rw [if_pos h, if_pos (by omega), h]
  · rw [if_neg h]
    by_cases h2 : j < i
    · rw [if_pos h2, if_pos (by omega)]
    · rw [if_neg h2, if_neg (by omega)]
def cpA (f g : Nat → Nat) (o i : Nat) : Nat → Nat := fun j => if o ≤ j ∧ j < o + i then f (j - o) else g j
theorem cpA_0 {f g : Nat → Nat} {o : Nat} : cpA f g o 0 = g := by
  funext j
  unfold cpA
  rw [if_neg (by omega)]
theorem cpA_s {f g : Nat → Nat} {o i : Nat} : un (cpA f g o i) (o + i) (f i) = cpA f g o (i + 1) := by
  funext j
  unfold un cpA
  by_cases h : j = o + i
  · rw [if_pos h, if_pos (by omega), show j - o = i by omega]
  · rw [if_neg h]
    by_cases h2 : o ≤ j ∧ j < o + i
    · rw [if_pos h2, if_pos (by omega)]
    · rw [if_neg h2, if_neg (by omega)]
def sv1 (sv : Nat → Nat) (sm : Nat) : Nat → Nat := if sm = 4 then shN sv 2559 else sv
def svS (sv : Nat → Nat) (sm : Nat) (X : ST) : Nat → Nat := cpA (enc X) (sv1 sv sm) (853 * svN sm) 853
def zr (f : Nat → Nat) (o i : Nat) : Nat → Nat := fun j => if o ≤ j ∧ j < o + i then 0 else f j
theorem zr_0 {f : Nat → Nat} {o : Nat} : zr f o 0 = f := by
  funext j
  unfold zr
  rw [if_neg (by omega)]
theorem zr_s {f : Nat → Nat} {o i : Nat} : un (zr f o i) (o + i) 0 = zr f o (i + 1) := by
  funext j
  unfold un zr
  by_cases h : j = o + i
  · rw [if_pos h, if_pos (by omega)]
  · rw [if_neg h]
    by_cases h2 : o ≤ j ∧ j < o + i
    · rw [if_pos h2, if_pos (by omega)]
    · rw [if_neg h2, if_neg (by omega)]
theorem zr_s0 {f : Nat → Nat} {i : Nat} : un (zr f 0 i) i 0 = zr f 0 (i + 1) := by
  have h := zr_s (f := f) (o := 0) (i := i)
  rwa [Nat.zero_add] at h
/-- the reference's beginning -/
def bgM : PG := (fun k => if k = 3 then 3 else 0, fun _ _ => 0)
theorem enc_bg {X : ST} (j : Nat) : zr (un (zr (enc X) 0 6) 3 3) 21 64 j = enc (X.1, bgM) j := by
  by_cases h1 : j < 6
  · rw [enc_g h1]
    show (if 21 ≤ j ∧ j < 21 + 64 then 0 else if j = 3 then 3 else if 0 ≤ j ∧ j < 0 + 6 then 0 else enc X j) = if j = 3 then 3 else 0
    rw [if_neg (show ¬ (21 ≤ j ∧ j < 21 + 64) by omega), if_pos (show 0 ≤ j ∧ j < 0 + 6 by omega)]
  · show (if 21 ≤ j ∧ j < 21 + 64 then 0 else if j = 3 then 3 else if 0 ≤ j ∧ j < 0 + 6 then 0 else enc X j) = _
    by_cases h2 : 21 ≤ j ∧ j < 21 + 64
    · rw [if_pos h2]
      unfold enc
      rw [if_neg h1, if_neg (by omega), if_neg (by omega), if_neg (by omega), if_pos (by omega)]
      rfl
    · rw [if_neg h2, if_neg (by omega), if_neg (by omega)]
      unfold enc
      rw [if_neg h1, if_neg h1]
      repeat' split
      all_goals first
        | rfl
        | (exfalso; omega)

theorem hn_X8_laysAside_8 : ∀ w ∈ wsX80, w ∈ wsX8_laysAside := by decide +kernel
set_option maxRecDepth 100000 in
set_option maxHeartbeats 4000000 in
theorem k_X8_laysAside (l : Launch) (D : va_G) (Z : Nat → ClassId) (b : Nat → Nat) (X : ST) (sv sd : Nat → Nat) (sm th tl pl ro nu : Nat) (t r : Nat → Nat)  {p : Program} {e : Env} {s : State} {m : MethodId} {args : Array Value} {below : List Frame} {meth : Method} {c : Code} {A : Nat → Prop} (S : CallFix p m c cX8_laysAside 2 s args wsX8_laysAside RX8) (hr : meth.sig.returnType = none) (hlocks : meth.locks = false) : ∀ (n9 : Nat), (∀ (i : Nat) (hi9 : i ≤ 853) (hm : 853 - i < n9), ∀ (H : Heap) (locs : List Loc) (ls : Array Slot) (hl : lv_has ls 2 [(0, .ref (b 0)), (1, vI i)]) (w : Wd D Z A s (mdM Z b X sv (cpN (enc X) sd i) sm th tl pl ro nu t r) H locs), W p l e (rmO 0 0) s m args below meth c H locs 0 0 (Qv below D Z A args s (mdM Z b X sv (enc X) sm th tl pl ro nu t r)) (F0 m 2 ls [])) := by
  intro n9
  induction n9 with
  | zero => intro i hi9 hm; exact absurd hm (Nat.not_lt_zero _)
  | succ n9 ih =>
    skip
    · intro i hi9 hm H locs ls hl w
      refine lv_iload_n S.1 S.2.1 dX8_laysAside_2 rfl (lv_at hl 1 rfl) ?_
      refine lv_sipush (v := nI 853) S.1 S.2.1 dX8_laysAside_3 (by decide +kernel) ?_
      refine nv_icmp_ge S (by omega) (by omega) (tgt := 27) dX8_laysAside_6 (by decide) (fun h_1 => ?_) (fun h_1 => ?_)
      · skip
        exact nv_vret S w hr hlocks (mdM_f (fun j _ => rfl) (fun j _ => rfl) (fun j hj => by rw [show i = 853 by omega]; exact if_pos hj)) dX8_laysAside_27
      · skip
        refine lv_aload_n S.1 S.2.1 dX8_laysAside_9 rfl (lv_at hl 0 rfl) ?_
        refine nv_get S w (C := RX8) (T := TX8) (N := 11) hn_X8_laysAside_8 0 rfl rfl 2 (by decide) (List.mem_of_getElem? (i := 1) rfl) (v := .ref (b 3)) rfl dX8_laysAside_10 ?_
        refine lv_iload_n S.1 S.2.1 dX8_laysAside_13 rfl (lv_at hl 1 rfl) ?_
        refine lv_aload_n S.1 S.2.1 dX8_laysAside_14 rfl (lv_at hl 0 rfl) ?_
        refine nv_get S w (C := RX8) (T := TX8) (N := 11) hn_X8_laysAside_8 0 rfl rfl 0 (by decide) (List.mem_of_getElem? (i := 2) rfl) (v := .ref (b 1)) rfl dX8_laysAside_15 ?_
        refine lv_iload_n S.1 S.2.1 dX8_laysAside_18 rfl (lv_at hl 1 rfl) ?_
        refine nv_iald S w (i := i) (g := (enc X)) 1 rfl (by omega) (by decide) dX8_laysAside_19 ?_
        refine nv_iast S w (i := i) (x := ((enc X) i)) (g := (cpN (enc X) sd i)) 3 rfl (by omega) (by decide) (ws' := [(b 0, .inr (7, [.ref (b 1), .ref (b 2), .ref (b 3), vI sm, vI th, .ref (b 4), vI tl, vI pl, .ref (b 5), vI ro, vI nu])), (b 1, .inl (Z 0, 853, .inl (ar 853 (enc X)))), (b 2, .inl (Z 0, 3412, .inl (ar 3412 sv))), (b 3, .inl (Z 0, 853, .inl (ar 853 (un (cpN (enc X) sd i) i ((enc X) i))))), (b 4, .inl (Z 0, 100, .inl (ar 100 t))), (b 5, .inl (Z 0, 128, .inl (ar 128 r)))]) rfl dX8_laysAside_20 (fun H locs w => ?_)
        have w := w.as (ws' := mdM Z b X sv (cpN (enc X) sd (i + 1)) sm th tl pl ro nu t r) (mdM_f (fun j _ => rfl) (fun j _ => rfl) (fun j _ => by rw [← cpN_s]))
        refine lv_iinc (v := nI (i + 1)) (lv' := [(1, vI (i + 1)), (0, .ref (b 0))]) S.1 S.2.1 dX8_laysAside_21 hl (k := 1) rfl (nI_incI i 1) (by decide) rfl (fun ls hl => ?_)
        refine lv_goto (tgt := 2) S.1 S.2.1 dX8_laysAside_24 (by decide) ?_
        exact ih (i + 1) (by omega) (by omega) _ _ _ (lv_sub hl [1, 0] rfl) (w.as rfl)
set_option maxRecDepth 100000 in
set_option maxHeartbeats 4000000 in
theorem c_X8_laysAside (l : Launch) (D : va_G) (Z : Nat → ClassId) (b : Nat → Nat) (X : ST) (sv sd : Nat → Nat) (sm th tl pl ro nu : Nat) (t r : Nat → Nat)  : Cv l yX8_laysAside wsX8_laysAside 0 0 D Z [.ref (b 0)] (mdM Z b X sv sd sm th tl pl ro nu t r)  (mdM Z b X sv (enc X) sm th tl pl ro nu t r) := by
  refine ne_v (cc := cX8_laysAside) (maxL := 2) (by decide +kernel) rfl (Nat.le_of_ble_eq_true rfl) (fun p e s m args below meth c A ls (S : CallFix p m c cX8_laysAside 2 s args wsX8_laysAside RX8) hr hlocks hl w => ?_)
  have hl : lv_has ls 2 [(0, .ref (b 0))] := hl
  refine lv_iconst (v := nI 0) S.1 S.2.1 dX8_laysAside_0 (ofInt_nI 0) ?_
  refine lv_istore_n (lv' := [(1, vI 0), (0, .ref (b 0))]) S.1 S.2.1 dX8_laysAside_1 rfl hl (by decide) rfl (fun ls hl => ?_)
  exact k_X8_laysAside l D Z b X sv sd sm th tl pl ro nu t r S hr hlocks _ 0 (by omega) (Nat.lt_succ_self _) _ _ _ (lv_sub hl [1, 0] rfl) (w.as (by rw [cpN_0]))

theorem hn_X8_takesBack_8 : ∀ w ∈ wsX80, w ∈ wsX8_takesBack := by decide +kernel
set_option maxRecDepth 100000 in
set_option maxHeartbeats 4000000 in
theorem k_X8_takesBack (l : Launch) (D : va_G) (Z : Nat → ClassId) (b : Nat → Nat) (X Y9 : ST) (sv : Nat → Nat) (sm th tl pl ro nu : Nat) (t r : Nat → Nat)  {p : Program} {e : Env} {s : State} {m : MethodId} {args : Array Value} {below : List Frame} {meth : Method} {c : Code} {A : Nat → Prop} (S : CallFix p m c cX8_takesBack 2 s args wsX8_takesBack RX8) (hr : meth.sig.returnType = none) (hlocks : meth.locks = false) : ∀ (n9 : Nat), (∀ (i : Nat) (hi9 : i ≤ 853) (hm : 853 - i < n9), ∀ (H : Heap) (locs : List Loc) (ls : Array Slot) (hl : lv_has ls 2 [(0, .ref (b 0)), (1, vI i)]) (w : Wd D Z A s ([(b 0, .inr (7, [.ref (b 1), .ref (b 2), .ref (b 3), vI sm, vI th, .ref (b 4), vI tl, vI pl, .ref (b 5), vI ro, vI nu])), (b 1, .inl (Z 0, 853, .inl (ar 853 (cpN (enc Y9) (enc X) i)))), (b 2, .inl (Z 0, 3412, .inl (ar 3412 sv))), (b 3, .inl (Z 0, 853, .inl (ar 853 (enc Y9)))), (b 4, .inl (Z 0, 100, .inl (ar 100 t))), (b 5, .inl (Z 0, 128, .inl (ar 128 r)))]) H locs), W p l e (rmO 0 0) s m args below meth c H locs 0 0 (Qv below D Z A args s (mdM Z b Y9 sv (enc Y9) sm th tl pl ro nu t r)) (F0 m 2 ls [])) := by
  intro n9
  induction n9 with
  | zero => intro i hi9 hm; exact absurd hm (Nat.not_lt_zero _)
  | succ n9 ih =>
    skip
    · intro i hi9 hm H locs ls hl w
      refine lv_iload_n S.1 S.2.1 dX8_takesBack_2 rfl (lv_at hl 1 rfl) ?_
      refine lv_sipush (v := nI 853) S.1 S.2.1 dX8_takesBack_3 (by decide +kernel) ?_
      refine nv_icmp_ge S (by omega) (by omega) (tgt := 27) dX8_takesBack_6 (by decide) (fun h_1 => ?_) (fun h_1 => ?_)
      · skip
        exact nv_vret S w hr hlocks (mdM_f (fun j hj => by rw [show i = 853 by omega]; exact if_pos hj) (fun j _ => rfl) (fun j _ => rfl)) dX8_takesBack_27
      · skip
        refine lv_aload_n S.1 S.2.1 dX8_takesBack_9 rfl (lv_at hl 0 rfl) ?_
        refine nv_get S w (C := RX8) (T := TX8) (N := 11) hn_X8_takesBack_8 0 rfl rfl 0 (by decide) (List.mem_of_getElem? (i := 1) rfl) (v := .ref (b 1)) rfl dX8_takesBack_10 ?_
        refine lv_iload_n S.1 S.2.1 dX8_takesBack_13 rfl (lv_at hl 1 rfl) ?_
        refine lv_aload_n S.1 S.2.1 dX8_takesBack_14 rfl (lv_at hl 0 rfl) ?_
        refine nv_get S w (C := RX8) (T := TX8) (N := 11) hn_X8_takesBack_8 0 rfl rfl 2 (by decide) (List.mem_of_getElem? (i := 2) rfl) (v := .ref (b 3)) rfl dX8_takesBack_15 ?_
        refine lv_iload_n S.1 S.2.1 dX8_takesBack_18 rfl (lv_at hl 1 rfl) ?_
        refine nv_iald S w (i := i) (g := (enc Y9)) 3 rfl (by omega) (by decide) dX8_takesBack_19 ?_
        refine nv_iast S w (i := i) (x := ((enc Y9) i)) (g := (cpN (enc Y9) (enc X) i)) 1 rfl (by omega) (by decide) (ws' := [(b 0, .inr (7, [.ref (b 1), .ref (b 2), .ref (b 3), vI sm, vI th, .ref (b 4), vI tl, vI pl, .ref (b 5), vI ro, vI nu])), (b 1, .inl (Z 0, 853, .inl (ar 853 (un (cpN (enc Y9) (enc X) i) i ((enc Y9) i))))), (b 2, .inl (Z 0, 3412, .inl (ar 3412 sv))), (b 3, .inl (Z 0, 853, .inl (ar 853 (enc Y9)))), (b 4, .inl (Z 0, 100, .inl (ar 100 t))), (b 5, .inl (Z 0, 128, .inl (ar 128 r)))]) rfl dX8_takesBack_20 (fun H locs w => ?_)
        refine lv_iinc (v := nI (i + 1)) (lv' := [(1, vI (i + 1)), (0, .ref (b 0))]) S.1 S.2.1 dX8_takesBack_21 hl (k := 1) rfl (nI_incI i 1) (by decide) rfl (fun ls hl => ?_)
        refine lv_goto (tgt := 2) S.1 S.2.1 dX8_takesBack_24 (by decide) ?_
        exact ih (i + 1) (by omega) (by omega) _ _ _ (lv_sub hl [1, 0] rfl) (w.as (by rw [cpN_s]))
set_option maxRecDepth 100000 in
set_option maxHeartbeats 4000000 in
theorem c_X8_takesBack (l : Launch) (D : va_G) (Z : Nat → ClassId) (b : Nat → Nat) (X Y9 : ST) (sv : Nat → Nat) (sm th tl pl ro nu : Nat) (t r : Nat → Nat)  : Cv l yX8_takesBack wsX8_takesBack 0 0 D Z [.ref (b 0)] (mdM Z b X sv (enc Y9) sm th tl pl ro nu t r)  (mdM Z b Y9 sv (enc Y9) sm th tl pl ro nu t r) := by
  refine ne_v (cc := cX8_takesBack) (maxL := 2) (by decide +kernel) rfl (Nat.le_of_ble_eq_true rfl) (fun p e s m args below meth c A ls (S : CallFix p m c cX8_takesBack 2 s args wsX8_takesBack RX8) hr hlocks hl w => ?_)
  have hl : lv_has ls 2 [(0, .ref (b 0))] := hl
  refine lv_iconst (v := nI 0) S.1 S.2.1 dX8_takesBack_0 (ofInt_nI 0) ?_
  refine lv_istore_n (lv' := [(1, vI 0), (0, .ref (b 0))]) S.1 S.2.1 dX8_takesBack_1 rfl hl (by decide) rfl (fun ls hl => ?_)
  exact k_X8_takesBack l D Z b X Y9 sv sm th tl pl ro nu t r S hr hlocks _ 0 (by omega) (Nat.lt_succ_self _) _ _ _ (lv_sub hl [1, 0] rfl) (w.as (by rw [cpN_0]; rfl))

theorem hn_X8_begins_8 : ∀ w ∈ wsX80, w ∈ wsX8_begins := by decide +kernel
set_option maxRecDepth 100000 in
set_option maxHeartbeats 4000000 in
theorem k_X8_begins_b (l : Launch) (D : va_G) (Z : Nat → ClassId) (b : Nat → Nat) (X : ST) (sv sd : Nat → Nat) (sm th tl pl ro nu : Nat) (t r : Nat → Nat)  {p : Program} {e : Env} {s : State} {m : MethodId} {args : Array Value} {below : List Frame} {meth : Method} {c : Code} {A : Nat → Prop} (S : CallFix p m c cX8_begins 2 s args wsX8_begins RX8) (hr : meth.sig.returnType = none) (hlocks : meth.locks = false) : ∀ (n9 : Nat), (∀ (i : Nat) (hi9 : i ≤ 64) (hm : 64 - i < n9), ∀ (H : Heap) (locs : List Loc) (ls : Array Slot) (hl : lv_has ls 2 [(0, .ref (b 0)), (1, vI i)]) (w : Wd D Z A s ([(b 0, .inr (7, [.ref (b 1), .ref (b 2), .ref (b 3), vI sm, vI th, .ref (b 4), vI tl, vI pl, .ref (b 5), vI ro, vI nu])), (b 1, .inl (Z 0, 853, .inl (ar 853 (zr (un (zr (enc X) 0 6) 3 3) 21 i)))), (b 2, .inl (Z 0, 3412, .inl (ar 3412 sv))), (b 3, .inl (Z 0, 853, .inl (ar 853 sd))), (b 4, .inl (Z 0, 100, .inl (ar 100 t))), (b 5, .inl (Z 0, 128, .inl (ar 128 r)))]) H locs), W p l e (rmO 0 0) s m args below meth c H locs 0 0 (Qv below D Z A args s (mdM Z b (X.1, bgM) sv sd sm th tl pl ro nu t r)) (F0 m 30 ls [])) := by
  intro n9
  induction n9 with
  | zero => intro i hi9 hm; exact absurd hm (Nat.not_lt_zero _)
  | succ n9 ih =>
    skip
    · intro i hi9 hm H locs ls hl w
      refine lv_iload_n S.1 S.2.1 dX8_begins_30 rfl (lv_at hl 1 rfl) ?_
      refine lv_bipush (v := nI 64) S.1 S.2.1 dX8_begins_31 (by decide +kernel) ?_
      refine nv_icmp_ge S (by omega) (by omega) (tgt := 52) dX8_begins_33 (by decide) (fun h_1 => ?_) (fun h_1 => ?_)
      · skip
        exact nv_vret S w hr hlocks (by rw [show i = 64 by omega]; exact mdM_f (fun j _ => enc_bg j) (fun j _ => rfl) (fun j _ => rfl)) dX8_begins_52
      · skip
        refine lv_aload_n S.1 S.2.1 dX8_begins_36 rfl (lv_at hl 0 rfl) ?_
        refine nv_get S w (C := RX8) (T := TX8) (N := 11) hn_X8_begins_8 0 rfl rfl 0 (by decide) (List.mem_of_getElem? (i := 1) rfl) (v := .ref (b 1)) rfl dX8_begins_37 ?_
        refine lv_bipush (v := nI 21) S.1 S.2.1 dX8_begins_40 (by decide +kernel) ?_
        refine lv_iload_n S.1 S.2.1 dX8_begins_42 rfl (lv_at hl 1 rfl) ?_
        refine nv_iadd S dX8_begins_43 ?_
        refine lv_iconst (v := nI 0) S.1 S.2.1 dX8_begins_44 (ofInt_nI 0) ?_
        refine nv_iast S w (i := (21 + i)) (x := 0) (g := (zr (un (zr (enc X) 0 6) 3 3) 21 i)) 1 rfl (by omega) (by decide) (ws' := [(b 0, .inr (7, [.ref (b 1), .ref (b 2), .ref (b 3), vI sm, vI th, .ref (b 4), vI tl, vI pl, .ref (b 5), vI ro, vI nu])), (b 1, .inl (Z 0, 853, .inl (ar 853 (un (zr (un (zr (enc X) 0 6) 3 3) 21 i) (21 + i) 0)))), (b 2, .inl (Z 0, 3412, .inl (ar 3412 sv))), (b 3, .inl (Z 0, 853, .inl (ar 853 sd))), (b 4, .inl (Z 0, 100, .inl (ar 100 t))), (b 5, .inl (Z 0, 128, .inl (ar 128 r)))]) rfl dX8_begins_45 (fun H locs w => ?_)
        refine lv_iinc (v := nI (i + 1)) (lv' := [(1, vI (i + 1)), (0, .ref (b 0))]) S.1 S.2.1 dX8_begins_46 hl (k := 1) rfl (nI_incI i 1) (by decide) rfl (fun ls hl => ?_)
        refine lv_goto (tgt := 30) S.1 S.2.1 dX8_begins_49 (by decide) ?_
        exact ih (i + 1) (by omega) (by omega) _ _ _ (lv_sub hl [1, 0] rfl) (w.as (by rw [zr_s]))
set_option maxRecDepth 100000 in
set_option maxHeartbeats 4000000 in
theorem k_X8_begins_a (l : Launch) (D : va_G) (Z : Nat → ClassId) (b : Nat → Nat) (X : ST) (sv sd : Nat → Nat) (sm th tl pl ro nu : Nat) (t r : Nat → Nat)  {p : Program} {e : Env} {s : State} {m : MethodId} {args : Array Value} {below : List Frame} {meth : Method} {c : Code} {A : Nat → Prop} (S : CallFix p m c cX8_begins 2 s args wsX8_begins RX8) (hr : meth.sig.returnType = none) (hlocks : meth.locks = false) : ∀ (n9 : Nat), (∀ (i : Nat) (hi9 : i ≤ 6) (hm : 6 - i < n9), ∀ (H : Heap) (locs : List Loc) (ls : Array Slot) (hl : lv_has ls 2 [(0, .ref (b 0)), (1, vI i)]) (w : Wd D Z A s ([(b 0, .inr (7, [.ref (b 1), .ref (b 2), .ref (b 3), vI sm, vI th, .ref (b 4), vI tl, vI pl, .ref (b 5), vI ro, vI nu])), (b 1, .inl (Z 0, 853, .inl (ar 853 (zr (enc X) 0 i)))), (b 2, .inl (Z 0, 3412, .inl (ar 3412 sv))), (b 3, .inl (Z 0, 853, .inl (ar 853 sd))), (b 4, .inl (Z 0, 100, .inl (ar 100 t))), (b 5, .inl (Z 0, 128, .inl (ar 128 r)))]) H locs), W p l e (rmO 0 0) s m args below meth c H locs 0 0 (Qv below D Z A args s (mdM Z b (X.1, bgM) sv sd sm th tl pl ro nu t r)) (F0 m 2 ls [])) := by
  intro n9
  induction n9 with
  | zero => intro i hi9 hm; exact absurd hm (Nat.not_lt_zero _)
  | succ n9 ih =>
    skip
    · intro i hi9 hm H locs ls hl w
      refine lv_iload_n S.1 S.2.1 dX8_begins_2 rfl (lv_at hl 1 rfl) ?_
      refine lv_bipush (v := nI 6) S.1 S.2.1 dX8_begins_3 (by decide +kernel) ?_
      refine nv_icmp_ge S (by omega) (by omega) (tgt := 21) dX8_begins_5 (by decide) (fun h_2 => ?_) (fun h_2 => ?_)
      · skip
        refine lv_aload_n S.1 S.2.1 dX8_begins_21 rfl (lv_at hl 0 rfl) ?_
        refine nv_get S w (C := RX8) (T := TX8) (N := 11) hn_X8_begins_8 0 rfl rfl 0 (by decide) (List.mem_of_getElem? (i := 1) rfl) (v := .ref (b 1)) rfl dX8_begins_22 ?_
        refine lv_iconst (v := nI 3) S.1 S.2.1 dX8_begins_25 (ofInt_nI 3) ?_
        refine lv_iconst (v := nI 3) S.1 S.2.1 dX8_begins_26 (ofInt_nI 3) ?_
        refine nv_iast S w (i := 3) (x := 3) (g := (zr (enc X) 0 i)) 1 rfl (by omega) (by decide) (ws' := [(b 0, .inr (7, [.ref (b 1), .ref (b 2), .ref (b 3), vI sm, vI th, .ref (b 4), vI tl, vI pl, .ref (b 5), vI ro, vI nu])), (b 1, .inl (Z 0, 853, .inl (ar 853 (un (zr (enc X) 0 i) 3 3)))), (b 2, .inl (Z 0, 3412, .inl (ar 3412 sv))), (b 3, .inl (Z 0, 853, .inl (ar 853 sd))), (b 4, .inl (Z 0, 100, .inl (ar 100 t))), (b 5, .inl (Z 0, 128, .inl (ar 128 r)))]) rfl dX8_begins_27 (fun H locs w => ?_)
        refine lv_iconst (v := nI 0) S.1 S.2.1 dX8_begins_28 (ofInt_nI 0) ?_
        refine lv_istore_n (lv' := [(1, vI 0), (0, .ref (b 0))]) S.1 S.2.1 dX8_begins_29 rfl hl (by decide) rfl (fun ls hl => ?_)
        exact k_X8_begins_b l D Z b X sv sd sm th tl pl ro nu t r S hr hlocks _ 0 (by omega) (Nat.lt_succ_self _) _ _ _ (lv_sub hl [1, 0] rfl) (w.as (by rw [zr_0, show i = 6 by omega]))
      · skip
        refine lv_aload_n S.1 S.2.1 dX8_begins_8 rfl (lv_at hl 0 rfl) ?_
        refine nv_get S w (C := RX8) (T := TX8) (N := 11) hn_X8_begins_8 0 rfl rfl 0 (by decide) (List.mem_of_getElem? (i := 1) rfl) (v := .ref (b 1)) rfl dX8_begins_9 ?_
        refine lv_iload_n S.1 S.2.1 dX8_begins_12 rfl (lv_at hl 1 rfl) ?_
        refine lv_iconst (v := nI 0) S.1 S.2.1 dX8_begins_13 (ofInt_nI 0) ?_
        refine nv_iast S w (i := i) (x := 0) (g := (zr (enc X) 0 i)) 1 rfl (by omega) (by decide) (ws' := [(b 0, .inr (7, [.ref (b 1), .ref (b 2), .ref (b 3), vI sm, vI th, .ref (b 4), vI tl, vI pl, .ref (b 5), vI ro, vI nu])), (b 1, .inl (Z 0, 853, .inl (ar 853 (un (zr (enc X) 0 i) i 0)))), (b 2, .inl (Z 0, 3412, .inl (ar 3412 sv))), (b 3, .inl (Z 0, 853, .inl (ar 853 sd))), (b 4, .inl (Z 0, 100, .inl (ar 100 t))), (b 5, .inl (Z 0, 128, .inl (ar 128 r)))]) rfl dX8_begins_14 (fun H locs w => ?_)
        refine lv_iinc (v := nI (i + 1)) (lv' := [(1, vI (i + 1)), (0, .ref (b 0))]) S.1 S.2.1 dX8_begins_15 hl (k := 1) rfl (nI_incI i 1) (by decide) rfl (fun ls hl => ?_)
        refine lv_goto (tgt := 2) S.1 S.2.1 dX8_begins_18 (by decide) ?_
        exact ih (i + 1) (by omega) (by omega) _ _ _ (lv_sub hl [1, 0] rfl) (w.as (by rw [zr_s0]))
set_option maxRecDepth 100000 in
set_option maxHeartbeats 4000000 in
theorem c_X8_begins (l : Launch) (D : va_G) (Z : Nat → ClassId) (b : Nat → Nat) (X : ST) (sv sd : Nat → Nat) (sm th tl pl ro nu : Nat) (t r : Nat → Nat)  : Cv l yX8_begins wsX8_begins 0 0 D Z [.ref (b 0)] (mdM Z b X sv sd sm th tl pl ro nu t r)  (mdM Z b (X.1, bgM) sv sd sm th tl pl ro nu t r) := by
  refine ne_v (cc := cX8_begins) (maxL := 2) (by decide +kernel) rfl (Nat.le_of_ble_eq_true rfl) (fun p e s m args below meth c A ls (S : CallFix p m c cX8_begins 2 s args wsX8_begins RX8) hr hlocks hl w => ?_)
  have hl : lv_has ls 2 [(0, .ref (b 0))] := hl
  refine lv_iconst (v := nI 0) S.1 S.2.1 dX8_begins_0 (ofInt_nI 0) ?_
  refine lv_istore_n (lv' := [(1, vI 0), (0, .ref (b 0))]) S.1 S.2.1 dX8_begins_1 rfl hl (by decide) rfl (fun ls hl => ?_)
  exact k_X8_begins_a l D Z b X sv sd sm th tl pl ro nu t r S hr hlocks _ 0 (by omega) (Nat.lt_succ_self _) _ _ _ (lv_sub hl [1, 0] rfl) (w.as (by rw [zr_0]; rfl))

theorem hn_X8_save_8 : ∀ w ∈ wsX80, w ∈ wsX8_save := by decide +kernel
set_option maxRecDepth 100000 in
set_option maxHeartbeats 4000000 in
theorem k_X8_save_b (l : Launch) (D : va_G) (Z : Nat → ClassId) (b : Nat → Nat) (X : ST) (sv sd : Nat → Nat) (sm th tl pl ro nu : Nat) (t r : Nat → Nat) (hsm : sm ≤ 4) {p : Program} {e : Env} {s : State} {m : MethodId} {args : Array Value} {below : List Frame} {meth : Method} {c : Code} {A : Nat → Prop} (S : CallFix p m c cX8_save 2 s args wsX8_save RX8) (hr : meth.sig.returnType = none) (hlocks : meth.locks = false) : ∀ (n9 : Nat), (∀ (i : Nat) (hi9 : i ≤ 853) (hm : 853 - i < n9), ∀ (H : Heap) (locs : List Loc) (ls : Array Slot) (hl : lv_has ls 2 [(0, .ref (b 0)), (1, vI i)]) (w : Wd D Z A s (mdM Z b X (cpA (enc X) (sv1 sv sm) (853 * svN sm) i) sd (svN sm) th tl pl ro nu t r) H locs), W p l e (rmO 0 0) s m args below meth c H locs 0 0 (Qv below D Z A args s (mdM Z b X (svS sv sm X) sd (svN sm + 1) th tl pl ro nu t r)) (F0 m 51 ls [])) := by
  intro n9
  have hs3 : svN sm ≤ 3 := by unfold svN; split <;> omega
  induction n9 with
  | zero => intro i hi9 hm; exact absurd hm (Nat.not_lt_zero _)
  | succ n9 ih =>
    skip
    · intro i hi9 hm H locs ls hl w
      refine lv_iload_n S.1 S.2.1 dX8_save_51 rfl (lv_at hl 1 rfl) ?_
      refine lv_sipush (v := nI 853) S.1 S.2.1 dX8_save_52 (by decide +kernel) ?_
      refine nv_icmp_ge S (by omega) (by omega) (tgt := 85) dX8_save_55 (by decide) (fun h_1 => ?_) (fun h_1 => ?_)
      · skip
        refine lv_aload_n S.1 S.2.1 dX8_save_85 rfl (lv_at hl 0 rfl) ?_
        refine lv_dup S.1 S.2.1 dX8_save_86 rfl ?_
        refine nv_get S w (C := RX8) (T := TX8) (N := 11) hn_X8_save_8 0 rfl rfl 3 (by decide) (List.mem_of_getElem? (i := 1) rfl) (v := vI (svN sm)) rfl dX8_save_87 ?_
        refine lv_iconst (v := nI 1) S.1 S.2.1 dX8_save_90 (ofInt_nI 1) ?_
        refine nv_iadd S dX8_save_91 ?_
        refine nv_put S w (C := RX8) (T := TX8) (N := 11) hn_X8_save_8 tyX8_ok nmX8 0 rfl rfl 3 (by decide) (List.mem_of_getElem? (i := 1) rfl) rfl rfl (Nat.le_of_ble_eq_true rfl) (ws' := [(b 0, .inr (7, [.ref (b 1), .ref (b 2), .ref (b 3), vI ((svN sm) + 1), vI th, .ref (b 4), vI tl, vI pl, .ref (b 5), vI ro, vI nu])), (b 1, .inl (Z 0, 853, .inl (ar 853 (enc X)))), (b 2, .inl (Z 0, 3412, .inl (ar 3412 (cpA (enc X) (sv1 sv sm) (853 * svN sm) i)))), (b 3, .inl (Z 0, 853, .inl (ar 853 sd))), (b 4, .inl (Z 0, 100, .inl (ar 100 t))), (b 5, .inl (Z 0, 128, .inl (ar 128 r)))]) rfl dX8_save_92 (fun H locs w => ?_)
        exact nv_vret S w hr hlocks (by rw [show i = 853 by omega]; rfl) dX8_save_95
      · skip
        refine lv_aload_n S.1 S.2.1 dX8_save_58 rfl (lv_at hl 0 rfl) ?_
        refine nv_get S w (C := RX8) (T := TX8) (N := 11) hn_X8_save_8 0 rfl rfl 1 (by decide) (List.mem_of_getElem? (i := 2) rfl) (v := .ref (b 2)) rfl dX8_save_59 ?_
        refine lv_sipush (v := nI 853) S.1 S.2.1 dX8_save_62 (by decide +kernel) ?_
        refine lv_aload_n S.1 S.2.1 dX8_save_65 rfl (lv_at hl 0 rfl) ?_
        refine nv_get S w (C := RX8) (T := TX8) (N := 11) hn_X8_save_8 0 rfl rfl 3 (by decide) (List.mem_of_getElem? (i := 1) rfl) (v := vI (svN sm)) rfl dX8_save_66 ?_
        refine nv_imul S dX8_save_69 ?_
        refine lv_iload_n S.1 S.2.1 dX8_save_70 rfl (lv_at hl 1 rfl) ?_
        refine nv_iadd S dX8_save_71 ?_
        refine lv_aload_n S.1 S.2.1 dX8_save_72 rfl (lv_at hl 0 rfl) ?_
        refine nv_get S w (C := RX8) (T := TX8) (N := 11) hn_X8_save_8 0 rfl rfl 0 (by decide) (List.mem_of_getElem? (i := 3) rfl) (v := .ref (b 1)) rfl dX8_save_73 ?_
        refine lv_iload_n S.1 S.2.1 dX8_save_76 rfl (lv_at hl 1 rfl) ?_
        refine nv_iald S w (i := i) (g := (enc X)) 1 rfl (by omega) (by decide) dX8_save_77 ?_
        refine nv_iast S w (i := ((853 * (svN sm)) + i)) (x := ((enc X) i)) (g := (cpA (enc X) (sv1 sv sm) (853 * svN sm) i)) 2 rfl (by omega) (by decide) (ws' := [(b 0, .inr (7, [.ref (b 1), .ref (b 2), .ref (b 3), vI (svN sm), vI th, .ref (b 4), vI tl, vI pl, .ref (b 5), vI ro, vI nu])), (b 1, .inl (Z 0, 853, .inl (ar 853 (enc X)))), (b 2, .inl (Z 0, 3412, .inl (ar 3412 (un (cpA (enc X) (sv1 sv sm) (853 * svN sm) i) ((853 * (svN sm)) + i) ((enc X) i))))), (b 3, .inl (Z 0, 853, .inl (ar 853 sd))), (b 4, .inl (Z 0, 100, .inl (ar 100 t))), (b 5, .inl (Z 0, 128, .inl (ar 128 r)))]) rfl dX8_save_78 (fun H locs w => ?_)
        have w := w.as (ws' := mdM Z b X (cpA (enc X) (sv1 sv sm) (853 * svN sm) (i + 1)) sd (svN sm) th tl pl ro nu t r) (mdM_f (fun j _ => rfl) (fun j _ => by rw [← cpA_s]) (fun j _ => rfl))
        refine lv_iinc (v := nI (i + 1)) (lv' := [(1, vI (i + 1)), (0, .ref (b 0))]) S.1 S.2.1 dX8_save_79 hl (k := 1) rfl (nI_incI i 1) (by decide) rfl (fun ls hl => ?_)
        refine lv_goto (tgt := 51) S.1 S.2.1 dX8_save_82 (by decide) ?_
        exact ih (i + 1) (by omega) (by omega) _ _ _ (lv_sub hl [1, 0] rfl) (w.as rfl)
set_option maxRecDepth 100000 in
set_option maxHeartbeats 4000000 in
theorem k_X8_save_a (l : Launch) (D : va_G) (Z : Nat → ClassId) (b : Nat → Nat) (X : ST) (sv sd : Nat → Nat) (sm th tl pl ro nu : Nat) (t r : Nat → Nat) (hsm : sm ≤ 4) {p : Program} {e : Env} {s : State} {m : MethodId} {args : Array Value} {below : List Frame} {meth : Method} {c : Code} {A : Nat → Prop} (S : CallFix p m c cX8_save 2 s args wsX8_save RX8) (hr : meth.sig.returnType = none) (hlocks : meth.locks = false) : ∀ (n9 : Nat), (∀ (i : Nat) (hi9 : i ≤ 2559) (h4 : sm = 4) (hm : 2559 - i < n9), ∀ (H : Heap) (locs : List Loc) (ls : Array Slot) (hl : lv_has ls 2 [(0, .ref (b 0)), (1, vI i)]) (w : Wd D Z A s (mdM Z b X (shN sv i) sd sm th tl pl ro nu t r) H locs), W p l e (rmO 0 0) s m args below meth c H locs 0 0 (Qv below D Z A args s (mdM Z b X (svS sv sm X) sd (svN sm + 1) th tl pl ro nu t r)) (F0 m 10 ls [])) := by
  intro n9
  have hs3 : svN sm ≤ 3 := by unfold svN; split <;> omega
  induction n9 with
  | zero => intro i hi9 h4 hm; exact absurd hm (Nat.not_lt_zero _)
  | succ n9 ih =>
    skip
    · intro i hi9 h4 hm H locs ls hl w
      refine lv_iload_n S.1 S.2.1 dX8_save_10 rfl (lv_at hl 1 rfl) ?_
      refine lv_sipush (v := nI 2559) S.1 S.2.1 dX8_save_11 (by decide +kernel) ?_
      refine nv_icmp_ge S (by omega) (by omega) (tgt := 39) dX8_save_14 (by decide) (fun h_2 => ?_) (fun h_2 => ?_)
      · skip
        refine lv_aload_n S.1 S.2.1 dX8_save_39 rfl (lv_at hl 0 rfl) ?_
        refine lv_dup S.1 S.2.1 dX8_save_40 rfl ?_
        refine nv_get S w (C := RX8) (T := TX8) (N := 11) hn_X8_save_8 0 rfl rfl 3 (by decide) (List.mem_of_getElem? (i := 1) rfl) (v := vI sm) rfl dX8_save_41 ?_
        refine lv_iconst (v := nI 1) S.1 S.2.1 dX8_save_44 (ofInt_nI 1) ?_
        refine nv_isub S (by omega) dX8_save_45 ?_
        refine nv_put S w (C := RX8) (T := TX8) (N := 11) hn_X8_save_8 tyX8_ok nmX8 0 rfl rfl 3 (by decide) (List.mem_of_getElem? (i := 1) rfl) rfl rfl (Nat.le_of_ble_eq_true rfl) (ws' := [(b 0, .inr (7, [.ref (b 1), .ref (b 2), .ref (b 3), vI (sm - 1), vI th, .ref (b 4), vI tl, vI pl, .ref (b 5), vI ro, vI nu])), (b 1, .inl (Z 0, 853, .inl (ar 853 (enc X)))), (b 2, .inl (Z 0, 3412, .inl (ar 3412 (shN sv i)))), (b 3, .inl (Z 0, 853, .inl (ar 853 sd))), (b 4, .inl (Z 0, 100, .inl (ar 100 t))), (b 5, .inl (Z 0, 128, .inl (ar 128 r)))]) rfl dX8_save_46 (fun H locs w => ?_)
        refine lv_iconst (v := nI 0) S.1 S.2.1 dX8_save_49 (ofInt_nI 0) ?_
        refine lv_istore_n (lv' := [(1, vI 0), (0, .ref (b 0))]) S.1 S.2.1 dX8_save_50 rfl hl (by decide) rfl (fun ls hl => ?_)
        exact k_X8_save_b l D Z b X sv sd sm th tl pl ro nu t r hsm S hr hlocks _ 0 (by omega) (Nat.lt_succ_self _) _ _ _ (lv_sub hl [1, 0] rfl) (w.as (by rw [show svN sm = sm - 1 from by unfold svN; rw [if_pos h4]; omega, show sv1 sv sm = shN sv 2559 from if_pos h4, cpA_0, show i = 2559 by omega]; rfl))
      · skip
        refine lv_aload_n S.1 S.2.1 dX8_save_17 rfl (lv_at hl 0 rfl) ?_
        refine nv_get S w (C := RX8) (T := TX8) (N := 11) hn_X8_save_8 0 rfl rfl 1 (by decide) (List.mem_of_getElem? (i := 2) rfl) (v := .ref (b 2)) rfl dX8_save_18 ?_
        refine lv_iload_n S.1 S.2.1 dX8_save_21 rfl (lv_at hl 1 rfl) ?_
        refine lv_aload_n S.1 S.2.1 dX8_save_22 rfl (lv_at hl 0 rfl) ?_
        refine nv_get S w (C := RX8) (T := TX8) (N := 11) hn_X8_save_8 0 rfl rfl 1 (by decide) (List.mem_of_getElem? (i := 2) rfl) (v := .ref (b 2)) rfl dX8_save_23 ?_
        refine lv_iload_n S.1 S.2.1 dX8_save_26 rfl (lv_at hl 1 rfl) ?_
        refine lv_sipush (v := nI 853) S.1 S.2.1 dX8_save_27 (by decide +kernel) ?_
        refine nv_iadd S dX8_save_30 ?_
        refine nv_iald S w (i := (i + 853)) (g := (shN sv i)) 2 rfl (by omega) (by decide) dX8_save_31 ?_
        refine W.eq (g2 := F0 m 32 ls [vI (sv (i + 853)), vI i, .ref (b 2)]) (by rw [shN_g]) ?_
        refine nv_iast S w (i := i) (x := (sv (i + 853))) (g := (shN sv i)) 2 rfl (by omega) (by decide) (ws' := [(b 0, .inr (7, [.ref (b 1), .ref (b 2), .ref (b 3), vI sm, vI th, .ref (b 4), vI tl, vI pl, .ref (b 5), vI ro, vI nu])), (b 1, .inl (Z 0, 853, .inl (ar 853 (enc X)))), (b 2, .inl (Z 0, 3412, .inl (ar 3412 (un (shN sv i) i (sv (i + 853)))))), (b 3, .inl (Z 0, 853, .inl (ar 853 sd))), (b 4, .inl (Z 0, 100, .inl (ar 100 t))), (b 5, .inl (Z 0, 128, .inl (ar 128 r)))]) rfl dX8_save_32 (fun H locs w => ?_)
        have w := w.as (ws' := mdM Z b X (shN sv (i + 1)) sd sm th tl pl ro nu t r) (mdM_f (fun j _ => rfl) (fun j _ => by rw [← shN_s]) (fun j _ => rfl))
        refine lv_iinc (v := nI (i + 1)) (lv' := [(1, vI (i + 1)), (0, .ref (b 0))]) S.1 S.2.1 dX8_save_33 hl (k := 1) rfl (nI_incI i 1) (by decide) rfl (fun ls hl => ?_)
        refine lv_goto (tgt := 10) S.1 S.2.1 dX8_save_36 (by decide) ?_
        exact ih (i + 1) (by omega) (by omega) (by omega) _ _ _ (lv_sub hl [1, 0] rfl) (w.as rfl)
set_option maxRecDepth 100000 in
set_option maxHeartbeats 4000000 in
theorem c_X8_save (l : Launch) (D : va_G) (Z : Nat → ClassId) (b : Nat → Nat) (X : ST) (sv sd : Nat → Nat) (sm th tl pl ro nu : Nat) (t r : Nat → Nat) (hsm : sm ≤ 4) : Cv l yX8_save wsX8_save 0 0 D Z [.ref (b 0)] (mdM Z b X sv sd sm th tl pl ro nu t r)  (mdM Z b X (svS sv sm X) sd (svN sm + 1) th tl pl ro nu t r) := by
  refine ne_v (cc := cX8_save) (maxL := 2) (by decide +kernel) rfl (Nat.le_of_ble_eq_true rfl) (fun p e s m args below meth c A ls (S : CallFix p m c cX8_save 2 s args wsX8_save RX8) hr hlocks hl w => ?_)
  have hs3 : svN sm ≤ 3 := by unfold svN; split <;> omega
  have hl : lv_has ls 2 [(0, .ref (b 0))] := hl
  refine lv_aload_n S.1 S.2.1 dX8_save_0 rfl (lv_at hl 0 rfl) ?_
  refine nv_get S w (C := RX8) (T := TX8) (N := 11) hn_X8_save_8 0 rfl rfl 3 (by decide) (List.mem_of_getElem? (i := 1) rfl) (v := vI sm) rfl dX8_save_1 ?_
  refine lv_iconst (v := nI 4) S.1 S.2.1 dX8_save_4 (ofInt_nI 4) ?_
  refine nv_icmp_ne S (by omega) (by omega) (tgt := 49) dX8_save_5 (by decide) (fun h_3 => ?_) (fun h_3 => ?_)
  · skip
    refine lv_iconst (v := nI 0) S.1 S.2.1 dX8_save_49 (ofInt_nI 0) ?_
    refine lv_istore_n (lv' := [(1, vI 0), (0, .ref (b 0))]) S.1 S.2.1 dX8_save_50 rfl hl (by decide) rfl (fun ls hl => ?_)
    exact k_X8_save_b l D Z b X sv sd sm th tl pl ro nu t r hsm S hr hlocks _ 0 (by omega) (Nat.lt_succ_self _) _ _ _ (lv_sub hl [1, 0] rfl) (w.as (by rw [show svN sm = sm from if_neg h_3, show sv1 sv sm = sv from if_neg h_3, cpA_0]))
  · skip
    refine lv_iconst (v := nI 0) S.1 S.2.1 dX8_save_8 (ofInt_nI 0) ?_
    refine lv_istore_n (lv' := [(1, vI 0), (0, .ref (b 0))]) S.1 S.2.1 dX8_save_9 rfl hl (by decide) rfl (fun ls hl => ?_)
    exact k_X8_save_a l D Z b X sv sd sm th tl pl ro nu t r hsm S hr hlocks _ 0 (by omega) (by omega) (Nat.lt_succ_self _) _ _ _ (lv_sub hl [1, 0] rfl) (w.as (by rw [shN_0]))

theorem hdV_X8_tick : yX8_tick.cls = RX8 ∧ yX8_tick.cls ≠ "java/lang/invoke/MethodHandle" ∧ yX8_tick.cls ≠ "java/lang/invoke/VarHandle" ∧ (parseMethodDescriptor yX8_tick.desc).map (fun d => d.parameters.length) = some 0 := by decide +kernel
set_option maxRecDepth 100000 in
set_option maxHeartbeats 4000000 in
theorem k_X8_plays (l : Launch) (D : va_G) (Z : Nat → ClassId) (b : Nat → Nat) (X : ST) (sv sd : Nat → Nat) (sm th tl pl ro nu : Nat) (t r : Nat → Nat) (n : Nat) (hs : SB X.1) (hp : PB X.1 X.2) (hn : n < 2 ^ 31) {p : Program} {e : Env} {s : State} {m : MethodId} {args : Array Value} {below : List Frame} {meth : Method} {c : Code} {A : Nat → Prop} (S : CallFix p m c cX8_plays 6 s args wsX8_plays RX8) (hr : meth.sig.returnType = (some .int)) (hlocks : meth.locks = false) : ∀ (n9 : Nat), (∀ (j i : Nat) (x : Int32) (hj : j < n) (hi4 : i ≤ 4) (ex : x = hs4 (hsN X.1 X.2 j) (tkN X.1 X.2 (j + 1)).2 i) (hm : 7 * (n - j) + (4 - i) < n9), ∀ (H : Heap) (locs : List Loc) (ls : Array Slot) (hl : lv_has ls 6 [(0, .ref (b 0)), (1, vI n), (2, .int x), (3, vI j), (5, vI i)]) (w : Wd D Z A s (mdM Z b (X.1, tkN X.1 X.2 (j + 1)) sv sd sm th tl pl ro nu t r) H locs), W p l e (rmO 5 112) s m args below meth c H locs 0 0 (Qi below D Z A args s (hsN X.1 X.2 n) (mdM Z b (X.1, tkN X.1 X.2 n) sv sd sm th tl pl ro nu t r)) (F0 m 19 ls [])) ∧ (∀ (j : Nat) (x : Int32) (hj : j ≤ n) (ex : x = hsN X.1 X.2 j) (hm : 7 * (n - j) + 6 < n9), ∀ (H : Heap) (locs : List Loc) (ls : Array Slot) (hl : lv_has ls 6 [(0, .ref (b 0)), (1, vI n), (2, .int x), (3, vI j)]) (w : Wd D Z A s (mdM Z b (X.1, tkN X.1 X.2 j) sv sd sm th tl pl ro nu t r) H locs), W p l e (rmO 5 112) s m args below meth c H locs 0 0 (Qi below D Z A args s (hsN X.1 X.2 n) (mdM Z b (X.1, tkN X.1 X.2 n) sv sd sm th tl pl ro nu t r)) (F0 m 5 ls [])) := by
  intro n9
  induction n9 with
  | zero => exact ⟨fun j i x hj hi4 ex hm => absurd hm (Nat.not_lt_zero _), fun j x hj ex hm => absurd hm (Nat.not_lt_zero _)⟩
  | succ n9 ih =>
    refine ⟨?_, ?_⟩
    · intro j i x hj hi4 ex hm H locs ls hl w
      refine lv_iload S.1 S.2.1 dX8_plays_19 (lv_at hl 4 rfl) ?_
      refine lv_iconst (v := nI 4) S.1 S.2.1 dX8_plays_21 (ofInt_nI 4) ?_
      refine nv_icmp_ge S (by omega) (by omega) (tgt := 45) dX8_plays_22 (by decide) (fun h_1 => ?_) (fun h_1 => ?_)
      · skip
        refine lv_iinc (v := nI (j + 1)) (lv' := [(3, vI (j + 1)), (0, .ref (b 0)), (1, vI n), (2, .int x), (5, vI i)]) S.1 S.2.1 dX8_plays_45 hl (k := 3) rfl (nI_incI j 1) (by decide) rfl (fun ls hl => ?_)
        refine lv_goto (tgt := 5) S.1 S.2.1 dX8_plays_48 (by decide) ?_
        exact (ih).2 (j + 1) x (by omega) (by rw [ex, show i = 4 by omega]; rfl) (by omega) _ _ _ (lv_sub hl [1, 2, 3, 0] rfl) w
      · skip
        refine lv_bipush (v := nI 31) S.1 S.2.1 dX8_plays_25 (by decide +kernel) ?_
        refine lv_iload_n S.1 S.2.1 dX8_plays_27 rfl (lv_at hl 2 rfl) ?_
        refine lv_imul S.1 S.2.1 dX8_plays_28 ?_
        refine lv_aload_n S.1 S.2.1 dX8_plays_29 rfl (lv_at hl 0 rfl) ?_
        refine lv_iload S.1 S.2.1 dX8_plays_30 (lv_at hl 4 rfl) ?_
        refine lv_bipush (v := nI 11) S.1 S.2.1 dX8_plays_32 (by decide +kernel) ?_
        refine nv_rVi (rest := [.int ((nI 31) * x)]) S w hl.1 (c_X8_of l D Z b (X.1, tkN X.1 X.2 (j + 1)) sv sd sm th tl pl ro nu t r i 11 (by omega) (by omega)) [0, 1, 2, 3, 4, 5] rfl rfl gX8_plays_X8_of rfl hdV_X8_of ⟨Nat.le_of_ble_eq_true rfl, Nat.le_of_ble_eq_true rfl⟩ (q0 := 0) rfl rfl rfl rfl (Nat.le_of_ble_eq_true rfl) ⟨Nat.zero_le _, Nat.zero_le _⟩ dX8_plays_34 (fun H locs w => ?_)
        refine lv_iadd S.1 S.2.1 dX8_plays_37 ?_
        refine lv_istore_n (lv' := [(2, .int (((nI 31) * x) + (nI ((X.1, tkN X.1 X.2 (j + 1)).2.2 i 11)))), (0, .ref (b 0)), (1, vI n), (3, vI j), (5, vI i)]) S.1 S.2.1 dX8_plays_38 rfl hl (by decide) rfl (fun ls hl => ?_)
        refine lv_iinc (v := nI (i + 1)) (lv' := [(5, vI (i + 1)), (2, .int (((nI 31) * x) + (nI ((X.1, tkN X.1 X.2 (j + 1)).2.2 i 11)))), (0, .ref (b 0)), (1, vI n), (3, vI j)]) S.1 S.2.1 dX8_plays_39 hl (k := 4) rfl (nI_incI i 1) (by decide) rfl (fun ls hl => ?_)
        refine lv_goto (tgt := 19) S.1 S.2.1 dX8_plays_42 (by decide) ?_
        exact (ih).1 j (i + 1) (((nI 31) * x) + (nI ((X.1, tkN X.1 X.2 (j + 1)).2.2 i 11))) (by omega) (by omega) (by rw [ex]; rfl) (by omega) _ _ _ (lv_sub hl [2, 3, 1, 4, 0] rfl) (w.as rfl)
    · intro j x hj ex hm H locs ls hl w
      refine lv_iload_n S.1 S.2.1 dX8_plays_5 rfl (lv_at hl 3 rfl) ?_
      refine lv_iload_n S.1 S.2.1 dX8_plays_6 rfl (lv_at hl 1 rfl) ?_
      refine nv_icmp_ge S (by omega) (by omega) (tgt := 51) dX8_plays_7 (by decide) (fun h_2 => ?_) (fun h_2 => ?_)
      · skip
        refine lv_iload_n S.1 S.2.1 dX8_plays_51 rfl (lv_at hl 2 rfl) ?_
        exact nv_iret S w hr hlocks rfl (by rw [ex, show j = n by omega]) (by rw [show j = n by omega]) dX8_plays_52
      · skip
        refine lv_aload_n S.1 S.2.1 dX8_plays_10 rfl (lv_at hl 0 rfl) ?_
        refine nv_cVi (rest := []) (ws' := mdM Z b ((X.1, tkN X.1 X.2 j).1, tkP (X.1, tkN X.1 X.2 j).1 (X.1, tkN X.1 X.2 j).2) sv sd sm th tl pl ro nu t r) S w hl.1 (c_X8_tick l D Z b (X.1, tkN X.1 X.2 j) sv sd sm th tl pl ro nu t r hs (tkN_PB hs hp j)) [0, 1, 2, 3, 4, 5] rfl rfl rfl rfl gX8_plays_X8_tick rfl hdV_X8_tick ⟨Nat.le_of_ble_eq_true rfl, Nat.le_of_ble_eq_true rfl⟩ (q0 := 0) rfl rfl rfl rfl (Nat.le_of_ble_eq_true rfl) ⟨Nat.zero_le _, Nat.zero_le _⟩ dX8_plays_11 (fun H locs w => ?_)
        refine lv_istore (lv' := [(4, vI (bP ((tkP (X.1, tkN X.1 X.2 j).1 (X.1, tkN X.1 X.2 j).2).1 5 = (X.1, tkN X.1 X.2 j).2.1 5 + 1))), (0, .ref (b 0)), (1, vI n), (2, .int x), (3, vI j)]) S.1 S.2.1 dX8_plays_14 hl (by decide) rfl (fun ls hl => ?_)
        refine lv_iconst (v := nI 0) S.1 S.2.1 dX8_plays_16 (ofInt_nI 0) ?_
        refine lv_istore (lv' := [(5, vI 0), (4, vI (bP ((tkP (X.1, tkN X.1 X.2 j).1 (X.1, tkN X.1 X.2 j).2).1 5 = (X.1, tkN X.1 X.2 j).2.1 5 + 1))), (0, .ref (b 0)), (1, vI n), (2, .int x), (3, vI j)]) S.1 S.2.1 dX8_plays_17 hl (by decide) rfl (fun ls hl => ?_)
        exact (ih).1 j 0 x (by omega) (by omega) ex (by omega) _ _ _ (lv_sub hl [2, 3, 4, 5, 0] rfl) (w.as rfl)
set_option maxRecDepth 100000 in
set_option maxHeartbeats 4000000 in
theorem c_X8_plays (l : Launch) (D : va_G) (Z : Nat → ClassId) (b : Nat → Nat) (X : ST) (sv sd : Nat → Nat) (sm th tl pl ro nu : Nat) (t r : Nat → Nat) (n : Nat) (hs : SB X.1) (hp : PB X.1 X.2) (hn : n < 2 ^ 31) : Ci l yX8_plays wsX8_plays 5 112 D Z [.ref (b 0), vI n] (mdM Z b X sv sd sm th tl pl ro nu t r) (hsN X.1 X.2 n) (mdM Z b (X.1, tkN X.1 X.2 n) sv sd sm th tl pl ro nu t r) := by
  refine ne_i (cc := cX8_plays) (maxL := 6) (by decide +kernel) rfl (Nat.le_of_ble_eq_true rfl) (fun p e s m args below meth c A ls (S : CallFix p m c cX8_plays 6 s args wsX8_plays RX8) hr hlocks hl w => ?_)
  have hl : lv_has ls 6 [(0, .ref (b 0)), (1, vI n)] := hl
  refine lv_bipush (v := nI 17) S.1 S.2.1 dX8_plays_0 (by decide +kernel) ?_
  refine lv_istore_n (lv' := [(2, vI 17), (0, .ref (b 0)), (1, vI n)]) S.1 S.2.1 dX8_plays_2 rfl hl (by decide) rfl (fun ls hl => ?_)
  refine lv_iconst (v := nI 0) S.1 S.2.1 dX8_plays_3 (ofInt_nI 0) ?_
  refine lv_istore_n (lv' := [(3, vI 0), (2, vI 17), (0, .ref (b 0)), (1, vI n)]) S.1 S.2.1 dX8_plays_4 rfl hl (by decide) rfl (fun ls hl => ?_)
  exact (k_X8_plays l D Z b X sv sd sm th tl pl ro nu t r n hs hp hn S hr hlocks _).2 0 (nI 17) (by omega) rfl (Nat.lt_succ_self _) _ _ _ (lv_sub hl [2, 3, 1, 0] rfl) w

theorem hdV_X8_laysAside : yX8_laysAside.cls = RX8 ∧ yX8_laysAside.cls ≠ "java/lang/invoke/MethodHandle" ∧ yX8_laysAside.cls ≠ "java/lang/invoke/VarHandle" ∧ (parseMethodDescriptor yX8_laysAside.desc).map (fun d => d.parameters.length) = some 0 := by decide +kernel
theorem hdV_X8_plays : yX8_plays.cls = RX8 ∧ yX8_plays.cls ≠ "java/lang/invoke/MethodHandle" ∧ yX8_plays.cls ≠ "java/lang/invoke/VarHandle" ∧ (parseMethodDescriptor yX8_plays.desc).map (fun d => d.parameters.length) = some 1 := by decide +kernel
theorem hdV_X8_takesBack : yX8_takesBack.cls = RX8 ∧ yX8_takesBack.cls ≠ "java/lang/invoke/MethodHandle" ∧ yX8_takesBack.cls ≠ "java/lang/invoke/VarHandle" ∧ (parseMethodDescriptor yX8_takesBack.desc).map (fun d => d.parameters.length) = some 0 := by decide +kernel
set_option maxRecDepth 100000 in
set_option maxHeartbeats 4000000 in
theorem c_X8_hashIf (l : Launch) (D : va_G) (Z : Nat → ClassId) (b : Nat → Nat) (X : ST) (sv sd : Nat → Nat) (sm th tl pl ro nu : Nat) (t r : Nat → Nat) (n : Nat) (hs : SB X.1) (hp : PB X.1 X.2) (hn : n < 2 ^ 31) : Ci l yX8_hashIf wsX8_hashIf 6 137 D Z [.ref (b 0), vI n] (mdM Z b X sv sd sm th tl pl ro nu t r) (hsN X.1 X.2 n) (mdM Z b X sv (enc X) sm th tl pl ro nu t r) := by
  refine ne_i (cc := cX8_hashIf) (maxL := 3) (by decide +kernel) rfl (Nat.le_of_ble_eq_true rfl) (fun p e s m args below meth c A ls (S : CallFix p m c cX8_hashIf 3 s args wsX8_hashIf RX8) hr hlocks hl w => ?_)
  have hl : lv_has ls 3 [(0, .ref (b 0)), (1, vI n)] := hl
  refine lv_aload_n S.1 S.2.1 dX8_hashIf_0 rfl (lv_at hl 0 rfl) ?_
  refine nv_cVv (rest := []) (ws' := mdM Z b X sv (enc X) sm th tl pl ro nu t r) S w hl.1 (c_X8_laysAside l D Z b X sv sd sm th tl pl ro nu t r ) [0, 1, 2, 3, 4, 5] rfl rfl rfl rfl gX8_hashIf_X8_laysAside rfl hdV_X8_laysAside ⟨Nat.le_of_ble_eq_true rfl, Nat.le_of_ble_eq_true rfl⟩ (q0 := 0) rfl rfl rfl rfl (Nat.le_of_ble_eq_true rfl) ⟨Nat.zero_le _, Nat.zero_le _⟩ dX8_hashIf_1 (fun H locs w => ?_)
  refine lv_aload_n S.1 S.2.1 dX8_hashIf_4 rfl (lv_at hl 0 rfl) ?_
  refine lv_iload_n S.1 S.2.1 dX8_hashIf_5 rfl (lv_at hl 1 rfl) ?_
  refine nv_cVi (rest := []) (ws' := mdM Z b (X.1, tkN X.1 X.2 n) sv (enc X) sm th tl pl ro nu t r) S w hl.1 (c_X8_plays l D Z b X sv (enc X) sm th tl pl ro nu t r n hs hp (by omega)) [0, 1, 2, 3, 4, 5] rfl rfl rfl rfl gX8_hashIf_X8_plays rfl hdV_X8_plays ⟨Nat.le_of_ble_eq_true rfl, Nat.le_of_ble_eq_true rfl⟩ (q0 := 0) rfl rfl rfl rfl (Nat.le_of_ble_eq_true rfl) ⟨Nat.zero_le _, Nat.zero_le _⟩ dX8_hashIf_6 (fun H locs w => ?_)
  refine lv_istore_n (lv' := [(2, .int (hsN X.1 X.2 n)), (0, .ref (b 0)), (1, vI n)]) S.1 S.2.1 dX8_hashIf_9 rfl hl (by decide) rfl (fun ls hl => ?_)
  refine lv_aload_n S.1 S.2.1 dX8_hashIf_10 rfl (lv_at hl 1 rfl) ?_
  refine nv_cVv (rest := []) (ws' := mdM Z b X sv (enc X) sm th tl pl ro nu t r) S w hl.1 (c_X8_takesBack l D Z b (X.1, tkN X.1 X.2 n) X sv sm th tl pl ro nu t r ) [0, 1, 2, 3, 4, 5] rfl rfl rfl rfl gX8_hashIf_X8_takesBack rfl hdV_X8_takesBack ⟨Nat.le_of_ble_eq_true rfl, Nat.le_of_ble_eq_true rfl⟩ (q0 := 0) rfl rfl rfl rfl (Nat.le_of_ble_eq_true rfl) ⟨Nat.zero_le _, Nat.zero_le _⟩ dX8_hashIf_11 (fun H locs w => ?_)
  refine lv_iload_n S.1 S.2.1 dX8_hashIf_14 rfl (lv_at hl 0 rfl) ?_
  exact nv_iret S w hr hlocks rfl rfl rfl dX8_hashIf_15
