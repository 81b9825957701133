theorem hn_X7_digest_7 : ∀ w ∈ wsX70, w ∈ wsX7_digest := by decide +kernel
theorem hn_X7_digest_5 : ∀ w ∈ wsX50, w ∈ wsX7_digest := by decide +kernel
theorem hn_X7_digest_1 : ∀ w ∈ wsX10, w ∈ wsX7_digest := by decide +kernel
theorem hn_X7_digest_4 : ∀ w ∈ wsX40, w ∈ wsX7_digest := by decide +kernel
theorem hn_X7_digest_3 : ∀ w ∈ wsX30, w ∈ wsX7_digest := by decide +kernel
theorem hdV_X4_digestPattern : yX4_digestPattern.cls = RX4 ∧ yX4_digestPattern.cls ≠ "java/lang/invoke/MethodHandle" ∧ yX4_digestPattern.cls ≠ "java/lang/invoke/VarHandle" ∧ (parseMethodDescriptor yX4_digestPattern.desc).map (fun d => d.parameters.length) = some 2 := by decide +kernel
theorem hn_X7_digest_2 : ∀ w ∈ wsX20, w ∈ wsX7_digest := by decide +kernel
set_option maxRecDepth 100000 in
set_option maxHeartbeats 4000000 in
theorem k_X7_digest (l : Launch) (D : va_G) (Z : Nat → ClassId) (z : Nat → Nat → Nat) (X : ST) (o n : Nat) (Y : Nat → ST) (tl ti ta tr : Nat) (t : Nat → Nat) (k : Nat → Nat → Nat) (P9 : PG) (hX : XB X) (ho : o < 4) (hn : n ≤ 4) {p : Program} {e : Env} {s : State} {m : MethodId} {args : Array Value} {below : List Frame} {meth : Method} {c : Code} {A : Nat → Prop} (S : CallFix p m c cX7_digest 8 s args wsX7_digest RX7) (hr : meth.sig.returnType = (some .long)) (hlocks : meth.locks = false) : ∀ (n9 : Nat), (∀ (i j : Nat) (h : Int64) (hi4 : i < 4) (hj8 : j ≤ 8) (eh : h = dgV X.2.2 (dgN X.1.2.2.1 (dgP X.1 (dg1 X tl) 6) X.1.2.2.2) (8 * i + j)) (hm : 1000 - 10 * i - 1 - j < n9), ∀ (H : Heap) (locs : List Loc) (ls : Array Slot) (hl : lv_has ls 8 [(0, .ref (z 0 0)), (1, .long h), (3, .ref (z 1 6)), (4, vI 4), (5, vI i), (6, .ref (z 1 (7 + 3 * i))), (7, vI j)]) (w : Wd D Z A s (tpO Z z ++ plB Z (z 8) P9 ++ stO Z ((z 1) 0) ((z 1) 1) ((z 1) 5) ++ plB Z (fun k => (z 1) (5 + k)) X.2 ++ songB Z ((z 1) 1) ((z 1) 2) ((z 1) 3) ((z 1) 4) X.1 ++ ptB Z (z 7 0) (z 7 1) (z 7 2) tl ti ta tr t k ++ hiB Z (z 2 0) (z 2 1) (fun r => z (3 + r)) o n Y) H locs), W p l e (rmO 6 146) s m args below meth c H locs 0 0 (Ql below D Z A args s (dgA X tl n) (tpO Z z ++ plB Z (z 8) (tkN X.1 X.2 40) ++ stB Z (z 1) X ++ ptB Z (z 7 0) (z 7 1) (z 7 2) tl ti ta tr t k ++ hiB Z (z 2 0) (z 2 1) (fun r => z (3 + r)) o n Y)) (F0 m 142 ls [])) ∧ (∀ (i : Nat) (h : Int64) (hi4 : i ≤ 4) (eh : h = dgV X.2.2 (dgN X.1.2.2.1 (dgP X.1 (dg1 X tl) 6) X.1.2.2.2) (8 * i)) (hm : 1000 - 10 * i < n9), ∀ (H : Heap) (locs : List Loc) (ls : Array Slot) (hl : lv_has ls 8 [(0, .ref (z 0 0)), (1, .long h), (3, .ref (z 1 6)), (4, vI 4), (5, vI i)]) (w : Wd D Z A s (tpO Z z ++ plB Z (z 8) P9 ++ stO Z ((z 1) 0) ((z 1) 1) ((z 1) 5) ++ plB Z (fun k => (z 1) (5 + k)) X.2 ++ songB Z ((z 1) 1) ((z 1) 2) ((z 1) 3) ((z 1) 4) X.1 ++ ptB Z (z 7 0) (z 7 1) (z 7 2) tl ti ta tr t k ++ hiB Z (z 2 0) (z 2 1) (fun r => z (3 + r)) o n Y) H locs), W p l e (rmO 6 146) s m args below meth c H locs 0 0 (Ql below D Z A args s (dgA X tl n) (tpO Z z ++ plB Z (z 8) (tkN X.1 X.2 40) ++ stB Z (z 1) X ++ ptB Z (z 7 0) (z 7 1) (z 7 2) tl ti ta tr t k ++ hiB Z (z 2 0) (z 2 1) (fun r => z (3 + r)) o n Y)) (F0 m 126 ls [])) := by
  intro n9
  have hp8 := hX.1.2.2.2.1
  induction n9 with
  | zero => exact ⟨fun i j h hi4 hj8 eh hm => absurd hm (Nat.not_lt_zero _), fun i h hi4 eh hm => absurd hm (Nat.not_lt_zero _)⟩
  | succ n9 ih =>
    refine ⟨?_, ?_⟩
    · intro i j h hi4 hj8 eh hm H locs ls hl w
      refine lv_iload S.1 S.2.1 dX7_digest_142 (lv_at hl 6 rfl) ?_
      refine lv_bipush (v := nI 8) S.1 S.2.1 dX7_digest_144 (by decide +kernel) ?_
      refine nv_icmp_ge S (by omega) (by omega) (tgt := 170) dX7_digest_146 (by decide) (fun h_1 => ?_) (fun h_1 => ?_)
      · skip
        refine lv_iinc (v := nI (i + 1)) (lv' := [(5, vI (i + 1)), (0, .ref (z 0 0)), (1, .long h), (3, .ref (z 1 6)), (4, vI 4), (6, .ref (z 1 (7 + 3 * i))), (7, vI j)]) S.1 S.2.1 dX7_digest_170 hl (k := 4) rfl (nI_incI i 1) (by decide) rfl (fun ls hl => ?_)
        refine lv_goto (tgt := 126) S.1 S.2.1 dX7_digest_173 (by decide) ?_
        exact (ih).2 (i + 1) h (by omega) (by rw [eh, show j = 8 by omega]; rfl) (by omega) _ _ _ (lv_sub hl [1, 2, 3, 4, 0] rfl) w
      · skip
        rcases (show i = 0 ∨ i = 1 ∨ i = 2 ∨ i = 3 by omega) with rfl | rfl | rfl | rfl
        · skip
          refine lv_ldc2 (v := 31) S.1 S.2.1 S.2.2.2.1 (S.2.2.2.2 _ (by decide +kernel)) dX7_digest_149 ?_
          refine lv_lload_n S.1 S.2.1 dX7_digest_152 rfl (lv_at hl 1 rfl) ?_
          refine lv_lmul S.1 S.2.1 dX7_digest_153 ?_
          have w := w.as (ws' := tpO Z z ++ plB Z (z 8) P9 ++ stO Z ((z 1) 0) ((z 1) 1) ((z 1) 5) ++ plO Z ((z 1) 5) ((z 1) 6) X.2.1 ++ plA Z (fun k => (z 1) (5 + k)) ++ voiceB Z ((z 1) 7) ((z 1) 8) ((z 1) 9) (X.2.2 0) ++ voiceB Z ((z 1) 10) ((z 1) 11) ((z 1) 12) (X.2.2 1) ++ voiceB Z ((z 1) 13) ((z 1) 14) ((z 1) 15) (X.2.2 2) ++ voiceB Z ((z 1) 16) ((z 1) 17) ((z 1) 18) (X.2.2 3) ++ songB Z ((z 1) 1) ((z 1) 2) ((z 1) 3) ((z 1) 4) X.1 ++ ptB Z (z 7 0) (z 7 1) (z 7 2) tl ti ta tr t k ++ hiB Z (z 2 0) (z 2 1) (fun r => z (3 + r)) o n Y) (by simp only [plB, List.append_assoc, Nat.reduceAdd])
          refine lv_aload S.1 S.2.1 dX7_digest_154 (lv_at hl 5 rfl) ?_
          refine lv_iload S.1 S.2.1 dX7_digest_156 (lv_at hl 6 rfl) ?_
          refine nv_gVi (rest := [.long (31 * h)]) (tpO Z z ++ plB Z (z 8) P9 ++ stO Z ((z 1) 0) ((z 1) 1) ((z 1) 5) ++ plO Z ((z 1) 5) ((z 1) 6) X.2.1 ++ plA Z (fun k => (z 1) (5 + k))) (voiceB Z ((z 1) 10) ((z 1) 11) ((z 1) 12) (X.2.2 1) ++ voiceB Z ((z 1) 13) ((z 1) 14) ((z 1) 15) (X.2.2 2) ++ voiceB Z ((z 1) 16) ((z 1) 17) ((z 1) 18) (X.2.2 3) ++ songB Z ((z 1) 1) ((z 1) 2) ((z 1) 3) ((z 1) 4) X.1 ++ ptB Z (z 7 0) (z 7 1) (z 7 2) tl ti ta tr t k ++ hiB Z (z 2 0) (z 2 1) (fun r => z (3 + r)) o n Y) S w hl.1 (c_X6_fact l D Z ((z 1) 7) ((z 1) 8) ((z 1) 9) (X.2.2 0) j (hX.2.1.2.2.2.2.2 0 (by decide)).1 (by omega)) (by simp only [List.append_assoc, List.nil_append, List.append_nil]) gX7_digest_X6_fact rfl hdV_X6_fact ⟨Nat.le_of_ble_eq_true rfl, Nat.le_of_ble_eq_true rfl⟩ (q0 := 0) rfl rfl rfl rfl (Nat.le_of_ble_eq_true rfl) ⟨Nat.zero_le _, Nat.zero_le _⟩ dX7_digest_158 (fun H locs w => ?_)
          have w := w.as (ws' := tpO Z z ++ plB Z (z 8) P9 ++ stO Z ((z 1) 0) ((z 1) 1) ((z 1) 5) ++ plB Z (fun k => (z 1) (5 + k)) X.2 ++ songB Z ((z 1) 1) ((z 1) 2) ((z 1) 3) ((z 1) 4) X.1 ++ ptB Z (z 7 0) (z 7 1) (z 7 2) tl ti ta tr t k ++ hiB Z (z 2 0) (z 2 1) (fun r => z (3 + r)) o n Y) (by simp only [plB, List.append_assoc, Nat.reduceAdd])
          refine lv_i2l (v := (factV (X.2.2 0) j).toInt64) S.1 S.2.1 dX7_digest_161 rfl ?_
          refine lv_ladd S.1 S.2.1 dX7_digest_162 ?_
          refine lv_lstore_n (lv' := [(1, .long ((31 * h) + ((factV (X.2.2 0) j).toInt64))), (0, .ref (z 0 0)), (3, .ref (z 1 6)), (4, vI 4), (5, vI 0), (6, .ref ((z 1) 7)), (7, vI j)]) S.1 S.2.1 dX7_digest_163 rfl hl (by decide) rfl (fun ls hl => ?_)
          refine lv_iinc (v := nI (j + 1)) (lv' := [(7, vI (j + 1)), (1, .long ((31 * h) + ((factV (X.2.2 0) j).toInt64))), (0, .ref (z 0 0)), (3, .ref (z 1 6)), (4, vI 4), (5, vI 0), (6, .ref ((z 1) 7))]) S.1 S.2.1 dX7_digest_164 hl (k := 6) rfl (nI_incI j 1) (by decide) rfl (fun ls hl => ?_)
          refine lv_goto (tgt := 142) S.1 S.2.1 dX7_digest_167 (by decide) ?_
          exact (ih).1 0 (j + 1) ((31 * h) + ((factV (X.2.2 0) j).toInt64)) (by omega) (by omega) (by rw [eh]; show _ = 31 * dgV X.2.2 _ (8 * 0 + j) + (factV (X.2.2 ((8 * 0 + j) / 8)) ((8 * 0 + j) % 8)).toInt64; rw [show (8 * 0 + j) / 8 = 0 by omega, show (8 * 0 + j) % 8 = j by omega]) (by omega) _ _ _ (lv_sub hl [2, 1, 3, 4, 5, 6, 0] rfl) w
        · skip
          refine lv_ldc2 (v := 31) S.1 S.2.1 S.2.2.2.1 (S.2.2.2.2 _ (by decide +kernel)) dX7_digest_149 ?_
          refine lv_lload_n S.1 S.2.1 dX7_digest_152 rfl (lv_at hl 1 rfl) ?_
          refine lv_lmul S.1 S.2.1 dX7_digest_153 ?_
          have w := w.as (ws' := tpO Z z ++ plB Z (z 8) P9 ++ stO Z ((z 1) 0) ((z 1) 1) ((z 1) 5) ++ plO Z ((z 1) 5) ((z 1) 6) X.2.1 ++ plA Z (fun k => (z 1) (5 + k)) ++ voiceB Z ((z 1) 7) ((z 1) 8) ((z 1) 9) (X.2.2 0) ++ voiceB Z ((z 1) 10) ((z 1) 11) ((z 1) 12) (X.2.2 1) ++ voiceB Z ((z 1) 13) ((z 1) 14) ((z 1) 15) (X.2.2 2) ++ voiceB Z ((z 1) 16) ((z 1) 17) ((z 1) 18) (X.2.2 3) ++ songB Z ((z 1) 1) ((z 1) 2) ((z 1) 3) ((z 1) 4) X.1 ++ ptB Z (z 7 0) (z 7 1) (z 7 2) tl ti ta tr t k ++ hiB Z (z 2 0) (z 2 1) (fun r => z (3 + r)) o n Y) (by simp only [plB, List.append_assoc, Nat.reduceAdd])
          refine lv_aload S.1 S.2.1 dX7_digest_154 (lv_at hl 5 rfl) ?_
          refine lv_iload S.1 S.2.1 dX7_digest_156 (lv_at hl 6 rfl) ?_
          refine nv_gVi (rest := [.long (31 * h)]) (tpO Z z ++ plB Z (z 8) P9 ++ stO Z ((z 1) 0) ((z 1) 1) ((z 1) 5) ++ plO Z ((z 1) 5) ((z 1) 6) X.2.1 ++ plA Z (fun k => (z 1) (5 + k)) ++ voiceB Z ((z 1) 7) ((z 1) 8) ((z 1) 9) (X.2.2 0)) (voiceB Z ((z 1) 13) ((z 1) 14) ((z 1) 15) (X.2.2 2) ++ voiceB Z ((z 1) 16) ((z 1) 17) ((z 1) 18) (X.2.2 3) ++ songB Z ((z 1) 1) ((z 1) 2) ((z 1) 3) ((z 1) 4) X.1 ++ ptB Z (z 7 0) (z 7 1) (z 7 2) tl ti ta tr t k ++ hiB Z (z 2 0) (z 2 1) (fun r => z (3 + r)) o n Y) S w hl.1 (c_X6_fact l D Z ((z 1) 10) ((z 1) 11) ((z 1) 12) (X.2.2 1) j (hX.2.1.2.2.2.2.2 1 (by decide)).1 (by omega)) (by simp only [List.append_assoc, List.nil_append, List.append_nil]) gX7_digest_X6_fact rfl hdV_X6_fact ⟨Nat.le_of_ble_eq_true rfl, Nat.le_of_ble_eq_true rfl⟩ (q0 := 0) rfl rfl rfl rfl (Nat.le_of_ble_eq_true rfl) ⟨Nat.zero_le _, Nat.zero_le _⟩ dX7_digest_158 (fun H locs w => ?_)
          have w := w.as (ws' := tpO Z z ++ plB Z (z 8) P9 ++ stO Z ((z 1) 0) ((z 1) 1) ((z 1) 5) ++ plB Z (fun k => (z 1) (5 + k)) X.2 ++ songB Z ((z 1) 1) ((z 1) 2) ((z 1) 3) ((z 1) 4) X.1 ++ ptB Z (z 7 0) (z 7 1) (z 7 2) tl ti ta tr t k ++ hiB Z (z 2 0) (z 2 1) (fun r => z (3 + r)) o n Y) (by simp only [plB, List.append_assoc, Nat.reduceAdd])
          refine lv_i2l (v := (factV (X.2.2 1) j).toInt64) S.1 S.2.1 dX7_digest_161 rfl ?_
          refine lv_ladd S.1 S.2.1 dX7_digest_162 ?_
          refine lv_lstore_n (lv' := [(1, .long ((31 * h) + ((factV (X.2.2 1) j).toInt64))), (0, .ref (z 0 0)), (3, .ref (z 1 6)), (4, vI 4), (5, vI 1), (6, .ref ((z 1) 10)), (7, vI j)]) S.1 S.2.1 dX7_digest_163 rfl hl (by decide) rfl (fun ls hl => ?_)
          refine lv_iinc (v := nI (j + 1)) (lv' := [(7, vI (j + 1)), (1, .long ((31 * h) + ((factV (X.2.2 1) j).toInt64))), (0, .ref (z 0 0)), (3, .ref (z 1 6)), (4, vI 4), (5, vI 1), (6, .ref ((z 1) 10))]) S.1 S.2.1 dX7_digest_164 hl (k := 6) rfl (nI_incI j 1) (by decide) rfl (fun ls hl => ?_)
          refine lv_goto (tgt := 142) S.1 S.2.1 dX7_digest_167 (by decide) ?_
          exact (ih).1 1 (j + 1) ((31 * h) + ((factV (X.2.2 1) j).toInt64)) (by omega) (by omega) (by rw [eh]; show _ = 31 * dgV X.2.2 _ (8 * 1 + j) + (factV (X.2.2 ((8 * 1 + j) / 8)) ((8 * 1 + j) % 8)).toInt64; rw [show (8 * 1 + j) / 8 = 1 by omega, show (8 * 1 + j) % 8 = j by omega]) (by omega) _ _ _ (lv_sub hl [2, 1, 3, 4, 5, 6, 0] rfl) w
        · skip
          refine lv_ldc2 (v := 31) S.1 S.2.1 S.2.2.2.1 (S.2.2.2.2 _ (by decide +kernel)) dX7_digest_149 ?_
          refine lv_lload_n S.1 S.2.1 dX7_digest_152 rfl (lv_at hl 1 rfl) ?_
          refine lv_lmul S.1 S.2.1 dX7_digest_153 ?_
          have w := w.as (ws' := tpO Z z ++ plB Z (z 8) P9 ++ stO Z ((z 1) 0) ((z 1) 1) ((z 1) 5) ++ plO Z ((z 1) 5) ((z 1) 6) X.2.1 ++ plA Z (fun k => (z 1) (5 + k)) ++ voiceB Z ((z 1) 7) ((z 1) 8) ((z 1) 9) (X.2.2 0) ++ voiceB Z ((z 1) 10) ((z 1) 11) ((z 1) 12) (X.2.2 1) ++ voiceB Z ((z 1) 13) ((z 1) 14) ((z 1) 15) (X.2.2 2) ++ voiceB Z ((z 1) 16) ((z 1) 17) ((z 1) 18) (X.2.2 3) ++ songB Z ((z 1) 1) ((z 1) 2) ((z 1) 3) ((z 1) 4) X.1 ++ ptB Z (z 7 0) (z 7 1) (z 7 2) tl ti ta tr t k ++ hiB Z (z 2 0) (z 2 1) (fun r => z (3 + r)) o n Y) (by simp only [plB, List.append_assoc, Nat.reduceAdd])
          refine lv_aload S.1 S.2.1 dX7_digest_154 (lv_at hl 5 rfl) ?_
          refine lv_iload S.1 S.2.1 dX7_digest_156 (lv_at hl 6 rfl) ?_
          refine nv_gVi (rest := [.long (31 * h)]) (tpO Z z ++ plB Z (z 8) P9 ++ stO Z ((z 1) 0) ((z 1) 1) ((z 1) 5) ++ plO Z ((z 1) 5) ((z 1) 6) X.2.1 ++ plA Z (fun k => (z 1) (5 + k)) ++ voiceB Z ((z 1) 7) ((z 1) 8) ((z 1) 9) (X.2.2 0) ++ voiceB Z ((z 1) 10) ((z 1) 11) ((z 1) 12) (X.2.2 1)) (voiceB Z ((z 1) 16) ((z 1) 17) ((z 1) 18) (X.2.2 3) ++ songB Z ((z 1) 1) ((z 1) 2) ((z 1) 3) ((z 1) 4) X.1 ++ ptB Z (z 7 0) (z 7 1) (z 7 2) tl ti ta tr t k ++ hiB Z (z 2 0) (z 2 1) (fun r => z (3 + r)) o n Y) S w hl.1 (c_X6_fact l D Z ((z 1) 13) ((z 1) 14) ((z 1) 15) (X.2.2 2) j (hX.2.1.2.2.2.2.2 2 (by decide)).1 (by omega)) (by simp only [List.append_assoc, List.nil_append, List.append_nil]) gX7_digest_X6_fact rfl hdV_X6_fact ⟨Nat.le_of_ble_eq_true rfl, Nat.le_of_ble_eq_true rfl⟩ (q0 := 0) rfl rfl rfl rfl (Nat.le_of_ble_eq_true rfl) ⟨Nat.zero_le _, Nat.zero_le _⟩ dX7_digest_158 (fun H locs w => ?_)
          have w := w.as (ws' := tpO Z z ++ plB Z (z 8) P9 ++ stO Z ((z 1) 0) ((z 1) 1) ((z 1) 5) ++ plB Z (fun k => (z 1) (5 + k)) X.2 ++ songB Z ((z 1) 1) ((z 1) 2) ((z 1) 3) ((z 1) 4) X.1 ++ ptB Z (z 7 0) (z 7 1) (z 7 2) tl ti ta tr t k ++ hiB Z (z 2 0) (z 2 1) (fun r => z (3 + r)) o n Y) (by simp only [plB, List.append_assoc, Nat.reduceAdd])
          refine lv_i2l (v := (factV (X.2.2 2) j).toInt64) S.1 S.2.1 dX7_digest_161 rfl ?_
          refine lv_ladd S.1 S.2.1 dX7_digest_162 ?_
          refine lv_lstore_n (lv' := [(1, .long ((31 * h) + ((factV (X.2.2 2) j).toInt64))), (0, .ref (z 0 0)), (3, .ref (z 1 6)), (4, vI 4), (5, vI 2), (6, .ref ((z 1) 13)), (7, vI j)]) S.1 S.2.1 dX7_digest_163 rfl hl (by decide) rfl (fun ls hl => ?_)
          refine lv_iinc (v := nI (j + 1)) (lv' := [(7, vI (j + 1)), (1, .long ((31 * h) + ((factV (X.2.2 2) j).toInt64))), (0, .ref (z 0 0)), (3, .ref (z 1 6)), (4, vI 4), (5, vI 2), (6, .ref ((z 1) 13))]) S.1 S.2.1 dX7_digest_164 hl (k := 6) rfl (nI_incI j 1) (by decide) rfl (fun ls hl => ?_)
          refine lv_goto (tgt := 142) S.1 S.2.1 dX7_digest_167 (by decide) ?_
          exact (ih).1 2 (j + 1) ((31 * h) + ((factV (X.2.2 2) j).toInt64)) (by omega) (by omega) (by rw [eh]; show _ = 31 * dgV X.2.2 _ (8 * 2 + j) + (factV (X.2.2 ((8 * 2 + j) / 8)) ((8 * 2 + j) % 8)).toInt64; rw [show (8 * 2 + j) / 8 = 2 by omega, show (8 * 2 + j) % 8 = j by omega]) (by omega) _ _ _ (lv_sub hl [2, 1, 3, 4, 5, 6, 0] rfl) w
        · skip
          refine lv_ldc2 (v := 31) S.1 S.2.1 S.2.2.2.1 (S.2.2.2.2 _ (by decide +kernel)) dX7_digest_149 ?_
          refine lv_lload_n S.1 S.2.1 dX7_digest_152 rfl (lv_at hl 1 rfl) ?_
          refine lv_lmul S.1 S.2.1 dX7_digest_153 ?_
          have w := w.as (ws' := tpO Z z ++ plB Z (z 8) P9 ++ stO Z ((z 1) 0) ((z 1) 1) ((z 1) 5) ++ plO Z ((z 1) 5) ((z 1) 6) X.2.1 ++ plA Z (fun k => (z 1) (5 + k)) ++ voiceB Z ((z 1) 7) ((z 1) 8) ((z 1) 9) (X.2.2 0) ++ voiceB Z ((z 1) 10) ((z 1) 11) ((z 1) 12) (X.2.2 1) ++ voiceB Z ((z 1) 13) ((z 1) 14) ((z 1) 15) (X.2.2 2) ++ voiceB Z ((z 1) 16) ((z 1) 17) ((z 1) 18) (X.2.2 3) ++ songB Z ((z 1) 1) ((z 1) 2) ((z 1) 3) ((z 1) 4) X.1 ++ ptB Z (z 7 0) (z 7 1) (z 7 2) tl ti ta tr t k ++ hiB Z (z 2 0) (z 2 1) (fun r => z (3 + r)) o n Y) (by simp only [plB, List.append_assoc, Nat.reduceAdd])
          refine lv_aload S.1 S.2.1 dX7_digest_154 (lv_at hl 5 rfl) ?_
          refine lv_iload S.1 S.2.1 dX7_digest_156 (lv_at hl 6 rfl) ?_
          refine nv_gVi (rest := [.long (31 * h)]) (tpO Z z ++ plB Z (z 8) P9 ++ stO Z ((z 1) 0) ((z 1) 1) ((z 1) 5) ++ plO Z ((z 1) 5) ((z 1) 6) X.2.1 ++ plA Z (fun k => (z 1) (5 + k)) ++ voiceB Z ((z 1) 7) ((z 1) 8) ((z 1) 9) (X.2.2 0) ++ voiceB Z ((z 1) 10) ((z 1) 11) ((z 1) 12) (X.2.2 1) ++ voiceB Z ((z 1) 13) ((z 1) 14) ((z 1) 15) (X.2.2 2)) (songB Z ((z 1) 1) ((z 1) 2) ((z 1) 3) ((z 1) 4) X.1 ++ ptB Z (z 7 0) (z 7 1) (z 7 2) tl ti ta tr t k ++ hiB Z (z 2 0) (z 2 1) (fun r => z (3 + r)) o n Y) S w hl.1 (c_X6_fact l D Z ((z 1) 16) ((z 1) 17) ((z 1) 18) (X.2.2 3) j (hX.2.1.2.2.2.2.2 3 (by decide)).1 (by omega)) (by simp only [List.append_assoc, List.nil_append, List.append_nil]) gX7_digest_X6_fact rfl hdV_X6_fact ⟨Nat.le_of_ble_eq_true rfl, Nat.le_of_ble_eq_true rfl⟩ (q0 := 0) rfl rfl rfl rfl (Nat.le_of_ble_eq_true rfl) ⟨Nat.zero_le _, Nat.zero_le _⟩ dX7_digest_158 (fun H locs w => ?_)
          have w := w.as (ws' := tpO Z z ++ plB Z (z 8) P9 ++ stO Z ((z 1) 0) ((z 1) 1) ((z 1) 5) ++ plB Z (fun k => (z 1) (5 + k)) X.2 ++ songB Z ((z 1) 1) ((z 1) 2) ((z 1) 3) ((z 1) 4) X.1 ++ ptB Z (z 7 0) (z 7 1) (z 7 2) tl ti ta tr t k ++ hiB Z (z 2 0) (z 2 1) (fun r => z (3 + r)) o n Y) (by simp only [plB, List.append_assoc, Nat.reduceAdd])
          refine lv_i2l (v := (factV (X.2.2 3) j).toInt64) S.1 S.2.1 dX7_digest_161 rfl ?_
          refine lv_ladd S.1 S.2.1 dX7_digest_162 ?_
          refine lv_lstore_n (lv' := [(1, .long ((31 * h) + ((factV (X.2.2 3) j).toInt64))), (0, .ref (z 0 0)), (3, .ref (z 1 6)), (4, vI 4), (5, vI 3), (6, .ref ((z 1) 16)), (7, vI j)]) S.1 S.2.1 dX7_digest_163 rfl hl (by decide) rfl (fun ls hl => ?_)
          refine lv_iinc (v := nI (j + 1)) (lv' := [(7, vI (j + 1)), (1, .long ((31 * h) + ((factV (X.2.2 3) j).toInt64))), (0, .ref (z 0 0)), (3, .ref (z 1 6)), (4, vI 4), (5, vI 3), (6, .ref ((z 1) 16))]) S.1 S.2.1 dX7_digest_164 hl (k := 6) rfl (nI_incI j 1) (by decide) rfl (fun ls hl => ?_)
          refine lv_goto (tgt := 142) S.1 S.2.1 dX7_digest_167 (by decide) ?_
          exact (ih).1 3 (j + 1) ((31 * h) + ((factV (X.2.2 3) j).toInt64)) (by omega) (by omega) (by rw [eh]; show _ = 31 * dgV X.2.2 _ (8 * 3 + j) + (factV (X.2.2 ((8 * 3 + j) / 8)) ((8 * 3 + j) % 8)).toInt64; rw [show (8 * 3 + j) / 8 = 3 by omega, show (8 * 3 + j) % 8 = j by omega]) (by omega) _ _ _ (lv_sub hl [2, 1, 3, 4, 5, 6, 0] rfl) w
    · intro i h hi4 eh hm H locs ls hl w
      refine lv_iload S.1 S.2.1 dX7_digest_126 (lv_at hl 4 rfl) ?_
      refine lv_iload S.1 S.2.1 dX7_digest_128 (lv_at hl 3 rfl) ?_
      refine nv_icmp_ge S (by omega) (by omega) (tgt := 176) dX7_digest_130 (by decide) (fun h_2 => ?_) (fun h_2 => ?_)
      · skip
        refine lv_aload_n S.1 S.2.1 dX7_digest_176 rfl (lv_at hl 0 rfl) ?_
        refine nv_get S w (C := RX7) (T := TX7) (N := 4) hn_X7_digest_7 0 rfl rfl 3 (by decide) (List.mem_of_getElem? (i := 10) rfl) (v := .ref (z 8 0)) rfl dX7_digest_177 ?_
        refine lv_aload_n S.1 S.2.1 dX7_digest_180 rfl (lv_at hl 0 rfl) ?_
        refine nv_get S w (C := RX7) (T := TX7) (N := 4) hn_X7_digest_7 0 rfl rfl 0 (by decide) (List.mem_of_getElem? (i := 5) rfl) (v := .ref (z 1 0)) rfl dX7_digest_181 ?_
        refine nv_get S w (C := RX5) (T := TX5) (N := 2) hn_X7_digest_5 15 rfl rfl 1 (by decide) (List.mem_of_getElem? (i := 8) rfl) (v := .ref ((z 1) 5)) rfl dX7_digest_184 ?_
        have w := w.perm (ws' := tpO Z z ++ plB Z (z 8) P9 ++ plB Z (fun k => (z 1) (5 + k)) X.2 ++ stO Z ((z 1) 0) ((z 1) 1) ((z 1) 5) ++ songB Z ((z 1) 1) ((z 1) 2) ((z 1) 3) ((z 1) 4) X.1 ++ ptB Z (z 7 0) (z 7 1) (z 7 2) tl ti ta tr t k ++ hiB Z (z 2 0) (z 2 1) (fun r => z (3 + r)) o n Y) (List.Perm.append_right _ (List.Perm.append_right _ (List.Perm.append_right _ sw2)))
        refine nv_fVv (rest := []) (tpO Z z) (stO Z ((z 1) 0) ((z 1) 1) ((z 1) 5) ++ songB Z ((z 1) 1) ((z 1) 2) ((z 1) 3) ((z 1) 4) X.1 ++ ptB Z (z 7 0) (z 7 1) (z 7 2) tl ti ta tr t k ++ hiB Z (z 2 0) (z 2 1) (fun r => z (3 + r)) o n Y) (ws' := tpO Z z ++ plB Z (z 8) X.2 ++ plB Z (fun k => (z 1) (5 + k)) X.2 ++ stO Z ((z 1) 0) ((z 1) 1) ((z 1) 5) ++ songB Z ((z 1) 1) ((z 1) 2) ((z 1) 3) ((z 1) 4) X.1 ++ ptB Z (z 7 0) (z 7 1) (z 7 2) tl ti ta tr t k ++ hiB Z (z 2 0) (z 2 1) (fun r => z (3 + r)) o n Y) S w hl.1 (c_X3_copyFrom l D Z (z 8) P9 (fun k => (z 1) (5 + k)) X.2 ) (by simp only [List.append_assoc, List.nil_append, List.append_nil]) rfl (by simp only [List.append_assoc, List.nil_append, List.append_nil]) gX7_digest_X3_copyFrom rfl hdV_X3_copyFrom ⟨Nat.le_of_ble_eq_true rfl, Nat.le_of_ble_eq_true rfl⟩ (q0 := 0) rfl rfl rfl rfl (Nat.le_of_ble_eq_true rfl) ⟨Nat.zero_le _, Nat.zero_le _⟩ dX7_digest_187 (fun H locs w => ?_)
        have w := w.perm (ws' := tpO Z z ++ plB Z (z 8) X.2 ++ stO Z ((z 1) 0) ((z 1) 1) ((z 1) 5) ++ plB Z (fun k => (z 1) (5 + k)) X.2 ++ songB Z ((z 1) 1) ((z 1) 2) ((z 1) 3) ((z 1) 4) X.1 ++ ptB Z (z 7 0) (z 7 1) (z 7 2) tl ti ta tr t k ++ hiB Z (z 2 0) (z 2 1) (fun r => z (3 + r)) o n Y) (List.Perm.append_right _ (List.Perm.append_right _ (List.Perm.append_right _ sw2)))
        refine lv_ldc2 (v := 31) S.1 S.2.1 S.2.2.2.1 (S.2.2.2.2 _ (by decide +kernel)) dX7_digest_190 ?_
        refine lv_lload_n S.1 S.2.1 dX7_digest_193 rfl (lv_at hl 1 rfl) ?_
        refine lv_lmul S.1 S.2.1 dX7_digest_194 ?_
        refine lv_aload_n S.1 S.2.1 dX7_digest_195 rfl (lv_at hl 0 rfl) ?_
        refine nv_get S w (C := RX7) (T := TX7) (N := 4) hn_X7_digest_7 0 rfl rfl 3 (by decide) (List.mem_of_getElem? (i := 10) rfl) (v := .ref (z 8 0)) rfl dX7_digest_196 ?_
        refine lv_aload_n S.1 S.2.1 dX7_digest_199 rfl (lv_at hl 0 rfl) ?_
        refine nv_get S w (C := RX7) (T := TX7) (N := 4) hn_X7_digest_7 0 rfl rfl 0 (by decide) (List.mem_of_getElem? (i := 5) rfl) (v := .ref (z 1 0)) rfl dX7_digest_200 ?_
        refine nv_get S w (C := RX5) (T := TX5) (N := 2) hn_X7_digest_5 15 rfl rfl 0 (by decide) (List.mem_of_getElem? (i := 6) rfl) (v := .ref ((z 1) 1)) rfl dX7_digest_203 ?_
        refine lv_bipush (v := nI 40) S.1 S.2.1 dX7_digest_206 (by decide +kernel) ?_
        obtain ⟨m40, hm40⟩ : ∃ m9, m9 = 40 := ⟨40, rfl⟩
        refine W.eq (g2 := F0 m 208 ls [vI m40, .ref ((z 1) 1), .ref (z 8 0), .long (31 * h)]) (by rw [hm40]) ?_
        have w := w.perm (ws' := tpO Z z ++ plB Z (z 8) X.2 ++ songB Z ((z 1) 1) ((z 1) 2) ((z 1) 3) ((z 1) 4) X.1 ++ stO Z ((z 1) 0) ((z 1) 1) ((z 1) 5) ++ plB Z (fun k => (z 1) (5 + k)) X.2 ++ ptB Z (z 7 0) (z 7 1) (z 7 2) tl ti ta tr t k ++ hiB Z (z 2 0) (z 2 1) (fun r => z (3 + r)) o n Y) (List.Perm.trans (List.Perm.append_right _ (List.Perm.append_right _ sw2)) (List.Perm.append_right _ (List.Perm.append_right _ (List.Perm.append_right _ sw2))))
        refine nv_fVi (rest := [.long (31 * h)]) (tpO Z z) (stO Z ((z 1) 0) ((z 1) 1) ((z 1) 5) ++ plB Z (fun k => (z 1) (5 + k)) X.2 ++ ptB Z (z 7 0) (z 7 1) (z 7 2) tl ti ta tr t k ++ hiB Z (z 2 0) (z 2 1) (fun r => z (3 + r)) o n Y) (ws' := tpO Z z ++ plB Z (z 8) (tkN X.1 X.2 m40) ++ songB Z ((z 1) 1) ((z 1) 2) ((z 1) 3) ((z 1) 4) X.1 ++ stO Z ((z 1) 0) ((z 1) 1) ((z 1) 5) ++ plB Z (fun k => (z 1) (5 + k)) X.2 ++ ptB Z (z 7 0) (z 7 1) (z 7 2) tl ti ta tr t k ++ hiB Z (z 2 0) (z 2 1) (fun r => z (3 + r)) o n Y) S w hl.1 (c_X3_passTicks l D Z (z 8) X.2 ((z 1) 1) ((z 1) 2) ((z 1) 3) ((z 1) 4) X.1 m40 hX.1 hX.2.1 (by omega)) (by simp only [List.append_assoc, List.nil_append, List.append_nil]) rfl (by simp only [List.append_assoc, List.nil_append, List.append_nil]) gX7_digest_X3_passTicks rfl hdV_X3_passTicks ⟨Nat.le_of_ble_eq_true rfl, Nat.le_of_ble_eq_true rfl⟩ (q0 := 0) rfl rfl rfl rfl (Nat.le_of_ble_eq_true rfl) ⟨Nat.zero_le _, Nat.zero_le _⟩ dX7_digest_208 (fun H locs w => ?_)
        have w := w.perm (ws' := tpO Z z ++ plB Z (z 8) (tkN X.1 X.2 m40) ++ stO Z ((z 1) 0) ((z 1) 1) ((z 1) 5) ++ plB Z (fun k => (z 1) (5 + k)) X.2 ++ songB Z ((z 1) 1) ((z 1) 2) ((z 1) 3) ((z 1) 4) X.1 ++ ptB Z (z 7 0) (z 7 1) (z 7 2) tl ti ta tr t k ++ hiB Z (z 2 0) (z 2 1) (fun r => z (3 + r)) o n Y) (List.Perm.trans (List.Perm.append_right _ (List.Perm.append_right _ (List.Perm.append_right _ sw2))) (List.Perm.append_right _ (List.Perm.append_right _ sw2)))
        refine lv_i2l (v := (hsN X.1 X.2 m40).toInt64) S.1 S.2.1 dX7_digest_211 rfl ?_
        refine lv_ladd S.1 S.2.1 dX7_digest_212 ?_
        refine lv_lstore_n (lv' := [(1, .long ((31 * h) + ((hsN X.1 X.2 m40).toInt64))), (0, .ref (z 0 0)), (3, .ref (z 1 6)), (4, vI 4), (5, vI i)]) S.1 S.2.1 dX7_digest_213 rfl hl (by decide) rfl (fun ls hl => ?_)
        refine lv_ldc2 (v := 31) S.1 S.2.1 S.2.2.2.1 (S.2.2.2.2 _ (by decide +kernel)) dX7_digest_214 ?_
        refine lv_lload_n S.1 S.2.1 dX7_digest_217 rfl (lv_at hl 0 rfl) ?_
        refine lv_lmul S.1 S.2.1 dX7_digest_218 ?_
        refine lv_aload_n S.1 S.2.1 dX7_digest_219 rfl (lv_at hl 1 rfl) ?_
        refine nv_get S w (C := RX7) (T := TX7) (N := 4) hn_X7_digest_7 0 rfl rfl 1 (by decide) (List.mem_of_getElem? (i := 11) rfl) (v := .ref (z 2 0)) rfl dX7_digest_220 ?_
        refine nv_get S w (C := RX1) (T := TX1) (N := 3) hn_X7_digest_1 37 rfl rfl 2 (by decide) (List.mem_of_getElem? (i := 12) rfl) (v := vI n) rfl dX7_digest_223 ?_
        refine lv_i2l (v := (nI n).toInt64) S.1 S.2.1 dX7_digest_226 rfl ?_
        refine lv_ladd S.1 S.2.1 dX7_digest_227 ?_
        exact nv_lret S w hr hlocks (by rw [eh, show i = 4 by omega, hm40]; rfl) (by rw [hm40]; simp only [stB, List.append_assoc]) dX7_digest_228
      · skip
        refine lv_aload_n S.1 S.2.1 dX7_digest_133 rfl (lv_at hl 2 rfl) ?_
        refine lv_iload S.1 S.2.1 dX7_digest_134 (lv_at hl 4 rfl) ?_
        rcases (show i = 0 ∨ i = 1 ∨ i = 2 ∨ i = 3 by omega) with rfl | rfl | rfl | rfl
        · skip
          refine nv_aald S w (i := 0) (q := ((z 1) 7)) 17 3 rfl rfl (by omega) (by decide) rfl dX7_digest_136 ?_
          refine lv_astore (lv' := [(6, .ref ((z 1) 7)), (0, .ref (z 0 0)), (1, .long h), (3, .ref (z 1 6)), (4, vI 4), (5, vI 0)]) S.1 S.2.1 dX7_digest_137 hl (by decide) rfl (fun ls hl => ?_)
          refine lv_iconst (v := nI 0) S.1 S.2.1 dX7_digest_139 (ofInt_nI 0) ?_
          refine lv_istore (lv' := [(7, vI 0), (6, .ref ((z 1) 7)), (0, .ref (z 0 0)), (1, .long h), (3, .ref (z 1 6)), (4, vI 4), (5, vI 0)]) S.1 S.2.1 dX7_digest_140 hl (by decide) rfl (fun ls hl => ?_)
          exact (ih).1 0 0 h (by omega) (by omega) eh (by omega) _ _ _ (lv_sub hl [2, 3, 4, 5, 6, 1, 0] rfl) w
        · skip
          refine nv_aald S w (i := 1) (q := ((z 1) 10)) 17 3 rfl rfl (by omega) (by decide) rfl dX7_digest_136 ?_
          refine lv_astore (lv' := [(6, .ref ((z 1) 10)), (0, .ref (z 0 0)), (1, .long h), (3, .ref (z 1 6)), (4, vI 4), (5, vI 1)]) S.1 S.2.1 dX7_digest_137 hl (by decide) rfl (fun ls hl => ?_)
          refine lv_iconst (v := nI 0) S.1 S.2.1 dX7_digest_139 (ofInt_nI 0) ?_
          refine lv_istore (lv' := [(7, vI 0), (6, .ref ((z 1) 10)), (0, .ref (z 0 0)), (1, .long h), (3, .ref (z 1 6)), (4, vI 4), (5, vI 1)]) S.1 S.2.1 dX7_digest_140 hl (by decide) rfl (fun ls hl => ?_)
          exact (ih).1 1 0 h (by omega) (by omega) eh (by omega) _ _ _ (lv_sub hl [2, 3, 4, 5, 6, 1, 0] rfl) w
        · skip
          refine nv_aald S w (i := 2) (q := ((z 1) 13)) 17 3 rfl rfl (by omega) (by decide) rfl dX7_digest_136 ?_
          refine lv_astore (lv' := [(6, .ref ((z 1) 13)), (0, .ref (z 0 0)), (1, .long h), (3, .ref (z 1 6)), (4, vI 4), (5, vI 2)]) S.1 S.2.1 dX7_digest_137 hl (by decide) rfl (fun ls hl => ?_)
          refine lv_iconst (v := nI 0) S.1 S.2.1 dX7_digest_139 (ofInt_nI 0) ?_
          refine lv_istore (lv' := [(7, vI 0), (6, .ref ((z 1) 13)), (0, .ref (z 0 0)), (1, .long h), (3, .ref (z 1 6)), (4, vI 4), (5, vI 2)]) S.1 S.2.1 dX7_digest_140 hl (by decide) rfl (fun ls hl => ?_)
          exact (ih).1 2 0 h (by omega) (by omega) eh (by omega) _ _ _ (lv_sub hl [2, 3, 4, 5, 6, 1, 0] rfl) w
        · skip
          refine nv_aald S w (i := 3) (q := ((z 1) 16)) 17 3 rfl rfl (by omega) (by decide) rfl dX7_digest_136 ?_
          refine lv_astore (lv' := [(6, .ref ((z 1) 16)), (0, .ref (z 0 0)), (1, .long h), (3, .ref (z 1 6)), (4, vI 4), (5, vI 3)]) S.1 S.2.1 dX7_digest_137 hl (by decide) rfl (fun ls hl => ?_)
          refine lv_iconst (v := nI 0) S.1 S.2.1 dX7_digest_139 (ofInt_nI 0) ?_
          refine lv_istore (lv' := [(7, vI 0), (6, .ref ((z 1) 16)), (0, .ref (z 0 0)), (1, .long h), (3, .ref (z 1 6)), (4, vI 4), (5, vI 3)]) S.1 S.2.1 dX7_digest_140 hl (by decide) rfl (fun ls hl => ?_)
          exact (ih).1 3 0 h (by omega) (by omega) eh (by omega) _ _ _ (lv_sub hl [2, 3, 4, 5, 6, 1, 0] rfl) w
set_option maxRecDepth 100000 in
set_option maxHeartbeats 4000000 in
theorem k_X7_digest_c (l : Launch) (D : va_G) (Z : Nat → ClassId) (z : Nat → Nat → Nat) (X : ST) (o n : Nat) (Y : Nat → ST) (tl ti ta tr : Nat) (t : Nat → Nat) (k : Nat → Nat → Nat) (P9 : PG) (hX : XB X) (ho : o < 4) (hn : n ≤ 4) {p : Program} {e : Env} {s : State} {m : MethodId} {args : Array Value} {below : List Frame} {meth : Method} {c : Code} {A : Nat → Prop} (S : CallFix p m c cX7_digest 8 s args wsX7_digest RX7) (hr : meth.sig.returnType = (some .long)) (hlocks : meth.locks = false) : ∀ (n9 : Nat), (∀ (i : Nat) (h : Int64) (hi8 : i ≤ X.1.2.2.2) (eh : h = dgN X.1.2.2.1 (dgP X.1 (dg1 X tl) 6) i) (hm : 1800 - i < n9), ∀ (H : Heap) (locs : List Loc) (ls : Array Slot) (hl : lv_has ls 8 [(0, .ref (z 0 0)), (1, .long h), (3, vI i)]) (w : Wd D Z A s (tpO Z z ++ plB Z (z 8) P9 ++ stO Z ((z 1) 0) ((z 1) 1) ((z 1) 5) ++ plB Z (fun k => (z 1) (5 + k)) X.2 ++ songB Z ((z 1) 1) ((z 1) 2) ((z 1) 3) ((z 1) 4) X.1 ++ ptB Z (z 7 0) (z 7 1) (z 7 2) tl ti ta tr t k ++ hiB Z (z 2 0) (z 2 1) (fun r => z (3 + r)) o n Y) H locs), W p l e (rmO 6 146) s m args below meth c H locs 0 0 (Ql below D Z A args s (dgA X tl n) (tpO Z z ++ plB Z (z 8) (tkN X.1 X.2 40) ++ stB Z (z 1) X ++ ptB Z (z 7 0) (z 7 1) (z 7 2) tl ti ta tr t k ++ hiB Z (z 2 0) (z 2 1) (fun r => z (3 + r)) o n Y)) (F0 m 69 ls [])) := by
  intro n9
  have hp8 := hX.1.2.2.2.1
  induction n9 with
  | zero => intro i h hi8 eh hm; exact absurd hm (Nat.not_lt_zero _)
  | succ n9 ih =>
    skip
    · intro i h hi8 eh hm H locs ls hl w
      refine lv_iload_n S.1 S.2.1 dX7_digest_69 rfl (lv_at hl 2 rfl) ?_
      refine lv_aload_n S.1 S.2.1 dX7_digest_70 rfl (lv_at hl 0 rfl) ?_
      refine nv_get S w (C := RX7) (T := TX7) (N := 4) hn_X7_digest_7 0 rfl rfl 0 (by decide) (List.mem_of_getElem? (i := 5) rfl) (v := .ref (z 1 0)) rfl dX7_digest_71 ?_
      refine nv_get S w (C := RX5) (T := TX5) (N := 2) hn_X7_digest_5 15 rfl rfl 0 (by decide) (List.mem_of_getElem? (i := 6) rfl) (v := .ref ((z 1) 1)) rfl dX7_digest_74 ?_
      refine nv_get S w (C := RX4) (T := TX4) (N := 4) hn_X7_digest_4 30 rfl rfl 3 (by decide) (List.mem_of_getElem? (i := 7) rfl) (v := vI X.1.2.2.2) rfl dX7_digest_77 ?_
      refine nv_icmp_ge S (by omega) (by omega) (tgt := 108) dX7_digest_80 (by decide) (fun h_3 => ?_) (fun h_3 => ?_)
      · skip
        refine lv_aload_n S.1 S.2.1 dX7_digest_108 rfl (lv_at hl 0 rfl) ?_
        refine nv_get S w (C := RX7) (T := TX7) (N := 4) hn_X7_digest_7 0 rfl rfl 0 (by decide) (List.mem_of_getElem? (i := 5) rfl) (v := .ref (z 1 0)) rfl dX7_digest_109 ?_
        refine nv_get S w (C := RX5) (T := TX5) (N := 2) hn_X7_digest_5 15 rfl rfl 1 (by decide) (List.mem_of_getElem? (i := 8) rfl) (v := .ref ((z 1) 5)) rfl dX7_digest_112 ?_
        refine nv_get S w (C := RX3) (T := TX3) (N := 7) hn_X7_digest_3 16 rfl rfl 6 (by decide) (List.mem_of_getElem? (i := 9) rfl) (v := .ref ((z 1) 6)) rfl dX7_digest_115 ?_
        refine lv_astore_n (lv' := [(3, .ref ((z 1) 6)), (0, .ref (z 0 0)), (1, .long h)]) S.1 S.2.1 dX7_digest_118 rfl hl (by decide) rfl (fun ls hl => ?_)
        refine lv_aload_n S.1 S.2.1 dX7_digest_119 rfl (lv_at hl 0 rfl) ?_
        refine nv_alen S w 17 3 rfl rfl (n := 4) rfl dX7_digest_120 ?_
        refine lv_istore (lv' := [(4, vI 4), (3, .ref ((z 1) 6)), (0, .ref (z 0 0)), (1, .long h)]) S.1 S.2.1 dX7_digest_121 hl (by decide) rfl (fun ls hl => ?_)
        refine lv_iconst (v := nI 0) S.1 S.2.1 dX7_digest_123 (ofInt_nI 0) ?_
        refine lv_istore (lv' := [(5, vI 0), (4, vI 4), (3, .ref ((z 1) 6)), (0, .ref (z 0 0)), (1, .long h)]) S.1 S.2.1 dX7_digest_124 hl (by decide) rfl (fun ls hl => ?_)
        exact (k_X7_digest l D Z z X o n Y tl ti ta tr t k P9 hX ho hn S hr hlocks _).2 0 h (by omega) (by rw [eh, show i = X.1.2.2.2 by omega]; rfl) (Nat.lt_succ_self _) _ _ _ (lv_sub hl [3, 4, 2, 1, 0] rfl) w
      · skip
        refine lv_ldc2 (v := 31) S.1 S.2.1 S.2.2.2.1 (S.2.2.2.2 _ (by decide +kernel)) dX7_digest_83 ?_
        refine lv_lload_n S.1 S.2.1 dX7_digest_86 rfl (lv_at hl 1 rfl) ?_
        refine lv_lmul S.1 S.2.1 dX7_digest_87 ?_
        refine lv_aload_n S.1 S.2.1 dX7_digest_88 rfl (lv_at hl 0 rfl) ?_
        refine nv_get S w (C := RX7) (T := TX7) (N := 4) hn_X7_digest_7 0 rfl rfl 0 (by decide) (List.mem_of_getElem? (i := 5) rfl) (v := .ref (z 1 0)) rfl dX7_digest_89 ?_
        refine nv_get S w (C := RX5) (T := TX5) (N := 2) hn_X7_digest_5 15 rfl rfl 0 (by decide) (List.mem_of_getElem? (i := 6) rfl) (v := .ref ((z 1) 1)) rfl dX7_digest_92 ?_
        refine lv_iload_n S.1 S.2.1 dX7_digest_95 rfl (lv_at hl 2 rfl) ?_
        refine nv_gVi (rest := [.long (31 * h)]) (tpO Z z ++ plB Z (z 8) P9 ++ stO Z ((z 1) 0) ((z 1) 1) ((z 1) 5) ++ plB Z (fun k => (z 1) (5 + k)) X.2) (ptB Z (z 7 0) (z 7 1) (z 7 2) tl ti ta tr t k ++ hiB Z (z 2 0) (z 2 1) (fun r => z (3 + r)) o n Y) S w hl.1 (c_X4_patternAt l D Z ((z 1) 1) ((z 1) 2) ((z 1) 3) ((z 1) 4) X.1 i (by omega) hX.1.2.2.2.1) (by simp only [List.append_assoc, List.nil_append, List.append_nil]) gX7_digest_X4_patternAt rfl hdV_X4_patternAt ⟨Nat.le_of_ble_eq_true rfl, Nat.le_of_ble_eq_true rfl⟩ (q0 := 0) rfl rfl rfl rfl (Nat.le_of_ble_eq_true rfl) ⟨Nat.zero_le _, Nat.zero_le _⟩ dX7_digest_96 (fun H locs w => ?_)
        refine lv_i2l (v := (nI (X.1.2.2.1 i)).toInt64) S.1 S.2.1 dX7_digest_99 rfl ?_
        refine lv_ladd S.1 S.2.1 dX7_digest_100 ?_
        refine lv_lstore_n (lv' := [(1, .long ((31 * h) + ((nI (X.1.2.2.1 i)).toInt64))), (0, .ref (z 0 0)), (3, vI i)]) S.1 S.2.1 dX7_digest_101 rfl hl (by decide) rfl (fun ls hl => ?_)
        refine lv_iinc (v := nI (i + 1)) (lv' := [(3, vI (i + 1)), (1, .long ((31 * h) + ((nI (X.1.2.2.1 i)).toInt64))), (0, .ref (z 0 0))]) S.1 S.2.1 dX7_digest_102 hl (k := 2) rfl (nI_incI i 1) (by decide) rfl (fun ls hl => ?_)
        refine lv_goto (tgt := 69) S.1 S.2.1 dX7_digest_105 (by decide) ?_
        exact ih (i + 1) ((31 * h) + ((nI (X.1.2.2.1 i)).toInt64)) (by omega) (by rw [eh]; rfl) (by omega) _ _ _ (lv_sub hl [2, 1, 0] rfl) w
set_option maxRecDepth 100000 in
set_option maxHeartbeats 4000000 in
theorem k_X7_digest_b (l : Launch) (D : va_G) (Z : Nat → ClassId) (z : Nat → Nat → Nat) (X : ST) (o n : Nat) (Y : Nat → ST) (tl ti ta tr : Nat) (t : Nat → Nat) (k : Nat → Nat → Nat) (P9 : PG) (hX : XB X) (ho : o < 4) (hn : n ≤ 4) {p : Program} {e : Env} {s : State} {m : MethodId} {args : Array Value} {below : List Frame} {meth : Method} {c : Code} {A : Nat → Prop} (S : CallFix p m c cX7_digest 8 s args wsX7_digest RX7) (hr : meth.sig.returnType = (some .long)) (hlocks : meth.locks = false) : ∀ (n9 : Nat), (∀ (i : Nat) (h : Int64) (hi6 : i ≤ 6) (eh : h = dgP X.1 (dg1 X tl) i) (hm : 1900 - i < n9), ∀ (H : Heap) (locs : List Loc) (ls : Array Slot) (hl : lv_has ls 8 [(0, .ref (z 0 0)), (1, .long h), (3, vI i)]) (w : Wd D Z A s (tpO Z z ++ plB Z (z 8) P9 ++ stO Z ((z 1) 0) ((z 1) 1) ((z 1) 5) ++ plB Z (fun k => (z 1) (5 + k)) X.2 ++ songB Z ((z 1) 1) ((z 1) 2) ((z 1) 3) ((z 1) 4) X.1 ++ ptB Z (z 7 0) (z 7 1) (z 7 2) tl ti ta tr t k ++ hiB Z (z 2 0) (z 2 1) (fun r => z (3 + r)) o n Y) H locs), W p l e (rmO 6 146) s m args below meth c H locs 0 0 (Ql below D Z A args s (dgA X tl n) (tpO Z z ++ plB Z (z 8) (tkN X.1 X.2 40) ++ stB Z (z 1) X ++ ptB Z (z 7 0) (z 7 1) (z 7 2) tl ti ta tr t k ++ hiB Z (z 2 0) (z 2 1) (fun r => z (3 + r)) o n Y)) (F0 m 42 ls [])) := by
  intro n9
  have hp8 := hX.1.2.2.2.1
  induction n9 with
  | zero => intro i h hi6 eh hm; exact absurd hm (Nat.not_lt_zero _)
  | succ n9 ih =>
    skip
    · intro i h hi6 eh hm H locs ls hl w
      refine lv_iload_n S.1 S.2.1 dX7_digest_42 rfl (lv_at hl 2 rfl) ?_
      refine lv_bipush (v := nI 6) S.1 S.2.1 dX7_digest_43 (by decide +kernel) ?_
      refine nv_icmp_ge S (by omega) (by omega) (tgt := 67) dX7_digest_45 (by decide) (fun h_4 => ?_) (fun h_4 => ?_)
      · skip
        refine lv_iconst (v := nI 0) S.1 S.2.1 dX7_digest_67 (ofInt_nI 0) ?_
        refine lv_istore_n (lv' := [(3, vI 0), (0, .ref (z 0 0)), (1, .long h)]) S.1 S.2.1 dX7_digest_68 rfl hl (by decide) rfl (fun ls hl => ?_)
        exact k_X7_digest_c l D Z z X o n Y tl ti ta tr t k P9 hX ho hn S hr hlocks _ 0 h (by omega) (by rw [eh, show i = 6 by omega]; rfl) (Nat.lt_succ_self _) _ _ _ (lv_sub hl [1, 2, 0] rfl) w
      · skip
        refine lv_aload_n S.1 S.2.1 dX7_digest_48 rfl (lv_at hl 0 rfl) ?_
        refine nv_get S w (C := RX7) (T := TX7) (N := 4) hn_X7_digest_7 0 rfl rfl 0 (by decide) (List.mem_of_getElem? (i := 5) rfl) (v := .ref (z 1 0)) rfl dX7_digest_49 ?_
        refine nv_get S w (C := RX5) (T := TX5) (N := 2) hn_X7_digest_5 15 rfl rfl 0 (by decide) (List.mem_of_getElem? (i := 6) rfl) (v := .ref ((z 1) 1)) rfl dX7_digest_52 ?_
        refine lv_lload_n S.1 S.2.1 dX7_digest_55 rfl (lv_at hl 1 rfl) ?_
        refine lv_iload_n S.1 S.2.1 dX7_digest_56 rfl (lv_at hl 2 rfl) ?_
        refine nv_gVl (rest := []) (tpO Z z ++ plB Z (z 8) P9 ++ stO Z ((z 1) 0) ((z 1) 1) ((z 1) 5) ++ plB Z (fun k => (z 1) (5 + k)) X.2) (ptB Z (z 7 0) (z 7 1) (z 7 2) tl ti ta tr t k ++ hiB Z (z 2 0) (z 2 1) (fun r => z (3 + r)) o n Y) S w hl.1 (c_X4_digestPattern l D Z ((z 1) 1) ((z 1) 2) ((z 1) 3) ((z 1) 4) X.1 h i hX.1 (by omega)) (by simp only [List.append_assoc, List.nil_append, List.append_nil]) gX7_digest_X4_digestPattern rfl hdV_X4_digestPattern ⟨Nat.le_of_ble_eq_true rfl, Nat.le_of_ble_eq_true rfl⟩ (q0 := 0) rfl rfl rfl rfl (Nat.le_of_ble_eq_true rfl) ⟨Nat.zero_le _, Nat.zero_le _⟩ dX7_digest_57 (fun H locs w => ?_)
        refine lv_lstore_n (lv' := [(1, .long (dgN (cellN X.1 i) (dgN (factP X.1 i) h 5) (16 * X.1.2.1 i))), (0, .ref (z 0 0)), (3, vI i)]) S.1 S.2.1 dX7_digest_60 rfl hl (by decide) rfl (fun ls hl => ?_)
        refine lv_iinc (v := nI (i + 1)) (lv' := [(3, vI (i + 1)), (1, .long (dgN (cellN X.1 i) (dgN (factP X.1 i) h 5) (16 * X.1.2.1 i))), (0, .ref (z 0 0))]) S.1 S.2.1 dX7_digest_61 hl (k := 2) rfl (nI_incI i 1) (by decide) rfl (fun ls hl => ?_)
        refine lv_goto (tgt := 42) S.1 S.2.1 dX7_digest_64 (by decide) ?_
        exact ih (i + 1) (dgN (cellN X.1 i) (dgN (factP X.1 i) h 5) (16 * X.1.2.1 i)) (by omega) (by rw [eh]; rfl) (by omega) _ _ _ (lv_sub hl [2, 1, 0] rfl) (w.as rfl)
set_option maxRecDepth 100000 in
set_option maxHeartbeats 4000000 in
theorem k_X7_digest_a (l : Launch) (D : va_G) (Z : Nat → ClassId) (z : Nat → Nat → Nat) (X : ST) (o n : Nat) (Y : Nat → ST) (tl ti ta tr : Nat) (t : Nat → Nat) (k : Nat → Nat → Nat) (P9 : PG) (hX : XB X) (ho : o < 4) (hn : n ≤ 4) {p : Program} {e : Env} {s : State} {m : MethodId} {args : Array Value} {below : List Frame} {meth : Method} {c : Code} {A : Nat → Prop} (S : CallFix p m c cX7_digest 8 s args wsX7_digest RX7) (hr : meth.sig.returnType = (some .long)) (hlocks : meth.locks = false) : ∀ (n9 : Nat), (∀ (i : Nat) (h : Int64) (hi8 : i ≤ 8) (eh : h = dgN (valF X) (109523 + (nI tl).toInt64) i) (hm : 2000 - i < n9), ∀ (H : Heap) (locs : List Loc) (ls : Array Slot) (hl : lv_has ls 8 [(0, .ref (z 0 0)), (1, .long h), (3, vI i)]) (w : Wd D Z A s (tpO Z z ++ plB Z (z 8) P9 ++ stB Z (z 1) X ++ ptB Z (z 7 0) (z 7 1) (z 7 2) tl ti ta tr t k ++ hiB Z (z 2 0) (z 2 1) (fun r => z (3 + r)) o n Y) H locs), W p l e (rmO 6 146) s m args below meth c H locs 0 0 (Ql below D Z A args s (dgA X tl n) (tpO Z z ++ plB Z (z 8) (tkN X.1 X.2 40) ++ stB Z (z 1) X ++ ptB Z (z 7 0) (z 7 1) (z 7 2) tl ti ta tr t k ++ hiB Z (z 2 0) (z 2 1) (fun r => z (3 + r)) o n Y)) (F0 m 15 ls [])) := by
  intro n9
  have hp8 := hX.1.2.2.2.1
  induction n9 with
  | zero => intro i h hi8 eh hm; exact absurd hm (Nat.not_lt_zero _)
  | succ n9 ih =>
    skip
    · intro i h hi8 eh hm H locs ls hl w
      refine lv_iload_n S.1 S.2.1 dX7_digest_15 rfl (lv_at hl 2 rfl) ?_
      refine lv_bipush (v := nI 8) S.1 S.2.1 dX7_digest_16 (by decide +kernel) ?_
      refine nv_icmp_ge S (by omega) (by omega) (tgt := 40) dX7_digest_18 (by decide) (fun h_5 => ?_) (fun h_5 => ?_)
      · skip
        refine lv_iconst (v := nI 0) S.1 S.2.1 dX7_digest_40 (ofInt_nI 0) ?_
        refine lv_istore_n (lv' := [(3, vI 0), (0, .ref (z 0 0)), (1, .long h)]) S.1 S.2.1 dX7_digest_41 rfl hl (by decide) rfl (fun ls hl => ?_)
        exact k_X7_digest_b l D Z z X o n Y tl ti ta tr t k P9 hX ho hn S hr hlocks _ 0 h (by omega) (by rw [eh, show i = 8 by omega]; rfl) (Nat.lt_succ_self _) _ _ _ (lv_sub hl [1, 2, 0] rfl) (w.as (by simp only [stB, List.append_assoc]))
      · skip
        refine lv_ldc2 (v := 31) S.1 S.2.1 S.2.2.2.1 (S.2.2.2.2 _ (by decide +kernel)) dX7_digest_21 ?_
        refine lv_lload_n S.1 S.2.1 dX7_digest_24 rfl (lv_at hl 1 rfl) ?_
        refine lv_lmul S.1 S.2.1 dX7_digest_25 ?_
        refine lv_aload_n S.1 S.2.1 dX7_digest_26 rfl (lv_at hl 0 rfl) ?_
        refine lv_iload_n S.1 S.2.1 dX7_digest_27 rfl (lv_at hl 2 rfl) ?_
        refine nv_gVi (rest := [.long (31 * h)]) ([]) ([]) S w hl.1 (c_X7_playingFact l D Z z X o n Y tl ti ta tr t k P9 i hX (by omega)) (by simp only [List.append_assoc, List.nil_append, List.append_nil]) gX7_digest_X7_playingFact rfl hdV_X7_playingFact ⟨Nat.le_of_ble_eq_true rfl, Nat.le_of_ble_eq_true rfl⟩ (q0 := 0) rfl rfl rfl rfl (Nat.le_of_ble_eq_true rfl) ⟨Nat.zero_le _, Nat.zero_le _⟩ dX7_digest_28 (fun H locs w => ?_)
        refine lv_i2l (v := (nI (valF X i)).toInt64) S.1 S.2.1 dX7_digest_31 rfl ?_
        refine lv_ladd S.1 S.2.1 dX7_digest_32 ?_
        refine lv_lstore_n (lv' := [(1, .long ((31 * h) + ((nI (valF X i)).toInt64))), (0, .ref (z 0 0)), (3, vI i)]) S.1 S.2.1 dX7_digest_33 rfl hl (by decide) rfl (fun ls hl => ?_)
        refine lv_iinc (v := nI (i + 1)) (lv' := [(3, vI (i + 1)), (1, .long ((31 * h) + ((nI (valF X i)).toInt64))), (0, .ref (z 0 0))]) S.1 S.2.1 dX7_digest_34 hl (k := 2) rfl (nI_incI i 1) (by decide) rfl (fun ls hl => ?_)
        refine lv_goto (tgt := 15) S.1 S.2.1 dX7_digest_37 (by decide) ?_
        exact ih (i + 1) ((31 * h) + ((nI (valF X i)).toInt64)) (by omega) (by rw [eh]; rfl) (by omega) _ _ _ (lv_sub hl [2, 1, 0] rfl) w
set_option maxRecDepth 100000 in
set_option maxHeartbeats 4000000 in
theorem c_X7_digest (l : Launch) (D : va_G) (Z : Nat → ClassId) (z : Nat → Nat → Nat) (X : ST) (o n : Nat) (Y : Nat → ST) (tl ti ta tr : Nat) (t : Nat → Nat) (k : Nat → Nat → Nat) (P9 : PG) (hX : XB X) (ho : o < 4) (hn : n ≤ 4) : Cl l yX7_digest wsX7_digest 6 146 D Z [.ref (z 0 0)] (tpO Z z ++ plB Z (z 8) P9 ++ stB Z (z 1) X ++ ptB Z (z 7 0) (z 7 1) (z 7 2) tl ti ta tr t k ++ hiB Z (z 2 0) (z 2 1) (fun r => z (3 + r)) o n Y) (dgA X tl n) (tpO Z z ++ plB Z (z 8) (tkN X.1 X.2 40) ++ stB Z (z 1) X ++ ptB Z (z 7 0) (z 7 1) (z 7 2) tl ti ta tr t k ++ hiB Z (z 2 0) (z 2 1) (fun r => z (3 + r)) o n Y) := by
  refine ne_l (cc := cX7_digest) (maxL := 8) (by decide +kernel) rfl (Nat.le_of_ble_eq_true rfl) (fun p e s m args below meth c A ls (S : CallFix p m c cX7_digest 8 s args wsX7_digest RX7) hr hlocks hl w => ?_)
  have hp8 := hX.1.2.2.2.1
  have hl : lv_has ls 8 [(0, .ref (z 0 0))] := hl
  refine lv_ldc2 (v := 109523) S.1 S.2.1 S.2.2.2.1 (S.2.2.2.2 _ (by decide +kernel)) dX7_digest_0 ?_
  refine lv_aload_n S.1 S.2.1 dX7_digest_3 rfl (lv_at hl 0 rfl) ?_
  refine nv_get S w (C := RX7) (T := TX7) (N := 4) hn_X7_digest_7 0 rfl rfl 2 (by decide) (List.mem_of_getElem? (i := 2) rfl) (v := .ref (z 7 0)) rfl dX7_digest_4 ?_
  refine nv_get S w (C := RX2) (T := TX2) (N := 6) hn_X7_digest_2 34 rfl rfl 1 (by decide) (List.mem_of_getElem? (i := 3) rfl) (v := vI tl) rfl dX7_digest_7 ?_
  refine lv_i2l (v := (nI tl).toInt64) S.1 S.2.1 dX7_digest_10 rfl ?_
  refine lv_ladd S.1 S.2.1 dX7_digest_11 ?_
  refine lv_lstore_n (lv' := [(1, .long (109523 + ((nI tl).toInt64))), (0, .ref (z 0 0))]) S.1 S.2.1 dX7_digest_12 rfl hl (by decide) rfl (fun ls hl => ?_)
  refine lv_iconst (v := nI 0) S.1 S.2.1 dX7_digest_13 (ofInt_nI 0) ?_
  refine lv_istore_n (lv' := [(3, vI 0), (1, .long (109523 + ((nI tl).toInt64))), (0, .ref (z 0 0))]) S.1 S.2.1 dX7_digest_14 rfl hl (by decide) rfl (fun ls hl => ?_)
  exact k_X7_digest_a l D Z z X o n Y tl ti ta tr t k P9 hX ho hn S hr hlocks _ 0 (109523 + ((nI tl).toInt64)) (by omega) rfl (Nat.lt_succ_self _) _ _ _ (lv_sub hl [2, 1, 0] rfl) w
