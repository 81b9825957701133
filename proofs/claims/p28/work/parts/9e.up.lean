/-! the law's helpers, walked -/
theorem adr_q {Z : Nat → ClassId} {z : Nat → Nat → Nat} {X X' : ST} {o n o' n' : Nat} {Y Y' : Nat → ST} {P P' : PG} : (qW Z z X o n Y P).map (fun q => q.1) = (qW Z z X' o' n' Y' P').map (fun q => q.1) := rfl
theorem nilapp {W1 : va_W} : [] ++ (W1 ++ []) = W1 := by simp only [List.nil_append, List.append_nil]
abbrev ZB : Type := ST × Nat × Nat × (Nat → ST) × PG × ST × Nat × Nat × (Nat → ST) × PG
def zbW (Z : Nat → ClassId) (z y : Nat → Nat → Nat) (u : ZB) : va_W := qW Z z u.1 u.2.1 u.2.2.1 u.2.2.2.1 u.2.2.2.2.1 ++ qW Z y u.2.2.2.2.2.1 u.2.2.2.2.2.2.1 u.2.2.2.2.2.2.2.1 u.2.2.2.2.2.2.2.2.1 u.2.2.2.2.2.2.2.2.2
def zbL (t : Nat) (u : ZB) : Prop := LPq u.1 u.2.1 u.2.2.1 u.2.2.2.2.2.1 u.2.2.2.2.2.2.1 u.2.2.2.2.2.2.2.1 ∧ u.1.2.1 4 ≤ t + 20
theorem adr_2 {Z : Nat → ClassId} {z y : Nat → Nat → Nat} {X X' : ST} {o n o' n' : Nat} {Y Y' : Nat → ST} {P P' : PG} {M M' : ST} {a b a' b' : Nat} {B B' : Nat → ST} {Q Q' : PG} : (qW Z z X' o' n' Y' P' ++ qW Z y M' a' b' B' Q').map (fun q => q.1) = (qW Z z X o n Y P ++ qW Z y M a b B Q).map (fun q => q.1) := by
  rw [List.map_append, List.map_append]
  exact congr (congrArg HAppend.hAppend adr_q) adr_q
theorem adr_zb {Z : Nat → ClassId} {z y : Nat → Nat → Nat} {X : ST} {o n : Nat} {Y : Nat → ST} {P : PG} {M : ST} {a b : Nat} {B : Nat → ST} {Q : PG} {u : ZB} : (zbW Z z y u).map (fun q => q.1) = (qW Z z X o n Y P ++ qW Z y M a b B Q).map (fun q => q.1) := by
  unfold zbW
  exact adr_2
theorem adr_pq {Z : Nat → ClassId} {z y : Nat → Nat → Nat} {X : ST} {o n : Nat} {Y : Nat → ST} {P P' : PG} {M : ST} {a b : Nat} {B : Nat → ST} {Q Q' : PG} : (qW Z z X o n Y P' ++ qW Z y M a b B Q').map (fun q => q.1) = (qW Z z X o n Y P ++ qW Z y M a b B Q).map (fun q => q.1) := adr_2
theorem factV_5n {V : Nat → Nat} (h : V 4 = 0) : factV V 5 = -1 := by
  show (if V 4 = 0 then (-1 : Int32) else nI (V (5 + 2 * (V 4 - 1)))) = -1
  exact if_pos h
theorem factV_5y {V : Nat → Nat} (h : V 4 ≠ 0) : factV V 5 = nI (V (5 + 2 * (V 4 - 1))) := by
  show (if V 4 = 0 then (-1 : Int32) else nI (V (5 + 2 * (V 4 - 1)))) = nI (V (5 + 2 * (V 4 - 1)))
  exact if_neg h
theorem factV_3n {V : Nat → Nat} (h : V 2 = 0) : factV V 3 = -1 := by
  show (if V 2 = 0 then (-1 : Int32) else nI (V 3)) = -1
  exact if_pos h
theorem factV_3y {V : Nat → Nat} (h : V 2 ≠ 0) : factV V 3 = nI (V 3) := by
  show (if V 2 = 0 then (-1 : Int32) else nI (V 3)) = nI (V 3)
  exact if_neg h
theorem sv_undo {o n : Nat} {Y : Nat → ST} {X : ST} : svX o n Y X ((svO o n + (svN n + 1 - 1)) % 4) = X := by
  rw [Nat.add_sub_cancel]
  exact if_pos rfl

set_option maxRecDepth 100000 in
set_option maxHeartbeats 4000000 in
theorem c_L_up (l : Launch) (D : va_G) (Z : Nat → ClassId) (x : Int32) (n : Nat) (hn : 0 < n) (hn2 : n < 2 ^ 31) : Ci l yL_up wsL_up 0 0 D Z [.int x, vI n] ([]) (nI (upN x n)) ([]) := by
  refine ne_i (cc := cL_up) (maxL := 2) (by decide +kernel) rfl (Nat.le_of_ble_eq_true rfl) (fun p e s m args below meth c A ls (S : CallFix p m c cL_up 2 s args wsL_up RL) hr hlocks hl w => ?_)
  have hxa := upA_lt x
  have hl : lv_has ls 2 [(0, .int x), (1, vI n)] := hl
  refine lv_iload_n S.1 S.2.1 dL_up_0 rfl (lv_at hl 0 rfl) ?_
  refine lv_ldc (v := (nI 2147483647)) S.1 S.2.1 S.2.2.2.1 (S.2.2.2.2 _ (by decide +kernel)) dL_up_1 ?_
  refine lv_iand S.1 S.2.1 dL_up_3 ?_
  rw [upA_eq x]
  refine lv_iload_n S.1 S.2.1 dL_up_4 rfl (lv_at hl 1 rfl) ?_
  refine nv_irem S (by omega) (by omega) (by omega) dL_up_5 ?_
  exact nv_iret S w hr hlocks rfl rfl rfl dL_up_6
