/-! both players at once: the answers are the same -/
def PQ (l : Launch) (yy : MethodName) (wy : List Cond) (fr lo mc ms : Nat) (D : va_G) (Z : Nat → ClassId) (z y : Nat → Nat → Nat) (X : ST) (o n : Nat) (Y : Nat → ST) (P : PG) (M : ST) (a b : Nat) (B : Nat → ST) (Q : PG) (as1 as2 : List Value) : Prop :=
  ∃ (v : Int32) (X2 : ST) (o2 n2 : Nat) (Y2 : Nat → ST) (M2 : ST) (a2 b2 : Nat) (B2 : Nat → ST), LPq X2 o2 n2 M2 a2 b2 ∧ X2.2.1 4 ≤ X.2.1 4 + 20 ∧ Xi l yy wy fr lo mc ms D Z (.ref (z 0 0) :: as1) (qW Z z X o n Y P) none v (qW Z z X2 o2 n2 Y2 P) ∧ Xi l yy wy fr lo mc ms D Z (.ref (y 0 0) :: as2) (qW Z y M a b B Q) none v (qW Z y M2 a2 b2 B2 Q)
def PA (l : Launch) (yy : MethodName) (wy : List Cond) (fr lo mc ms : Nat) (D : va_G) (Z : Nat → ClassId) (z y : Nat → Nat → Nat) (X : ST) (o n : Nat) (Y : Nat → ST) (P : PG) (M : ST) (a b : Nat) (B : Nat → ST) (Q : PG) (as1 as2 : List Value) : Prop :=
  ∃ (v : Int32) (P2 Q2 : PG), Xi l yy wy fr lo mc ms D Z (.ref (z 0 0) :: as1) (qW Z z X o n Y P) none v (qW Z z X o n Y P2) ∧ Xi l yy wy fr lo mc ms D Z (.ref (y 0 0) :: as2) (qW Z y M a b B Q) none v (qW Z y M a b B Q2)

theorem pq_setNote (l : Launch) (hst : l.stackTraces = false) (D : va_G) (Z : Nat → ClassId) (z y : Nat → Nat → Nat) {X : ST} {o n : Nat} (Y : Nat → ST) (P : PG) {M : ST} {a b : Nat} (B : Nat → ST) (Q : PG) (hL : LPq X o n M a b) {u v c e f : Nat} (hu : u < 6) (hv : v < 8) (hc : c < 4) (he : e ≤ 61) (hf : f ≤ 15) : PQ l yX7_setNote wsX7_setNote 7 111 3 18 D Z z y X o n Y P M a b B Q [vI u, vI v, vI c, vI e, vI f] [vI u, vI v, vI (3 - c), vI e, vI f] := by
  have hL9 := hL
  obtain ⟨hX, hM, hT, ho, hn, ha, hb⟩ := hL9
  have h1 := n_setNote l hst D Z z X o n Y P u v c e f ho hn hX hu hv hc he hf
  have h2 := n_setNote l hst D Z y M a b B Q u v (3 - c) e f ha hb hM hu hv (by omega) he hf
  rw [hT.1.cell hu hv hc] at h2
  exact ⟨_, _, _, _, _, _, _, _, _, ⟨B_note hX (cix_lt hu hv hc) he hf, B_note hM (cix_lt hu hv (by omega)) he hf, TE_note hu hv hc hT, svO_lt ho, svN_le hn, svO_lt ha, svN_le hb⟩, Nat.le_add_right _ _, h1, h2⟩

theorem pq_setEffect (l : Launch) (hst : l.stackTraces = false) (D : va_G) (Z : Nat → ClassId) (z y : Nat → Nat → Nat) {X : ST} {o n : Nat} (Y : Nat → ST) (P : PG) {M : ST} {a b : Nat} (B : Nat → ST) (Q : PG) (hL : LPq X o n M a b) {u v c e f : Nat} (hu : u < 6) (hv : v < 8) (hc : c < 4) (he : e ≤ 7) (hf : f ≤ 9) (h7 : c ≠ 0 → e ≠ 7) : PQ l yX7_setEffect wsX7_setEffect 7 111 3 18 D Z z y X o n Y P M a b B Q [vI u, vI v, vI c, vI e, vI f] [vI u, vI v, vI (3 - c), vI e, vI f] := by
  have hL9 := hL
  obtain ⟨hX, hM, hT, ho, hn, ha, hb⟩ := hL9
  have h1 := n_setEffect l hst D Z z X o n Y P u v c e f ho hn hX hu hv hc he hf
  have h2 := n_setEffect l hst D Z y M a b B Q u v (3 - c) e f ha hb hM hu hv (by omega) he hf
  rw [hT.1.cell hu hv hc] at h2
  exact ⟨_, _, _, _, _, _, _, _, _, ⟨B_eff hX (cix_lt hu hv hc) he hf, B_eff hM (cix_lt hu hv (by omega)) he hf, TE_eff hu hv hc h7 hT, svO_lt ho, svN_le hn, svO_lt ha, svN_le hb⟩, Nat.le_add_right _ _, h1, h2⟩

theorem pq_setRows (l : Launch) (hst : l.stackTraces = false) (D : va_G) (Z : Nat → ClassId) (z y : Nat → Nat → Nat) {X : ST} {o n : Nat} (Y : Nat → ST) (P : PG) {M : ST} {a b : Nat} (B : Nat → ST) (Q : PG) (hL : LPq X o n M a b) {u e : Nat} (hu : u < 6) (he1 : 1 ≤ e) (he : e ≤ 8) : PQ l yX7_setRows wsX7_setRows 7 111 2 12 D Z z y X o n Y P M a b B Q [vI u, vI e] [vI u, vI e] := by
  have hL9 := hL
  obtain ⟨hX, hM, hT, ho, hn, ha, hb⟩ := hL9
  have h1 := n_setRows l hst D Z z X o n Y P u e ho hn hX hu he1 he
  have h2 := n_setRows l hst D Z y M a b B Q u e ha hb hM hu he1 he
  rw [show M.1.2.1 u = X.1.2.1 u by rw [hT.1.1]] at h2
  exact ⟨_, _, _, _, _, _, _, _, _, ⟨B_rows hX he1 he, B_rows hM he1 he, TE_rows hT, svO_lt ho, svN_le hn, svO_lt ha, svN_le hb⟩, Nat.le_add_right _ _, h1, h2⟩

theorem pq_setOrder (l : Launch) (hst : l.stackTraces = false) (D : va_G) (Z : Nat → ClassId) (z y : Nat → Nat → Nat) {X : ST} {o n : Nat} (Y : Nat → ST) (P : PG) {M : ST} {a b : Nat} (B : Nat → ST) (Q : PG) (hL : LPq X o n M a b) {u e : Nat} (hu : u ≤ X.1.2.2.2) (hu8 : u < 8) (he : e ≤ 5) : PQ l yX7_setOrder wsX7_setOrder 7 111 2 12 D Z z y X o n Y P M a b B Q [vI u, vI e] [vI u, vI e] := by
  have hL9 := hL
  obtain ⟨hX, hM, hT, ho, hn, ha, hb⟩ := hL9
  have h1 := n_setOrder l hst D Z z X o n Y P u e ho hn hX hu hu8 he
  have h2 := n_setOrder l hst D Z y M a b B Q u e ha hb hM (by rw [hT.1.1]; exact hu) hu8 he
  rw [show M.1.2.2.2 = X.1.2.2.2 by rw [hT.1.1]] at h2
  exact ⟨_, _, _, _, _, _, _, _, _, ⟨B_ord hX hu8 he, B_ord hM hu8 he, TE_ord hT, svO_lt ho, svN_le hn, svO_lt ha, svN_le hb⟩, Nat.le_add_right _ _, h1, h2⟩

theorem pq_shorten (l : Launch) (hst : l.stackTraces = false) (D : va_G) (Z : Nat → ClassId) (z y : Nat → Nat → Nat) {X : ST} {o n : Nat} (Y : Nat → ST) (P : PG) {M : ST} {a b : Nat} (B : Nat → ST) (Q : PG) (hL : LPq X o n M a b)  (h19 : X.1.2.2.2 ≠ 1) (h29 : X.2.1 0 ≠ X.1.2.2.2 - 1) : PQ l yX7_shorten wsX7_shorten 6 111 1 6 D Z z y X o n Y P M a b B Q [] [] := by
  have hL9 := hL
  obtain ⟨hX, hM, hT, ho, hn, ha, hb⟩ := hL9
  have h1 := n_shorten l hst D Z z X o n Y P  ho hn hX ⟨by have := hX.1.2.2.1; omega, h29⟩
  have h2 := n_shorten l hst D Z y M a b B Q  ha hb hM (by rw [hT.1.1, hT.2.1.1]; exact ⟨by have := hX.1.2.2.1; omega, h29⟩)
  rw [show M.1.2.2.2 = X.1.2.2.2 by rw [hT.1.1]] at h2
  exact ⟨_, _, _, _, _, _, _, _, _, ⟨B_sho hX h19 h29, B_sho hM (by rw [hT.1.1]; exact h19) (by rw [hT.1.1, hT.2.1.1]; exact h29), TE_sho hT, svO_lt ho, svN_le hn, svO_lt ha, svN_le hb⟩, Nat.le_add_right _ _, h1, h2⟩

theorem pq_steal (l : Launch) (hst : l.stackTraces = false) (D : va_G) (Z : Nat → ClassId) (z y : Nat → Nat → Nat) {X : ST} {o n : Nat} (Y : Nat → ST) (P : PG) {M : ST} {a b : Nat} (B : Nat → ST) (Q : PG) (hL : LPq X o n M a b) {c e f : Nat} (hc : c < 4) (he1 : 1 ≤ e) (he : e ≤ 60) (hf1 : 1 ≤ f) (hf : f ≤ 99) : PQ l yX7_steal wsX7_steal 7 111 3 18 D Z z y X o n Y P M a b B Q [vI c, vI e, vI f] [vI (3 - c), vI e, vI f] := by
  have hL9 := hL
  obtain ⟨hX, hM, hT, ho, hn, ha, hb⟩ := hL9
  have h1 := n_steal l hst D Z z X o n Y P c e f ho hn hX hc he1 he hf1 hf
  have h2 := n_steal l hst D Z y M a b B Q (3 - c) e f ha hb hM (by omega) he1 he hf1 hf
  rw [hT.2.1.2 c hc] at h2
  exact ⟨_, _, _, _, _, _, _, _, _, ⟨B_st hX hc he hf, B_st hM (by omega) he hf, TE_st hc hT, svO_lt ho, svN_le hn, svO_lt ha, svN_le hb⟩, Nat.le_add_right _ _, h1, h2⟩

theorem pq_giveBack (l : Launch) (hst : l.stackTraces = false) (D : va_G) (Z : Nat → ClassId) (z y : Nat → Nat → Nat) {X : ST} {o n : Nat} (Y : Nat → ST) (P : PG) {M : ST} {a b : Nat} (B : Nat → ST) (Q : PG) (hL : LPq X o n M a b) {c : Nat} (hc : c < 4) : PQ l yX7_giveBack wsX7_giveBack 7 111 1 6 D Z z y X o n Y P M a b B Q [vI c] [vI (3 - c)] := by
  have hL9 := hL
  obtain ⟨hX, hM, hT, ho, hn, ha, hb⟩ := hL9
  have h1 := n_giveBack l hst D Z z X o n Y P c ho hn hX hc
  have h2 := n_giveBack l hst D Z y M a b B Q (3 - c) ha hb hM (by omega)
  rw [hT.2.1.2 c hc] at h2
  exact ⟨_, _, _, _, _, _, _, _, _, ⟨B_st hX hc (by decide) (by decide), B_st hM (by omega) (by decide) (by decide), TE_st hc hT, svO_lt ho, svN_le hn, svO_lt ha, svN_le hb⟩, Nat.le_add_right _ _, h1, h2⟩

theorem pa_value (l : Launch) (hst : l.stackTraces = false) (D : va_G) (Z : Nat → ClassId) (z y : Nat → Nat → Nat) {X : ST} {o n : Nat} (Y : Nat → ST) (P : PG) {M : ST} {a b : Nat} (B : Nat → ST) (Q : PG) (hL : LPq X o n M a b) {w : Nat} (hw : w ≤ 7) : PA l yX7_value wsX7_value 7 104 1 6 D Z z y X o n Y P M a b B Q [vI w] [vI w] := by
  have hL9 := hL
  obtain ⟨hX, hM, hT, ho, hn, ha, hb⟩ := hL9
  have h1 := n_value l hst D Z z X o n Y P w hX hw
  have h2 := n_value l hst D Z y M a b B Q w hM hw
  rw [hL.v] at h2
  exact ⟨_, _, _, h1, h2⟩

theorem pa_channel (l : Launch) (hst : l.stackTraces = false) (D : va_G) (Z : Nat → ClassId) (z y : Nat → Nat → Nat) {X : ST} {o n : Nat} (Y : Nat → ST) (P : PG) {M : ST} {a b : Nat} (B : Nat → ST) (Q : PG) (hL : LPq X o n M a b) {c w : Nat} (hc : c < 4) (hw : w ≤ 7) : PA l yX7_channel wsX7_channel 7 104 2 12 D Z z y X o n Y P M a b B Q [vI c, vI w] [vI (3 - c), vI w] := by
  have hL9 := hL
  obtain ⟨hX, hM, hT, ho, hn, ha, hb⟩ := hL9
  have h1 := n_channel l hst D Z z X o n Y P c w hX hc hw
  have h2 := n_channel l hst D Z y M a b B Q (3 - c) w hM (by omega) hw
  rw [hT.2.1.2 c hc] at h2
  exact ⟨_, _, _, h1, h2⟩

theorem pa_pattern (l : Launch) (hst : l.stackTraces = false) (D : va_G) (Z : Nat → ClassId) (z y : Nat → Nat → Nat) {X : ST} {o n : Nat} (Y : Nat → ST) (P : PG) {M : ST} {a b : Nat} (B : Nat → ST) (Q : PG) (hL : LPq X o n M a b) {u w : Nat} (hu : u < 6) (hw : w ≤ 4) : PA l yX7_pattern wsX7_pattern 7 117 2 12 D Z z y X o n Y P M a b B Q [vI u, vI w] [vI u, vI w] := by
  have hL9 := hL
  obtain ⟨hX, hM, hT, ho, hn, ha, hb⟩ := hL9
  have h1 := n_pattern l hst D Z z X o n Y P u w hX hu hw
  have h2 := n_pattern l hst D Z y M a b B Q u w hM hu hw
  rw [factP_T hX.1 hT.1 hu] at h2
  exact ⟨_, _, _, h1, h2⟩

theorem pa_silent (l : Launch) (hst : l.stackTraces = false) (D : va_G) (Z : Nat → ClassId) (z y : Nat → Nat → Nat) {X : ST} {o n : Nat} (Y : Nat → ST) (P : PG) {M : ST} {a b : Nat} (B : Nat → ST) (Q : PG) (hL : LPq X o n M a b) {c k : Nat} (hc : c < 4) (hk1 : 1 ≤ k) (hk : k ≤ 500) : PA l yX7_silent wsX7_silent 7 117 2 12 D Z z y X o n Y P M a b B Q [vI c, vI k] [vI (3 - c), vI k] := by
  have hL9 := hL
  obtain ⟨hX, hM, hT, ho, hn, ha, hb⟩ := hL9
  have h1 := n_silent l hst D Z z X o n Y P c k hX hc hk1 hk
  have h2 := n_silent l hst D Z y M a b B Q (3 - c) k hM (by omega) hk1 hk
  rw [siN_T hX.1 hX.2.1 hT.1 hT.2.1 hT.2.2 hc] at h2
  exact ⟨_, _, _, h1, h2⟩

theorem pa_deepest (l : Launch) (hst : l.stackTraces = false) (D : va_G) (Z : Nat → ClassId) (z y : Nat → Nat → Nat) {X : ST} {o n : Nat} (Y : Nat → ST) (P : PG) {M : ST} {a b : Nat} (B : Nat → ST) (Q : PG) (hL : LPq X o n M a b) {c k : Nat} (hc : c < 4) (hk1 : 1 ≤ k) (hk : k ≤ 500) : PA l yX7_deepest wsX7_deepest 7 117 2 12 D Z z y X o n Y P M a b B Q [vI c, vI k] [vI (3 - c), vI k] := by
  have hL9 := hL
  obtain ⟨hX, hM, hT, ho, hn, ha, hb⟩ := hL9
  have h1 := n_deepest l hst D Z z X o n Y P c k hX hc hk1 hk
  have h2 := n_deepest l hst D Z y M a b B Q (3 - c) k hM (by omega) hk1 hk
  rw [deN_T hX.1 hX.2.1 hT.1 hT.2.1 hT.2.2 hc] at h2
  exact ⟨_, _, _, h1, h2⟩

theorem pa_unheard (l : Launch) (hst : l.stackTraces = false) (D : va_G) (Z : Nat → ClassId) (z y : Nat → Nat → Nat) {X : ST} {o n : Nat} (Y : Nat → ST) (P : PG) {M : ST} {a b : Nat} (B : Nat → ST) (Q : PG) (hL : LPq X o n M a b) {c e : Nat} (hc : c < 4) (he1 : 1 ≤ e) (he : e ≤ 60) : PA l yX7_unheard wsX7_unheard 7 117 2 12 D Z z y X o n Y P M a b B Q [vI c, vI e] [vI (3 - c), vI e] := by
  have hL9 := hL
  obtain ⟨hX, hM, hT, ho, hn, ha, hb⟩ := hL9
  have h1 := n_unheard l hst D Z z X o n Y P c e hX hc he1 he
  have h2 := n_unheard l hst D Z y M a b B Q (3 - c) e hM (by omega) he1 he
  have e9 : uhK M.1 (stP M.2 (3 - c) 0 0) (3 - c) (16 * (16 * e) + 15) 99 0 = uhK X.1 (stP X.2 c 0 0) c (16 * (16 * e) + 15) 99 0 := uhK_T hX.1 (stP_PB hc (by decide) (by decide) hX.2.1) hT.1 (stP_T hT.2.1 hc) hT.2.2 hc 99 0
  rw [e9] at h2
  exact ⟨_, _, _, h1, h2⟩

theorem pa_ticksToRound (l : Launch) (D : va_G) (Z : Nat → ClassId) (z y : Nat → Nat → Nat) {X : ST} {o n : Nat} (Y : Nat → ST) (P : PG) {M : ST} {a b : Nat} (B : Nat → ST) (Q : PG) (hL : LPq X o n M a b) : ∃ (v : Int32) (P2 Q2 : PG), Ci l yX7_ticksToRound wsX7_ticksToRound 5 117 D Z [.ref (z 0 0)] (qW Z z X o n Y P) v (qW Z z X o n Y P2) ∧ Ci l yX7_ticksToRound wsX7_ticksToRound 5 117 D Z [.ref (y 0 0)] (qW Z y M a b B Q) v (qW Z y M a b B Q2) := by
  obtain ⟨hX, hM, hT, ho, hn, ha, hb⟩ := hL
  have h1 := n_ticksToRound l D Z z X o n Y P hX
  have h2 := n_ticksToRound l D Z y M a b B Q hM
  have e9 : rtK M.1 M.2 1000 1 = rtK X.1 X.2 1000 1 := rtK_T hX.1 hX.2.1 hT.1 hT.2.1 hT.2.2 1000 1
  rw [e9] at h2
  exact ⟨_, _, _, h1, h2⟩

theorem mvD_T {X M : ST} (hT : TE X M) : mvD M = mvD X := by
  unfold mvD
  rw [cnt4_T (f := fun c => X.2.2 c 1) (g := fun c => M.2.2 c 1) (fun c hc => by rw [hT.2.1.2 c hc])]
theorem pa_meanVolume (l : Launch) (D : va_G) (Z : Nat → ClassId) (z y : Nat → Nat → Nat) {X : ST} {o n : Nat} (Y : Nat → ST) (P : PG) {M : ST} {a b : Nat} (B : Nat → ST) (Q : PG) (hL : LPq X o n M a b) : ∃ v : UInt64, Op.cmpValue (FP.dcmp v v) .l = 0 ∧ Cd l yX7_meanVolume wsX7_meanVolume 0 0 D Z [.ref (z 0 0)] (qW Z z X o n Y P) v (qW Z z X o n Y P) ∧ Cd l yX7_meanVolume wsX7_meanVolume 0 0 D Z [.ref (y 0 0)] (qW Z y M a b B Q) v (qW Z y M a b B Q) := by
  obtain ⟨hX, hM, hT, ho, hn, ha, hb⟩ := hL
  have h1 := n_meanVolume l D Z z X o n Y P hX
  have h2 := n_meanVolume l D Z y M a b B Q hM
  rw [mvD_T hT] at h2
  exact ⟨_, dc_self _ (by have := cnt_15 (f := fun c => X.2.2 c 1) 4 (by decide) (fun c hc => (hX.2.1.2.2.2.2.2 c hc).1.2.1); omega), h1, h2⟩

/-- what play() will answer, hashOf() tells -/
theorem q_hash (l : Launch) (hst : l.stackTraces = false) (D : va_G) (Z : Nat → ClassId) (z : Nat → Nat → Nat) {X : ST} (hX : XB X) {k : Nat} (hk : k ≤ 500) : ∃ (v : Int32) (X2 : ST), X2 = (X.1, tkN X.1 X.2 k) ∧ (∀ (o n : Nat) (Y : Nat → ST) (P : PG), ∃ P2 : PG, Xi l yX7_hashOf wsX7_hashOf 7 145 1 6 D Z [.ref (z 0 0), vI k] (qW Z z X o n Y P) none v (qW Z z X o n Y P2)) ∧ (1 ≤ k → X.2.1 4 + k ≤ 100000 → XB X2 ∧ X2.2.1 4 = X.2.1 4 + k ∧ ∀ (o n : Nat) (Y : Nat → ST) (P : PG), o < 4 → n ≤ 4 → Xi l yX7_play wsX7_play 7 145 2 12 D Z [.ref (z 0 0), vI k] (qW Z z X o n Y P) none v (qW Z z X2 (svO o n) (svN n + 1) (svX o n Y X) P)) :=
  ⟨_, _, rfl, fun o n Y P => ⟨_, n_hashOf l hst D Z z X o n Y P k hX hk⟩, fun h1 h2 => ⟨B_play hX h2, (tkN_4 (G := X.1) (P := X.2) k).1, fun o n Y P ho hn => n_play l hst D Z z X o n Y P k ho hn hX h1 hk h2⟩⟩
/-- the round that ticksToRound() tells -/
theorem q_round (l : Launch) (D : va_G) (Z : Nat → ClassId) (z : Nat → Nat → Nat) {X : ST} (o n : Nat) (Y : Nat → ST) (P : PG) (hX : XB X) : ∃ (r : Nat) (P2 : PG), r ≤ 1001 ∧ Ci l yX7_ticksToRound wsX7_ticksToRound 5 117 D Z [.ref (z 0 0)] (qW Z z X o n Y P) (rtA r) (qW Z z X o n Y P2) ∧ (r ≠ 0 → 1 ≤ r ∧ (tkN X.1 X.2 r).1 5 = X.2.1 5 + 1 ∧ (tkN X.1 X.2 r).1 0 = 0 ∧ (tkN X.1 X.2 r).1 1 = 0 ∧ (tkN X.1 X.2 r).1 2 = 0) := by
  have h1 := n_ticksToRound l D Z z X o n Y P hX
  have h2 := rtK_le (G := X.1) (P := X.2) 1000 1
  have h3 := rtK_ok (G := X.1) (P := X.2) 1000 1 (by decide) (fun j hj => by rw [show j = 0 by omega]; rfl)
  exact ⟨_, _, by omega, h1, h3⟩
