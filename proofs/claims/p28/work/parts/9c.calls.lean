/-! the class's calls, their arguments in range; both players' calls at once -/
theorem ixI_y {n k : Nat} (h : k < n) (hn : n < 2 ^ 31) : ixI n (nI k) := by
  unfold ixI
  rw [Int32.lt_iff_toInt_lt, Int32.le_iff_toInt_le, nI_toInt (by omega), nI_toInt hn]
  have h0 : (0 : Int32).toInt = 0 := by decide
  omega
theorem rgI_y {a b k : Nat} (ha : a ≤ k) (hb : k ≤ b) (hb2 : b < 2 ^ 31) : rgI a b (nI k) := by
  unfold rgI
  rw [nI_ltI (by omega) (by omega), nI_ltI hb2 (by omega)]
  omega
theorem celI_y {a b d : Nat} (ha : a < 6) (hb : b < 8) (hd : d < 4) : celI (nI a) (nI b) (nI d) := ⟨ixI_y ha (by decide), ixI_y hb (by decide), ixI_y hd (by decide)⟩

theorem n_setNote (l : Launch) (hst : l.stackTraces = false) (D : va_G) (Z : Nat → ClassId) (z : Nat → Nat → Nat) (X : ST) (o n : Nat) (Y : Nat → ST) (P9 : PG) (u v c e f : Nat) (ho : o < 4) (hn : n ≤ 4) (hX : XB X) (hu : u < 6) (hv : v < 8) (hc : c < 4) (he : e ≤ 61) (hf : f ≤ 15) : Xi l yX7_setNote wsX7_setNote 7 111 3 18 D Z [.ref (z 0 0), vI u, vI v, vI c, vI e, vI f] (qW Z z X o n Y P9) none (nI (X.1.1 (cix u v c) 0)) (qW Z z (stNote X (cix u v c) e f) (svO o n) (svN n + 1) (svX o n Y X) P9) := by
  have h := c_X7_setNote l hst D Z z X o n Y 0 0 0 0 (fun _ => 0) (fun _ _ => 0) P9 (nI u) (nI v) (nI c) (nI e) (nI f) ho hn hX
  simp only [toN_nI (k := u) (by omega), toN_nI (k := v) (by omega), toN_nI (k := c) (by omega), toN_nI (k := e) (by omega), toN_nI (k := f) (by omega)] at h
  rw [xI_t (celI_y hu hv hc), xI_t (show rgI 0 61 (nI e) from rgI_y (by omega) (by omega) (by decide)), xI_t (show rgI 0 15 (nI f) from rgI_y (by omega) (by omega) (by decide))] at h
  exact h

theorem n_setEffect (l : Launch) (hst : l.stackTraces = false) (D : va_G) (Z : Nat → ClassId) (z : Nat → Nat → Nat) (X : ST) (o n : Nat) (Y : Nat → ST) (P9 : PG) (u v c e f : Nat) (ho : o < 4) (hn : n ≤ 4) (hX : XB X) (hu : u < 6) (hv : v < 8) (hc : c < 4) (he : e ≤ 7) (hf : f ≤ 9) : Xi l yX7_setEffect wsX7_setEffect 7 111 3 18 D Z [.ref (z 0 0), vI u, vI v, vI c, vI e, vI f] (qW Z z X o n Y P9) none (nI (X.1.1 (cix u v c) 2)) (qW Z z (stEff X (cix u v c) e f) (svO o n) (svN n + 1) (svX o n Y X) P9) := by
  have h := c_X7_setEffect l hst D Z z X o n Y 0 0 0 0 (fun _ => 0) (fun _ _ => 0) P9 (nI u) (nI v) (nI c) (nI e) (nI f) ho hn hX
  simp only [toN_nI (k := u) (by omega), toN_nI (k := v) (by omega), toN_nI (k := c) (by omega), toN_nI (k := e) (by omega), toN_nI (k := f) (by omega)] at h
  rw [xI_t (celI_y hu hv hc), xI_t (show rgI 0 7 (nI e) from rgI_y (by omega) (by omega) (by decide)), xI_t (show rgI 0 9 (nI f) from rgI_y (by omega) (by omega) (by decide))] at h
  exact h

theorem n_setRows (l : Launch) (hst : l.stackTraces = false) (D : va_G) (Z : Nat → ClassId) (z : Nat → Nat → Nat) (X : ST) (o n : Nat) (Y : Nat → ST) (P9 : PG) (u e : Nat) (ho : o < 4) (hn : n ≤ 4) (hX : XB X) (hu : u < 6) (he1 : 1 ≤ e) (he : e ≤ 8) : Xi l yX7_setRows wsX7_setRows 7 111 2 12 D Z [.ref (z 0 0), vI u, vI e] (qW Z z X o n Y P9) none (nI (X.1.2.1 u)) (qW Z z (stRows X u e) (svO o n) (svN n + 1) (svX o n Y X) P9) := by
  have h := c_X7_setRows l hst D Z z X o n Y 0 0 0 0 (fun _ => 0) (fun _ _ => 0) P9 (nI u) (nI e) ho hn hX
  simp only [toN_nI (k := u) (by omega), toN_nI (k := e) (by omega)] at h
  rw [xI_t (show ixI 6 (nI u) from ixI_y hu (by decide)), xI_t (show rgI 1 8 (nI e) from rgI_y (by omega) (by omega) (by decide))] at h
  exact h

theorem n_setOrder (l : Launch) (hst : l.stackTraces = false) (D : va_G) (Z : Nat → ClassId) (z : Nat → Nat → Nat) (X : ST) (o n : Nat) (Y : Nat → ST) (P9 : PG) (u e : Nat) (ho : o < 4) (hn : n ≤ 4) (hX : XB X) (hu : u ≤ X.1.2.2.2) (hu8 : u < 8) (he : e ≤ 5) : Xi l yX7_setOrder wsX7_setOrder 7 111 2 12 D Z [.ref (z 0 0), vI u, vI e] (qW Z z X o n Y P9) none (nI (max X.1.2.2.2 (u + 1))) (qW Z z (stOrd X u e) (svO o n) (svN n + 1) (svX o n Y X) P9) := by
  have h := c_X7_setOrder l hst D Z z X o n Y 0 0 0 0 (fun _ => 0) (fun _ _ => 0) P9 (nI u) (nI e) ho hn hX
  simp only [toN_nI (k := u) (by omega), toN_nI (k := e) (by omega)] at h
  rw [xI_t (show ixI (min (X.1.2.2.2 + 1) 8) (nI u) from ixI_y (by omega) (by omega)), xI_t (show rgI 0 5 (nI e) from rgI_y (by omega) (by omega) (by decide))] at h
  exact h

theorem n_shorten (l : Launch) (hst : l.stackTraces = false) (D : va_G) (Z : Nat → ClassId) (z : Nat → Nat → Nat) (X : ST) (o n : Nat) (Y : Nat → ST) (P9 : PG)  (ho : o < 4) (hn : n ≤ 4) (hX : XB X) (h1 : ¬ (X.1.2.2.2 - 1 = 0) ∧ X.2.1 0 ≠ X.1.2.2.2 - 1) : Xi l yX7_shorten wsX7_shorten 6 111 1 6 D Z [.ref (z 0 0)] (qW Z z X o n Y P9) none (nI (X.1.2.2.2 - 1)) (qW Z z (stSho X) (svO o n) (svN n + 1) (svX o n Y X) P9) := by
  have h := c_X7_shorten l hst D Z z X o n Y 0 0 0 0 (fun _ => 0) (fun _ _ => 0) P9  ho hn hX
  rw [xI_t h1] at h
  exact h

theorem n_pattern (l : Launch) (hst : l.stackTraces = false) (D : va_G) (Z : Nat → ClassId) (z : Nat → Nat → Nat) (X : ST) (o n : Nat) (Y : Nat → ST) (P9 : PG) (u w : Nat) (hX : XB X) (hu : u < 6) (hw : w ≤ 4) : Xi l yX7_pattern wsX7_pattern 7 117 2 12 D Z [.ref (z 0 0), vI u, vI w] (qW Z z X o n Y P9) none (nI (factP X.1 u w)) (qW Z z X o n Y P9) := by
  have h := c_X7_pattern l hst D Z z X o n Y 0 0 0 0 (fun _ => 0) (fun _ _ => 0) P9 (nI u) (nI w) hX
  simp only [toN_nI (k := u) (by omega), toN_nI (k := w) (by omega)] at h
  rw [xI_t (show ixI 6 (nI u) from ixI_y hu (by decide)), xI_t (show rgI 0 4 (nI w) from rgI_y (by omega) (by omega) (by decide))] at h
  exact h

theorem n_order (l : Launch) (hst : l.stackTraces = false) (D : va_G) (Z : Nat → ClassId) (z : Nat → Nat → Nat) (X : ST) (o n : Nat) (Y : Nat → ST) (P9 : PG) (u : Nat) (hX : XB X) (hu : u < X.1.2.2.2) : Xi l yX7_order wsX7_order 7 103 1 6 D Z [.ref (z 0 0), vI u] (qW Z z X o n Y P9) none (nI (X.1.2.2.1 u)) (qW Z z X o n Y P9) := by
  have hp8 := hX.1.2.2.2.1
  have h := c_X7_order l hst D Z z X o n Y 0 0 0 0 (fun _ => 0) (fun _ _ => 0) P9 (nI u) hX
  simp only [toN_nI (k := u) (by omega)] at h
  rw [xI_t (show ixI X.1.2.2.2 (nI u) from ixI_y hu (by have := hX.1.2.2.2.1; omega))] at h
  exact h

theorem n_play (l : Launch) (hst : l.stackTraces = false) (D : va_G) (Z : Nat → ClassId) (z : Nat → Nat → Nat) (X : ST) (o n : Nat) (Y : Nat → ST) (P9 : PG) (k : Nat) (ho : o < 4) (hn : n ≤ 4) (hX : XB X) (hk1 : 1 ≤ k) (hk : k ≤ 500) (ht : X.2.1 4 + k ≤ 100000) : Xi l yX7_play wsX7_play 7 145 2 12 D Z [.ref (z 0 0), vI k] (qW Z z X o n Y P9) none (hsN X.1 X.2 k) (qW Z z (X.1, tkN X.1 X.2 k) (svO o n) (svN n + 1) (svX o n Y X) P9) := by
  have h := c_X7_play l hst D Z z X o n Y 0 0 0 0 (fun _ => 0) (fun _ _ => 0) P9 (nI k) ho hn hX
  simp only [toN_nI (k := k) (by omega)] at h
  rw [xI_t (show rgI 1 500 (nI k) from rgI_y (by omega) (by omega) (by decide)), xI_t ht] at h
  exact h

theorem n_steal (l : Launch) (hst : l.stackTraces = false) (D : va_G) (Z : Nat → ClassId) (z : Nat → Nat → Nat) (X : ST) (o n : Nat) (Y : Nat → ST) (P9 : PG) (c e f : Nat) (ho : o < 4) (hn : n ≤ 4) (hX : XB X) (hc : c < 4) (he1 : 1 ≤ e) (he : e ≤ 60) (hf1 : 1 ≤ f) (hf : f ≤ 99) : Xi l yX7_steal wsX7_steal 7 111 3 18 D Z [.ref (z 0 0), vI c, vI e, vI f] (qW Z z X o n Y P9) none (nI (X.2.2 c 2)) (qW Z z (X.1, stP X.2 c e f) (svO o n) (svN n + 1) (svX o n Y X) P9) := by
  have h := c_X7_steal l hst D Z z X o n Y 0 0 0 0 (fun _ => 0) (fun _ _ => 0) P9 (nI c) (nI e) (nI f) ho hn hX
  simp only [toN_nI (k := c) (by omega), toN_nI (k := e) (by omega), toN_nI (k := f) (by omega)] at h
  rw [xI_t (show ixI 4 (nI c) from ixI_y hc (by decide)), xI_t (show rgI 1 60 (nI e) from rgI_y (by omega) (by omega) (by decide)), xI_t (show rgI 1 99 (nI f) from rgI_y (by omega) (by omega) (by decide))] at h
  exact h

theorem n_giveBack (l : Launch) (hst : l.stackTraces = false) (D : va_G) (Z : Nat → ClassId) (z : Nat → Nat → Nat) (X : ST) (o n : Nat) (Y : Nat → ST) (P9 : PG) (c : Nat) (ho : o < 4) (hn : n ≤ 4) (hX : XB X) (hc : c < 4) : Xi l yX7_giveBack wsX7_giveBack 7 111 1 6 D Z [.ref (z 0 0), vI c] (qW Z z X o n Y P9) none (nI (X.2.2 c 2)) (qW Z z (X.1, stP X.2 c 0 0) (svO o n) (svN n + 1) (svX o n Y X) P9) := by
  have h := c_X7_giveBack l hst D Z z X o n Y 0 0 0 0 (fun _ => 0) (fun _ _ => 0) P9 (nI c) ho hn hX
  simp only [toN_nI (k := c) (by omega)] at h
  rw [xI_t (show ixI 4 (nI c) from ixI_y hc (by decide))] at h
  exact h

theorem n_channel (l : Launch) (hst : l.stackTraces = false) (D : va_G) (Z : Nat → ClassId) (z : Nat → Nat → Nat) (X : ST) (o n : Nat) (Y : Nat → ST) (P9 : PG) (c w : Nat) (hX : XB X) (hc : c < 4) (hw : w ≤ 7) : Xi l yX7_channel wsX7_channel 7 104 2 12 D Z [.ref (z 0 0), vI c, vI w] (qW Z z X o n Y P9) none (factV (X.2.2 c) w) (qW Z z X o n Y P9) := by
  have h := c_X7_channel l hst D Z z X o n Y 0 0 0 0 (fun _ => 0) (fun _ _ => 0) P9 (nI c) (nI w) hX
  simp only [toN_nI (k := c) (by omega), toN_nI (k := w) (by omega)] at h
  rw [xI_t (show ixI 4 (nI c) from ixI_y hc (by decide)), xI_t (show rgI 0 7 (nI w) from rgI_y (by omega) (by omega) (by decide))] at h
  exact h

theorem n_value (l : Launch) (hst : l.stackTraces = false) (D : va_G) (Z : Nat → ClassId) (z : Nat → Nat → Nat) (X : ST) (o n : Nat) (Y : Nat → ST) (P9 : PG) (w : Nat) (hX : XB X) (hw : w ≤ 7) : Xi l yX7_value wsX7_value 7 104 1 6 D Z [.ref (z 0 0), vI w] (qW Z z X o n Y P9) none (nI (valF X w)) (qW Z z X o n Y P9) := by
  have h := c_X7_value l hst D Z z X o n Y 0 0 0 0 (fun _ => 0) (fun _ _ => 0) P9 (nI w) hX
  simp only [toN_nI (k := w) (by omega)] at h
  rw [xI_t (show rgI 0 7 (nI w) from rgI_y (by omega) (by omega) (by decide))] at h
  exact h

theorem n_hashOf (l : Launch) (hst : l.stackTraces = false) (D : va_G) (Z : Nat → ClassId) (z : Nat → Nat → Nat) (X : ST) (o n : Nat) (Y : Nat → ST) (P9 : PG) (k : Nat) (hX : XB X) (hk : k ≤ 500) : Xi l yX7_hashOf wsX7_hashOf 7 145 1 6 D Z [.ref (z 0 0), vI k] (qW Z z X o n Y P9) none (hsN X.1 X.2 k) (qW Z z X o n Y (tkN X.1 X.2 k)) := by
  have h := c_X7_hashOf l hst D Z z X o n Y 0 0 0 0 (fun _ => 0) (fun _ _ => 0) P9 (nI k) hX
  simp only [toN_nI (k := k) (by omega)] at h
  rw [xI_t (show rgI 0 500 (nI k) from rgI_y (by omega) (by omega) (by decide))] at h
  exact h

theorem n_silent (l : Launch) (hst : l.stackTraces = false) (D : va_G) (Z : Nat → ClassId) (z : Nat → Nat → Nat) (X : ST) (o n : Nat) (Y : Nat → ST) (P9 : PG) (c k : Nat) (hX : XB X) (hc : c < 4) (hk1 : 1 ≤ k) (hk : k ≤ 500) : Xi l yX7_silent wsX7_silent 7 117 2 12 D Z [.ref (z 0 0), vI c, vI k] (qW Z z X o n Y P9) none (nI (siN X.1 X.2 c k)) (qW Z z X o n Y (tkN X.1 X.2 k)) := by
  have h := c_X7_silent l hst D Z z X o n Y 0 0 0 0 (fun _ => 0) (fun _ _ => 0) P9 (nI c) (nI k) hX
  simp only [toN_nI (k := c) (by omega), toN_nI (k := k) (by omega)] at h
  rw [xI_t (show ixI 4 (nI c) from ixI_y hc (by decide)), xI_t (show rgI 1 500 (nI k) from rgI_y (by omega) (by omega) (by decide))] at h
  exact h

theorem n_deepest (l : Launch) (hst : l.stackTraces = false) (D : va_G) (Z : Nat → ClassId) (z : Nat → Nat → Nat) (X : ST) (o n : Nat) (Y : Nat → ST) (P9 : PG) (c k : Nat) (hX : XB X) (hc : c < 4) (hk1 : 1 ≤ k) (hk : k ≤ 500) : Xi l yX7_deepest wsX7_deepest 7 117 2 12 D Z [.ref (z 0 0), vI c, vI k] (qW Z z X o n Y P9) none (nI (deN X.1 X.2 c k)) (qW Z z X o n Y (tkN X.1 X.2 k)) := by
  have h := c_X7_deepest l hst D Z z X o n Y 0 0 0 0 (fun _ => 0) (fun _ _ => 0) P9 (nI c) (nI k) hX
  simp only [toN_nI (k := c) (by omega), toN_nI (k := k) (by omega)] at h
  rw [xI_t (show ixI 4 (nI c) from ixI_y hc (by decide)), xI_t (show rgI 1 500 (nI k) from rgI_y (by omega) (by omega) (by decide))] at h
  exact h

theorem n_unheard (l : Launch) (hst : l.stackTraces = false) (D : va_G) (Z : Nat → ClassId) (z : Nat → Nat → Nat) (X : ST) (o n : Nat) (Y : Nat → ST) (P9 : PG) (c e : Nat) (hX : XB X) (hc : c < 4) (he1 : 1 ≤ e) (he : e ≤ 60) : Xi l yX7_unheard wsX7_unheard 7 117 2 12 D Z [.ref (z 0 0), vI c, vI e] (qW Z z X o n Y P9) none (nI (uhK X.1 (stP X.2 c 0 0) c (16 * (16 * e) + 15) 99 0)) (qW Z z X o n Y (tkN X.1 (stP X.2 c 0 0) (uhM (uhK X.1 (stP X.2 c 0 0) c (16 * (16 * e) + 15) 99 0)))) := by
  have h := c_X7_unheard l hst D Z z X o n Y 0 0 0 0 (fun _ => 0) (fun _ _ => 0) P9 (nI c) (nI e) hX
  simp only [toN_nI (k := c) (by omega), toN_nI (k := e) (by omega)] at h
  rw [xI_t (show ixI 4 (nI c) from ixI_y hc (by decide)), xI_t (show rgI 1 60 (nI e) from rgI_y (by omega) (by omega) (by decide))] at h
  exact h

theorem n_undo (l : Launch) (hst : l.stackTraces = false) (D : va_G) (Z : Nat → ClassId) (z : Nat → Nat → Nat) (X : ST) (o n : Nat) (Y : Nat → ST) (P9 : PG)  (ho : o < 4) (hn : n ≤ 4) (h0 : n ≠ 0) : Xi l yX7_undo wsX7_undo 6 111 1 6 D Z [.ref (z 0 0)] (qW Z z X o n Y P9) none (nI (n - 1)) (qW Z z (Y ((o + (n - 1)) % 4)) o (n - 1) Y P9) := by
  have h := c_X7_undo l hst D Z z X o n Y 0 0 0 0 (fun _ => 0) (fun _ _ => 0) P9  ho hn
  rw [xI_t h0] at h
  exact h

theorem n_restart (l : Launch) (D : va_G) (Z : Nat → ClassId) (z : Nat → Nat → Nat) (X : ST) (o n : Nat) (Y : Nat → ST) (P9 : PG) (ho : o < 4) (hn : n ≤ 4) (hX : XB X) : Ci l yX7_restart wsX7_restart 5 111 D Z [.ref (z 0 0)] (qW Z z X o n Y P9) (nI (X.2.1 4)) (qW Z z (X.1, gbP X.2) (svO o n) (svN n + 1) (svX o n Y X) P9) :=
  c_X7_restart l D Z z X o n Y 0 0 0 0 (fun _ => 0) (fun _ _ => 0) P9 ho hn hX

theorem n_ticksToRound (l : Launch) (D : va_G) (Z : Nat → ClassId) (z : Nat → Nat → Nat) (X : ST) (o n : Nat) (Y : Nat → ST) (P9 : PG) (hX : XB X) : Ci l yX7_ticksToRound wsX7_ticksToRound 5 117 D Z [.ref (z 0 0)] (qW Z z X o n Y P9) (rtA (rtK X.1 X.2 1000 1)) (qW Z z X o n Y (tkN X.1 X.2 (rtM (rtK X.1 X.2 1000 1)))) :=
  c_X7_ticksToRound l D Z z X o n Y 0 0 0 0 (fun _ => 0) (fun _ _ => 0) P9 hX

theorem n_meanVolume (l : Launch) (D : va_G) (Z : Nat → ClassId) (z : Nat → Nat → Nat) (X : ST) (o n : Nat) (Y : Nat → ST) (P9 : PG) (hX : XB X) : Cd l yX7_meanVolume wsX7_meanVolume 0 0 D Z [.ref (z 0 0)] (qW Z z X o n Y P9) (mvD X) (qW Z z X o n Y P9) :=
  c_X7_meanVolume l D Z z X o n Y 0 0 0 0 (fun _ => 0) (fun _ _ => 0) P9 hX
