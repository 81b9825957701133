/-! voices and players: what a tick does, in numbers -/
theorem voiceB_row {Z : Nat → ClassId} {q qp qr : Nat} {V : Nat → Nat} {i x t : Nat} {U : Nat → Nat} (hi : i < 3) (hU : ∀ k, k ≠ 4 → U k = un V (6 + 2 * i) x k) (ht : U 4 = t) :
    ([(q, .inr (5, [vI (V 0), vI (V 1), vI (V 2), vI (V 3), vI (V 11), vI t, .ref qp, .ref qr, vI (pk (rv V))])), (qp, .inl (Z 0, 3, .inl (ar 3 (fun j => V (5 + 2 * j))))), (qr, .inl (Z 0, 3, .inl (ar 3 (un (fun j => V (6 + 2 * j)) i x))))] : va_W) = voiceB Z q qp qr U := by
  have hk : ∀ k, k ≠ 4 → k ≠ 6 + 2 * i → V k = U k := fun k h1 h2 => by rw [hU k h1, un_ne h2]
  apply voiceB_mk
  · exact hk 0 (by decide) (by omega)
  · exact hk 1 (by decide) (by omega)
  · exact hk 2 (by decide) (by omega)
  · exact hk 3 (by decide) (by omega)
  · exact hk 11 (by decide) (by omega)
  · exact ht.symm
  · show pk (rv V) = pk (rv U)
    unfold pk rv
    rw [hk (12 + 0) (by decide) (by omega), hk (12 + 1) (by decide) (by omega), hk (12 + 2) (by decide) (by omega), hk (12 + 3) (by decide) (by omega)]
  · intro j hj
    exact hk (5 + 2 * j) (by omega) (by omega)
  · intro j hj
    rw [hU (6 + 2 * j) (by omega)]
    by_cases e : j = i
    · subst e; rw [un_eq, un_eq]
    · rw [un_ne e, un_ne (by omega)]
theorem end1_0 {Z : Nat → ClassId} {q qp qr : Nat} {V g : Nat → Nat} (h : V 4 = 0) : voiceB Z q qp qr V = voiceB Z q qp qr (end1V g V) := by rw [end1V, if_pos h]
theorem end1_a {Z : Nat → ClassId} {q qp qr : Nat} {V g : Nat → Nat} (h0 : ¬ V 4 = 0) (h3 : V 4 ≤ 3) (hc : V (6 + 2 * (V 4 - 1)) + 1 < g (V (5 + 2 * (V 4 - 1)))) :
    ([(q, .inr (5, [vI (V 0), vI (V 1), vI (V 2), vI (V 3), vI (V 11), vI (V 4), .ref qp, .ref qr, vI (pk (rv V))])), (qp, .inl (Z 0, 3, .inl (ar 3 (fun j => V (5 + 2 * j))))), (qr, .inl (Z 0, 3, .inl (ar 3 (un (fun j => V (6 + 2 * j)) (V 4 - 1) (V (6 + 2 * (V 4 - 1)) + 1)))))] : va_W) = voiceB Z q qp qr (end1V g V) := by
  rw [end1V, if_neg h0, if_neg (by omega)]
  exact voiceB_row (by omega) (fun k _ => rfl) (un_ne (by omega))
theorem end1_b {Z : Nat → ClassId} {q qp qr : Nat} {V g : Nat → Nat} (h0 : ¬ V 4 = 0) (h3 : V 4 ≤ 3) (hc : g (V (5 + 2 * (V 4 - 1))) ≤ V (6 + 2 * (V 4 - 1)) + 1) :
    ([(q, .inr (5, [vI (V 0), vI (V 1), vI (V 2), vI (V 3), vI (V 11), vI (V 4 - 1), .ref qp, .ref qr, vI (pk (rv V))])), (qp, .inl (Z 0, 3, .inl (ar 3 (fun j => V (5 + 2 * j))))), (qr, .inl (Z 0, 3, .inl (ar 3 (un (fun j => V (6 + 2 * j)) (V 4 - 1) (V (6 + 2 * (V 4 - 1)) + 1)))))] : va_W) = voiceB Z q qp qr (end1V g V) := by
  rw [end1V, if_neg h0, if_pos hc]
  exact voiceB_row (by omega) (fun k h => un_ne h) un_eq
theorem VB_fp {V : Nat → Nat} (h : VB V) (h0 : ¬ V 4 = 0) : V (5 + 2 * (V 4 - 1)) ≤ 5 ∧ V (6 + 2 * (V 4 - 1)) ≤ 8 := by
  unfold VB at h
  rcases (show V 4 = 1 ∨ V 4 = 2 ∨ V 4 = 3 by omega) with e | e | e <;> rw [e] <;> simp <;> omega
def FR (V : Nat → Nat) : Prop := ∀ j, j < V 4 → V (6 + 2 * j) ≤ 7
theorem FR.top {V : Nat → Nat} (h : FR V) : 0 < V 4 → V (6 + 2 * (V 4 - 1)) ≤ 7 := fun h0 => h _ (by omega)
def gbV (V : Nat → Nat) : Nat → Nat := fun k => if k < 5 then 0 else if k = 11 then 0 else if k = 13 then 15 else if 12 ≤ k ∧ k < 16 then 0 else V k
def factV (V : Nat → Nat) (k : Nat) : Int32 := if k = 3 then (if V 2 = 0 then -1 else nI (V 3)) else if k = 5 then (if V 4 = 0 then -1 else nI (V (5 + 2 * (V 4 - 1)))) else if k = 6 then (if V 4 = 0 then -1 else nI (V (6 + 2 * (V 4 - 1)))) else if k = 7 then nI (V 11) else nI (V k)
/-- players: place, row, tick, speed, ticks, rounds; the voices -/
abbrev PG : Type := (Nat → Nat) × (Nat → Nat → Nat)
def rf4 (a : Nat → Nat) : Nat → Option Nat := fun j => if j = 0 then some (a 2) else if j = 1 then some (a 5) else if j = 2 then some (a 8) else if j = 3 then some (a 11) else none
def plO (Z : Nat → ClassId) (q qv : Nat) (f : Nat → Nat) : va_W := [(q, .inr (2, [vI (f 0), vI (f 1), vI (f 2), vI (f 3), vI (f 4), vI (f 5), .ref qv]))]
def plA (Z : Nat → ClassId) (a : Nat → Nat) : va_W := [(a 1, .inl (Z 3, 4, .inr (.inr (.inr (.inr (rf4 a))))))]
def plB (Z : Nat → ClassId) (a : Nat → Nat) (P : PG) : va_W := plO Z (a 0) (a 1) P.1 ++ plA Z a ++ voiceB Z (a 2) (a 3) (a 4) (P.2 0) ++ voiceB Z (a 5) (a 6) (a 7) (P.2 1) ++ voiceB Z (a 8) (a 9) (a 10) (P.2 2) ++ voiceB Z (a 11) (a 12) (a 13) (P.2 3)
def uv (Vs : Nat → Nat → Nat) (i : Nat) (V : Nat → Nat) : Nat → Nat → Nat := fun k => if k = i then V else Vs k
theorem uv_eq {Vs : Nat → Nat → Nat} {i : Nat} {V : Nat → Nat} : uv Vs i V i = V := if_pos rfl
theorem uv_ne {Vs : Nat → Nat → Nat} {i k : Nat} {V : Nat → Nat} (h : k ≠ i) : uv Vs i V k = Vs k := if_neg h
def VS (Vs : Nat → Nat → Nat) : Prop := ∀ c, c < 4 → VB (Vs c) ∧ FR (Vs c)
theorem VS_uv {Vs : Nat → Nat → Nat} {i : Nat} {V : Nat → Nat} (h : VS Vs) (hV : VB V ∧ FR V) : VS (uv Vs i V) := by
  intro c hc
  by_cases e : c = i
  · subst e; rw [uv_eq]; exact hV
  · rw [uv_ne e]; exact h c hc
def PB (G : SG) (P : PG) : Prop := P.1 0 < G.2.2.2 ∧ P.1 1 < 8 ∧ P.1 2 < 8 ∧ 1 ≤ P.1 3 ∧ P.1 3 ≤ 8 ∧ VS P.2
/-- the cell that a channel reads -/
def rdc (G : SG) (f V : Nat → Nat) (d : Nat) : Nat → Nat := if V 4 = 0 then G.1 (cix (G.2.2.1 (f 0)) (f 1) d) else G.1 (cix (V (5 + 2 * (V 4 - 1))) (V (6 + 2 * (V 4 - 1))) d)
def rdS (G : SG) (i : Nat) (P : PG) : PG := (if rdc G P.1 (P.2 i) i 2 = 7 ∧ 1 ≤ rdc G P.1 (P.2 i) i 3 ∧ rdc G P.1 (P.2 i) i 3 ≤ 8 then un P.1 3 (rdc G P.1 (P.2 i) i 3) else P.1, uv P.2 i (brV (P.2 i) (rdc G P.1 (P.2 i) i)))
def rdP (G : SG) (P : PG) : Nat → PG
  | 0 => P
  | n + 1 => rdS G n (rdP G P n)
def goP (t : Nat) (P : PG) : Nat → PG
  | 0 => P
  | n + 1 => ((goP t P n).1, uv (goP t P n).2 n (goV ((goP t P n).2 n) t))
def hrP (P : PG) : Nat → PG
  | 0 => P
  | n + 1 => ((hrP P n).1, uv (hrP P n).2 n (hearV ((hrP P n).2 n)))
def enP (g : Nat → Nat) (P : PG) : Nat → PG
  | 0 => P
  | n + 1 => ((enP g P n).1, uv (enP g P n).2 n (endV g ((enP g P n).2 n)))
def npP (G : SG) (P : PG) : PG := (if G.2.2.2 ≤ P.1 0 + 1 then un (un P.1 0 0) 5 (P.1 5 + 1) else un P.1 0 (P.1 0 + 1), P.2)
def erP (G : SG) (P : PG) : PG := if G.2.1 (G.2.2.1 (P.1 0)) ≤ P.1 1 + 1 then npP G (un (un P.1 2 0) 1 0, (enP G.2.1 P 4).2) else (un (un P.1 2 0) 1 (P.1 1 + 1), (enP G.2.1 P 4).2)
def t1P (G : SG) (P : PG) : PG := if P.1 2 = 0 then rdP G P 4 else goP (P.1 2) P 4
def t2P (G : SG) (P : PG) : PG := (un (un (t1P G P).1 4 ((t1P G P).1 4 + 1)) 2 ((t1P G P).1 2 + 1), (hrP (t1P G P) 4).2)
def tkP (G : SG) (P : PG) : PG := if (t2P G P).1 3 ≤ (t2P G P).1 2 then erP G (t2P G P) else t2P G P
def tkN (G : SG) (P : PG) : Nat → PG
  | 0 => P
  | n + 1 => tkP G (tkN G P n)
/-- the hash of what is heard in n ticks -/
def hs4 (h : Int32) (Vs : Nat → Nat → Nat) : Nat → Int32
  | 0 => h
  | n + 1 => nI 31 * hs4 h Vs n + nI (Vs n 11)
def hsN (G : SG) (P : PG) : Nat → Int32
  | 0 => nI 17
  | n + 1 => hs4 (hsN G P n) (tkN G P (n + 1)).2 4
/-- what stays true -/
theorem FR_un {V : Nat → Nat} {k x : Nat} (h : FR V) (h4 : k ≠ 4) (hk : k ≠ 6 ∧ k ≠ 8 ∧ k ≠ 10) (h3 : V 4 ≤ 3) : FR (un V k x) := by
  intro j hj
  rw [un_ne (Ne.symm h4)] at hj
  rw [un_ne (by omega)]
  exact h j hj
theorem FR_same {V U : Nat → Nat} (h : FR V) (h4 : U 4 = V 4) (h3 : V 4 ≤ 3) (e : U 6 = V 6 ∧ U 8 = V 8 ∧ U 10 = V 10) : FR U := by
  intro j hj
  rw [h4] at hj
  have := h j hj
  rcases (show j = 0 ∨ j = 1 ∨ j = 2 by omega) with rfl | rfl | rfl
  · rw [show U (6 + 2 * 0) = V (6 + 2 * 0) from e.1]; exact this
  · rw [show U (6 + 2 * 1) = V (6 + 2 * 1) from e.2.1]; exact this
  · rw [show U (6 + 2 * 2) = V (6 + 2 * 2) from e.2.2]; exact this
theorem VB.f3 {V : Nat → Nat} (h : VB V) : V 4 ≤ 3 := h.2.2.2.2.1
theorem begV_fr (V : Nat → Nat) (k : Nat) (h : k ≠ 0 ∧ k ≠ 1) : begV V k = V k := by
  unfold begV
  split
  · exact un_ne h.2
  · split
    · rw [un_ne h.2, un_ne h.1]
    · rfl
theorem brV_fr (V r : Nat → Nat) (k : Nat) (h : 2 ≤ k ∧ k < 12) : brV V r k = V k := by
  unfold brV
  split
  · simp [setR]; omega
  · rw [begV_fr _ _ (by omega)]
    simp [setR]; omega
theorem goV_fr (V : Nat → Nat) (t k : Nat) (h : 2 ≤ k) : goV V t k = V k := by
  unfold goV
  repeat' split
  all_goals first
    | rfl
    | exact un_ne (by omega)
    | exact begV_fr _ _ (by omega)
theorem hearV_fr (V : Nat → Nat) (k : Nat) (h : k ≠ 11 ∧ k ≠ 2) : hearV V k = V k := by
  unfold hearV
  split
  · rw [un_ne h.2, un_ne h.1]
  · rw [un_ne h.1]
theorem VR_brV {V r : Nat → Nat} (h : VB V ∧ FR V) (hr : RB r) : VB (brV V r) ∧ FR (brV V r) :=
  ⟨VB_brV h.1 hr, FR_same h.2 (brV_fr V r 4 (by decide)) h.1.f3 ⟨brV_fr V r 6 (by decide), brV_fr V r 8 (by decide), brV_fr V r 10 (by decide)⟩⟩
theorem VR_goV {V : Nat → Nat} {t : Nat} (h : VB V ∧ FR V) : VB (goV V t) ∧ FR (goV V t) :=
  ⟨VB_goV h.1, FR_same h.2 (goV_fr V t 4 (by decide)) h.1.f3 ⟨goV_fr V t 6 (by decide), goV_fr V t 8 (by decide), goV_fr V t 10 (by decide)⟩⟩
theorem VR_hearV {V : Nat → Nat} (h : VB V ∧ FR V) : VB (hearV V) ∧ FR (hearV V) :=
  ⟨VB_hearV h.1, FR_same h.2 (hearV_fr V 4 (by decide)) h.1.f3 ⟨hearV_fr V 6 (by decide), hearV_fr V 8 (by decide), hearV_fr V 10 (by decide)⟩⟩
theorem end1V_fr (g V : Nat → Nat) (h3 : V 4 ≤ 3) (k : Nat) (h : 11 ≤ k) : end1V g V k = V k := by
  unfold end1V
  split
  · rfl
  · split
    · rw [un_ne (by omega), un_ne (by omega)]
    · rw [un_ne (by omega)]
theorem FR_end1V {g V : Nat → Nat} (h : VB V ∧ FR V) (hg : ∀ i, i < 6 → g i ≤ 8) : FR (end1V g V) := by
  have h3 := h.1.f3
  unfold end1V
  split
  · exact h.2
  · rename_i h0
    have hf := VB_fp h.1 h0
    have hg' := hg _ (show V (5 + 2 * (V 4 - 1)) < 6 by omega)
    split
    · intro j hj
      rw [un_eq] at hj
      rw [un_ne (by omega), un_ne (by omega)]
      exact h.2 j (by omega)
    · intro j hj
      rw [un_ne (by omega)] at hj
      by_cases e : j = V 4 - 1
      · subst e; rw [un_eq]; omega
      · rw [un_ne (by omega)]; exact h.2 j hj
theorem FR_entV {V : Nat → Nat} {x : Nat} (h : FR V) : FR (entV V x) := by
  unfold entV
  split
  · intro j hj
    rw [un_eq] at hj
    rw [un_ne (by omega)]
    by_cases e : j = V 4
    · subst e; rw [un_eq]; omega
    · rw [un_ne (by omega), un_ne (by omega)]; exact h j (by omega)
  · exact h
theorem VR_endV {g V : Nat → Nat} (h : VB V ∧ FR V) (hg : ∀ i, i < 6 → g i ≤ 8) : VB (endV g V) ∧ FR (endV g V) := by
  refine ⟨VB_endV h.1 h.2.top, ?_⟩
  unfold endV
  split
  · exact FR_entV (FR_end1V h hg)
  · exact FR_end1V h hg
theorem rdc_rb {G : SG} {f V : Nat → Nat} {d : Nat} (h : SB G) (hV : VB V ∧ FR V) (h0 : f 0 < G.2.2.2) (h1 : f 1 < 8) (hd : d < 4) : RB (rdc G f V d) := by
  unfold rdc
  have hp := h.2.2.2.1
  split
  · exact h.1 _ (cix_lt (by have := h.2.2.2.2 (f 0) (by omega); omega) h1 hd)
  · rename_i e
    have hf := VB_fp hV.1 e
    have ht := hV.2.top (by omega)
    exact h.1 _ (cix_lt (by omega) (by omega) hd)
theorem rdS_PB {G : SG} {P : PG} {i : Nat} (h : SB G) (hP : PB G P) (hi : i < 4) : PB G (rdS G i P) := by
  obtain ⟨h0, h1, h2, h3, h4, h5⟩ := hP
  have hr := rdc_rb h (h5 i hi) h0 h1 hi
  unfold rdS
  refine ⟨?_, ?_, ?_, ?_, ?_, VS_uv h5 (VR_brV (h5 i hi) hr)⟩ <;> (dsimp only; split)
  · rw [un_ne (by decide)]; exact h0
  · exact h0
  · rw [un_ne (by decide)]; exact h1
  · exact h1
  · rw [un_ne (by decide)]; exact h2
  · exact h2
  · rw [un_eq]; rename_i e; exact e.2.1
  · exact h3
  · rw [un_eq]; rename_i e; exact e.2.2
  · exact h4
theorem rdP_PB {G : SG} {P : PG} (h : SB G) (hP : PB G P) : ∀ n, n ≤ 4 → PB G (rdP G P n)
  | 0, _ => hP
  | n + 1, hn => rdS_PB h (rdP_PB h hP n (by omega)) (by omega)
theorem goP_VS {t : Nat} {P : PG} (h : VS P.2) : ∀ n, n ≤ 4 → VS (goP t P n).2
  | 0, _ => h
  | n + 1, hn => VS_uv (goP_VS h n (by omega)) (VR_goV (goP_VS h n (by omega) n (by omega)))
theorem goP_1 {t : Nat} {P : PG} : ∀ n, (goP t P n).1 = P.1
  | 0 => rfl
  | n + 1 => goP_1 n
theorem hrP_VS {P : PG} (h : VS P.2) : ∀ n, n ≤ 4 → VS (hrP P n).2
  | 0, _ => h
  | n + 1, hn => VS_uv (hrP_VS h n (by omega)) (VR_hearV (hrP_VS h n (by omega) n (by omega)))
theorem hrP_1 {P : PG} : ∀ n, (hrP P n).1 = P.1
  | 0 => rfl
  | n + 1 => hrP_1 n
theorem enP_VS {g : Nat → Nat} {P : PG} (h : VS P.2) (hg : ∀ i, i < 6 → g i ≤ 8) : ∀ n, n ≤ 4 → VS (enP g P n).2
  | 0, _ => h
  | n + 1, hn => VS_uv (enP_VS h hg n (by omega)) (VR_endV (enP_VS h hg n (by omega) n (by omega)) hg)
theorem enP_1 {g : Nat → Nat} {P : PG} : ∀ n, (enP g P n).1 = P.1
  | 0 => rfl
  | n + 1 => enP_1 n
theorem t1P_PB {G : SG} {P : PG} (h : SB G) (hP : PB G P) : PB G (t1P G P) := by
  unfold t1P
  split
  · exact rdP_PB h hP 4 (by decide)
  · obtain ⟨h0, h1, h2, h3, h4, h5⟩ := hP
    refine ⟨?_, ?_, ?_, ?_, ?_, goP_VS h5 4 (by decide)⟩ <;> rw [goP_1] <;> assumption
/-- between the tick and the row's end: the tick may be the speed itself -/
def PB2 (G : SG) (P : PG) : Prop := P.1 0 < G.2.2.2 ∧ P.1 1 < 8 ∧ P.1 2 ≤ 8 ∧ 1 ≤ P.1 3 ∧ P.1 3 ≤ 8 ∧ VS P.2
theorem t2P_PB {G : SG} {P : PG} (h : SB G) (hP : PB G P) : PB2 G (t2P G P) := by
  obtain ⟨h0, h1, h2, h3, h4, h5⟩ := t1P_PB h hP
  unfold t2P
  refine ⟨?_, ?_, ?_, ?_, ?_, hrP_VS h5 4 (by decide)⟩ <;> simp [un_at] <;> omega
theorem npP_PB {G : SG} {P : PG} (h : SB G) (hP : PB G P) : PB G (npP G P) := by
  obtain ⟨h0, h1, h2, h3, h4, h5⟩ := hP
  have hp := h.2.2.1
  unfold npP
  refine ⟨?_, ?_, ?_, ?_, ?_, h5⟩ <;> dsimp only <;> split <;> simp [un_at] <;> omega
theorem erP_PB {G : SG} {P : PG} (h : SB G) (hP : PB2 G P) : PB G (erP G P) := by
  obtain ⟨h0, h1, h2, h3, h4, h5⟩ := hP
  have hv := enP_VS h5 (fun i hi => (h.2.1 i hi).2) 4 (by decide)
  have hp := h.2.2.2.1
  have ho := h.2.2.2.2 (P.1 0) (by omega)
  have hr := h.2.1 _ (show G.2.2.1 (P.1 0) < 6 by omega)
  unfold erP
  split
  · refine npP_PB h ⟨?_, ?_, ?_, ?_, ?_, hv⟩ <;> simp [un_at] <;> omega
  · refine ⟨?_, ?_, ?_, ?_, ?_, hv⟩ <;> simp [un_at] <;> omega
theorem tkP_PB {G : SG} {P : PG} (h : SB G) (hP : PB G P) : PB G (tkP G P) := by
  have h2 := t2P_PB h hP
  unfold tkP
  split
  · exact erP_PB h h2
  · obtain ⟨h0, h1, h2, h3, h4, h5⟩ := h2
    exact ⟨h0, h1, by omega, h3, h4, h5⟩
theorem tkN_PB {G : SG} {P : PG} (h : SB G) (hP : PB G P) : ∀ n, PB G (tkN G P n)
  | 0 => hP
  | n + 1 => tkP_PB h (tkN_PB h hP n)
theorem plB_s0 {Z : Nat → ClassId} {a : Nat → Nat} {f : Nat → Nat} {Vs : Nat → Nat → Nat} {V : Nat → Nat} : plO Z (a 0) (a 1) f ++ plA Z a ++ voiceB Z (a 2) (a 3) (a 4) V ++ voiceB Z (a 5) (a 6) (a 7) (Vs 1) ++ voiceB Z (a 8) (a 9) (a 10) (Vs 2) ++ voiceB Z (a 11) (a 12) (a 13) (Vs 3) = plB Z a (f, uv Vs 0 V) := rfl
theorem plB_s1 {Z : Nat → ClassId} {a : Nat → Nat} {f : Nat → Nat} {Vs : Nat → Nat → Nat} {V : Nat → Nat} : plO Z (a 0) (a 1) f ++ plA Z a ++ voiceB Z (a 2) (a 3) (a 4) (Vs 0) ++ voiceB Z (a 5) (a 6) (a 7) V ++ voiceB Z (a 8) (a 9) (a 10) (Vs 2) ++ voiceB Z (a 11) (a 12) (a 13) (Vs 3) = plB Z a (f, uv Vs 1 V) := rfl
theorem plB_s2 {Z : Nat → ClassId} {a : Nat → Nat} {f : Nat → Nat} {Vs : Nat → Nat → Nat} {V : Nat → Nat} : plO Z (a 0) (a 1) f ++ plA Z a ++ voiceB Z (a 2) (a 3) (a 4) (Vs 0) ++ voiceB Z (a 5) (a 6) (a 7) (Vs 1) ++ voiceB Z (a 8) (a 9) (a 10) V ++ voiceB Z (a 11) (a 12) (a 13) (Vs 3) = plB Z a (f, uv Vs 2 V) := rfl
theorem plB_s3 {Z : Nat → ClassId} {a : Nat → Nat} {f : Nat → Nat} {Vs : Nat → Nat → Nat} {V : Nat → Nat} : plO Z (a 0) (a 1) f ++ plA Z a ++ voiceB Z (a 2) (a 3) (a 4) (Vs 0) ++ voiceB Z (a 5) (a 6) (a 7) (Vs 1) ++ voiceB Z (a 8) (a 9) (a 10) (Vs 2) ++ voiceB Z (a 11) (a 12) (a 13) V = plB Z a (f, uv Vs 3 V) := rfl
