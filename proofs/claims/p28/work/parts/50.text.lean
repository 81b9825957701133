/-! the text: what stands at a place, plus one (0: its end); how it is read -/
def cx (t : Nat → Nat) (n i : Nat) : Nat := if i < n then t i + 1 else 0
def ptB (Z : Nat → ClassId) (q qb qc n i pa ro : Nat) (t : Nat → Nat) (k : Nat → Nat → Nat) : va_W :=
  [(q, .inr (1, [.ref qb, vI n, vI i, vI pa, vI ro, .ref qc])), (qb, .inl (Z 1, 100, .inl (ar 100 t))), (qc, .inl (Z 0, 32, .inl (ar 32 (fun j => pk (k j)))))]
theorem ptB_k {Z : Nat → ClassId} {q qb qc n i pa ro : Nat} {t : Nat → Nat} {k : Nat → Nat → Nat} {g : Nat → Nat} (h : ∀ j, j < 32 → g j = pk (k j)) : ([(q, .inr (1, [.ref qb, vI n, vI i, vI pa, vI ro, .ref qc])), (qb, .inl (Z 1, 100, .inl (ar 100 t))), (qc, .inl (Z 0, 32, .inl (ar 32 g)))] : va_W) = ptB Z q qb qc n i pa ro t k := by
  unfold ptB
  rw [ar_congr h]
theorem cx_le {t : Nat → Nat} {n i : Nat} (h : ∀ j, j < 100 → t j < 128) (hn : n ≤ 100) : cx t n i ≤ 128 := by
  unfold cx
  split
  · have := h i (by omega); omega
  · omega
theorem sN {x : Nat} (h : 0 < x) : nI x - 1 = nI (x - 1) := by
  obtain ⟨y, rfl⟩ : ∃ y, x = y + 1 := ⟨x - 1, by omega⟩
  rw [nI_pred, Nat.add_sub_cancel]
theorem s0 : nI 0 - 1 = -1 := by decide
theorem s_toInt {x : Nat} (h : x < 2 ^ 31) : (nI x - 1).toInt = (x : Int) - 1 := by
  rcases Nat.eq_zero_or_pos x with e | e
  · subst e; decide
  · rw [sN e, nI_toInt (by omega)]; omega
theorem s_eqN {x a : Nat} (hx : x < 2 ^ 30) (ha : a < 2 ^ 30) : nI x - 1 = nI a ↔ x = a + 1 := by
  rw [← Int32.toInt_inj, s_toInt (by omega), nI_toInt (by omega)]; omega
theorem s_eqS {x a : Nat} (hx : x < 2 ^ 30) (ha : a < 2 ^ 30) : nI x - 1 = nI a - 1 ↔ x = a := by
  rw [← Int32.toInt_inj, s_toInt (by omega), s_toInt (by omega)]; omega
theorem s_ltN {x a : Nat} (hx : x < 2 ^ 30) (ha : a < 2 ^ 30) : nI x - 1 < nI a ↔ x < a + 1 := by
  rw [Int32.lt_iff_toInt_lt, s_toInt (by omega), nI_toInt (by omega)]; omega
theorem s_ltN' {x a : Nat} (hx : x < 2 ^ 30) (ha : a < 2 ^ 30) : nI a < nI x - 1 ↔ a + 1 < x := by
  rw [Int32.lt_iff_toInt_lt, s_toInt (by omega), nI_toInt (by omega)]; omega
theorem s_leN' {x a : Nat} (hx : x < 2 ^ 30) (ha : a < 2 ^ 30) : nI a ≤ nI x - 1 ↔ a + 1 ≤ x := by
  rw [Int32.le_iff_toInt_le, s_toInt (by omega), nI_toInt (by omega)]; omega
section NVS
variable {p : Program} {l : Launch} {e : Env} {R : Room} {s : State} {m : MethodId} {args : Array Value} {below : List Frame} {meth : Method} {c : Code} {H : Heap} {locs : List Loc} {cells slots : Nat} {Q : State → Prop} {cc : ByteArray} {pc nL : Nat} {ls : Array Slot} {rest : List Value} {Ts : List Cond} {own : String}
abbrev sI (x : Nat) : Value := .int (nI x - 1)
theorem ns_icmp_eq (S : CallFix p m c cc nL s args Ts own) {x a : Nat} (hx : x < 2 ^ 30) (ha : a < 2 ^ 30) {off : Int} {tgt : Nat} (hdg : decode cc pc = .ok (.if_icmp .eq off, 3)) (ht : (pc : Int) + off = (tgt : Int)) (kt : x = a + 1 → W p l e R s m args below meth c H locs cells slots Q (F0 m tgt ls rest)) (kf : x ≠ a + 1 → W p l e R s m args below meth c H locs cells slots Q (F0 m (pc + 3) ls rest)) : W p l e R s m args below meth c H locs cells slots Q (F0 m pc ls (vI a :: sI x :: rest)) :=
  lv_icmp_eq S.1 S.2.1 hdg ht (fun h => kt ((s_eqN hx ha).mp h)) (fun h => kf (fun z => h ((s_eqN hx ha).mpr z)))
theorem ns_icmp_ne (S : CallFix p m c cc nL s args Ts own) {x a : Nat} (hx : x < 2 ^ 30) (ha : a < 2 ^ 30) {off : Int} {tgt : Nat} (hdg : decode cc pc = .ok (.if_icmp .ne off, 3)) (ht : (pc : Int) + off = (tgt : Int)) (kt : x ≠ a + 1 → W p l e R s m args below meth c H locs cells slots Q (F0 m tgt ls rest)) (kf : x = a + 1 → W p l e R s m args below meth c H locs cells slots Q (F0 m (pc + 3) ls rest)) : W p l e R s m args below meth c H locs cells slots Q (F0 m pc ls (vI a :: sI x :: rest)) :=
  lv_icmp_ne S.1 S.2.1 hdg ht (fun h => kt (fun z => h ((s_eqN hx ha).mpr z))) (fun h => kf ((s_eqN hx ha).mp h))
theorem ns_icmp_lt (S : CallFix p m c cc nL s args Ts own) {x a : Nat} (hx : x < 2 ^ 30) (ha : a < 2 ^ 30) {off : Int} {tgt : Nat} (hdg : decode cc pc = .ok (.if_icmp .lt off, 3)) (ht : (pc : Int) + off = (tgt : Int)) (kt : x < a + 1 → W p l e R s m args below meth c H locs cells slots Q (F0 m tgt ls rest)) (kf : a + 1 ≤ x → W p l e R s m args below meth c H locs cells slots Q (F0 m (pc + 3) ls rest)) : W p l e R s m args below meth c H locs cells slots Q (F0 m pc ls (vI a :: sI x :: rest)) :=
  lv_icmp_lt S.1 S.2.1 hdg ht (fun h => kt ((s_ltN hx ha).mp h)) (fun h => kf (Nat.le_of_not_lt fun z => h ((s_ltN hx ha).mpr z)))
theorem ns_icmp_gt (S : CallFix p m c cc nL s args Ts own) {x a : Nat} (hx : x < 2 ^ 30) (ha : a < 2 ^ 30) {off : Int} {tgt : Nat} (hdg : decode cc pc = .ok (.if_icmp .gt off, 3)) (ht : (pc : Int) + off = (tgt : Int)) (kt : a + 1 < x → W p l e R s m args below meth c H locs cells slots Q (F0 m tgt ls rest)) (kf : x ≤ a + 1 → W p l e R s m args below meth c H locs cells slots Q (F0 m (pc + 3) ls rest)) : W p l e R s m args below meth c H locs cells slots Q (F0 m pc ls (vI a :: sI x :: rest)) :=
  lv_icmp_gt S.1 S.2.1 hdg ht (fun h => kt ((s_ltN' hx ha).mp h)) (fun h => kf (Nat.le_of_not_lt fun z => h ((s_ltN' hx ha).mpr z)))
theorem ns_icmp_neS (S : CallFix p m c cc nL s args Ts own) {x a : Nat} (hx : x < 2 ^ 30) (ha : a < 2 ^ 30) {off : Int} {tgt : Nat} (hdg : decode cc pc = .ok (.if_icmp .ne off, 3)) (ht : (pc : Int) + off = (tgt : Int)) (kt : x ≠ a → W p l e R s m args below meth c H locs cells slots Q (F0 m tgt ls rest)) (kf : x = a → W p l e R s m args below meth c H locs cells slots Q (F0 m (pc + 3) ls rest)) : W p l e R s m args below meth c H locs cells slots Q (F0 m pc ls (sI a :: sI x :: rest)) :=
  lv_icmp_ne S.1 S.2.1 hdg ht (fun h => kt (fun z => h ((s_eqS hx ha).mpr z))) (fun h => kf ((s_eqS hx ha).mp h))
theorem ns_isub (S : CallFix p m c cc nL s args Ts own) {x a : Nat} (h : a + 1 ≤ x) (hdg : decode cc pc = .ok (.isub, 1)) (k : W p l e R s m args below meth c H locs cells slots Q (F0 m (pc + 1) ls (vI (x - (a + 1)) :: rest))) : W p l e R s m args below meth c H locs cells slots Q (F0 m pc ls (vI a :: sI x :: rest)) :=
  lv_isub S.1 S.2.1 hdg (by rw [sN (by omega), pk_sub (by omega), show x - 1 - a = x - (a + 1) by omega]; exact k)
theorem ns_iadd (S : CallFix p m c cc nL s args Ts own) {x a : Nat} (h : 0 < x) (hdg : decode cc pc = .ok (.iadd, 1)) (k : W p l e R s m args below meth c H locs cells slots Q (F0 m (pc + 1) ls (sI (a + x) :: rest))) : W p l e R s m args below meth c H locs cells slots Q (F0 m pc ls (sI x :: vI a :: rest)) :=
  lv_iadd S.1 S.2.1 hdg (by rw [sN h, nI_add, show a + (x - 1) = a + x - 1 by omega, ← sN (by omega)]; exact k)
end NVS
/-- how it is read: c is what stands at a place, plus one -/
def dg (c : Nat → Nat) (i : Nat) : Prop := 49 ≤ c i ∧ c i ≤ 58
def rn (c : Nat → Nat) (i most : Nat) : Nat × Nat :=
  if ¬ (49 ≤ c i ∧ c i ≤ 58) then (0, i)
  else if 49 ≤ c (i + 1) ∧ c (i + 1) ≤ 58 then (if 49 ≤ c (i + 2) ∧ c (i + 2) ≤ 58 then (0, i + 2) else if most < 10 * (c i - 49) + c (i + 1) - 49 then (0, i) else (10 * (c i - 49) + c (i + 1) - 49 + 1, i + 2))
  else if most < c i - 49 then (0, i) else (c i - 49 + 1, i + 1)
def rvo (c : Nat → Nat) (i : Nat) : Nat × Nat := if c i = 119 then rn c (i + 1) 15 else (16, i)
def ref (c : Nat → Nat) (i : Nat) : Nat × Nat := if 98 ≤ c i ∧ c i < 105 then (c i - 98 + 1, i + 1) else (0, i)
def cel (n v f x : Nat) : Nat → Nat := fun k => if k = 0 then n else if k = 1 then v else if k = 2 then f else x
def eC : Nat → Nat := cel 0 15 0 0
/-- a cell: whether it can stand, where the reading stands then, the cell -/
def rce (c : Nat → Nat) (i : Nat) : Nat × Nat × (Nat → Nat) :=
  if c i = 47 then (1, i + 1, eC)
  else if (rn c i 61).1 = 0 then (0, (rn c i 61).2, eC)
  else if (rvo c (rn c i 61).2).1 = 0 then (0, (rvo c (rn c i 61).2).2, eC)
  else if (ref c (rvo c (rn c i 61).2).2).1 = 0 then (1, (ref c (rvo c (rn c i 61).2).2).2, cel ((rn c i 61).1 - 1) ((rvo c (rn c i 61).2).1 - 1) 0 0)
  else if 49 ≤ c (ref c (rvo c (rn c i 61).2).2).2 ∧ c (ref c (rvo c (rn c i 61).2).2).2 ≤ 58 then (1, (ref c (rvo c (rn c i 61).2).2).2 + 1, cel ((rn c i 61).1 - 1) ((rvo c (rn c i 61).2).1 - 1) (ref c (rvo c (rn c i 61).2).2).1 (c (ref c (rvo c (rn c i 61).2).2).2 - 49))
  else (0, (ref c (rvo c (rn c i 61).2).2).2, eC)
/-- a row from the channel d on -/
def rro (c : Nat → Nat) (row : Nat) : Nat → Nat → Nat → (Nat → Nat → Nat) → Nat × Nat × (Nat → Nat → Nat)
  | 0, _, i, k => (0, i, k)
  | m + 1, d, i, k =>
    if (rce c i).1 = 0 then (0, (rce c i).2.1, k)
    else if c (rce c i).2.1 = 45 ∧ d ≠ 3 then rro c row m (d + 1) ((rce c i).2.1 + 1) (uc k (row * 4 + d) (rce c i).2.2)
    else (1, (rce c i).2.1, uc k (row * 4 + d) (rce c i).2.2)
/-- rows from row r on: whether they can stand, where, how many in all, the cells -/
def rrs (c : Nat → Nat) : Nat → Nat → Nat → (Nat → Nat → Nat) → Nat × Nat × Nat × (Nat → Nat → Nat)
  | 0, _, i, k => (0, i, 0, k)
  | m + 1, r, i, k =>
    if (rro c r 4 0 i k).1 = 0 then (0, (rro c r 4 0 i k).2.1, 0, (rro c r 4 0 i k).2.2)
    else if c (rro c r 4 0 i k).2.1 = 0 then (1, (rro c r 4 0 i k).2.1, r + 1, (rro c r 4 0 i k).2.2)
    else if c (rro c r 4 0 i k).2.1 = 48 ∧ r ≠ 7 then rrs c m (r + 1) ((rro c r 4 0 i k).2.1 + 1) (rro c r 4 0 i k).2.2
    else (0, (rro c r 4 0 i k).2.1, 0, (rro c r 4 0 i k).2.2)
/-- the whole text: whether it can stand, where, the pattern, the rows, the cells -/
def rtx (c : Nat → Nat) : Nat × Nat × Nat × Nat × (Nat → Nat → Nat) :=
  if ¬ (49 ≤ c 0 ∧ c 0 < 55) then (0, 0, 0, 0, fun _ => eC)
  else if c 1 ≠ 59 then (0, 1, c 0 - 49, 0, fun _ => eC)
  else ((rrs c 8 0 2 (fun _ => eC)).1, (rrs c 8 0 2 (fun _ => eC)).2.1, c 0 - 49, (rrs c 8 0 2 (fun _ => eC)).2.2.1, (rrs c 8 0 2 (fun _ => eC)).2.2.2)
theorem rn_b {c : Nat → Nat} (i most : Nat) : (rn c i most).2 ≤ i + 2 ∧ (rn c i most).1 ≤ most + 1 := by
  unfold rn
  repeat' split
  all_goals (dsimp only; omega)
theorem rvo_b {c : Nat → Nat} (i : Nat) : (rvo c i).2 ≤ i + 3 ∧ (rvo c i).1 ≤ 16 := by
  unfold rvo
  split
  · have := rn_b (c := c) (i + 1) 15; omega
  · dsimp only; omega
theorem ref_b {c : Nat → Nat} (i : Nat) : (ref c i).2 ≤ i + 1 ∧ (ref c i).1 ≤ 7 := by
  unfold ref
  split <;> (dsimp only; omega)
theorem cel_rb {n v f x : Nat} (h : n ≤ 61 ∧ v ≤ 15 ∧ f ≤ 7 ∧ x ≤ 9) : RB (cel n v f x) := by
  unfold RB
  simp [cel]
  omega
theorem eC_rb : RB eC := cel_rb (by decide)
theorem rce_b {c : Nat → Nat} (i : Nat) : (rce c i).2.1 ≤ i + 7 ∧ RB (rce c i).2.2 := by
  have h1 := rn_b (c := c) i 61
  have h2 := rvo_b (c := c) (rn c i 61).2
  have h3 := ref_b (c := c) (rvo c (rn c i 61).2).2
  unfold rce
  repeat' split
  all_goals (dsimp only)
  all_goals first
    | exact ⟨by omega, eC_rb⟩
    | exact ⟨by omega, cel_rb (by omega)⟩
theorem rro_b {c : Nat → Nat} (row : Nat) : ∀ (m d i : Nat) (k : Nat → Nat → Nat), (∀ j, RB (k j)) → (rro c row m d i k).2.1 ≤ i + 8 * m ∧ ∀ j, RB ((rro c row m d i k).2.2 j)
  | 0, _, i, k, h => ⟨Nat.le_refl _, h⟩
  | m + 1, d, i, k, h => by
    have hc := rce_b (c := c) i
    have hu : ∀ j, RB (uc k (row * 4 + d) (rce c i).2.2 j) := by
      intro j
      unfold uc
      split
      · exact hc.2
      · exact h j
    have ih := rro_b (c := c) row m (d + 1) ((rce c i).2.1 + 1) (uc k (row * 4 + d) (rce c i).2.2) hu
    unfold rro
    split
    · exact ⟨by dsimp only; omega, h⟩
    · split
      · exact ⟨by omega, ih.2⟩
      · exact ⟨by dsimp only; omega, hu⟩
theorem rrs_b {c : Nat → Nat} : ∀ (m r i : Nat) (k : Nat → Nat → Nat), (∀ j, RB (k j)) → (rrs c m r i k).2.1 ≤ i + 33 * m ∧ ∀ j, RB ((rrs c m r i k).2.2.2 j)
  | 0, _, i, k, h => ⟨Nat.le_refl _, h⟩
  | m + 1, r, i, k, h => by
    have hc := rro_b (c := c) r 4 0 i k h
    have ih := rrs_b (c := c) m (r + 1) ((rro c r 4 0 i k).2.1 + 1) (rro c r 4 0 i k).2.2 hc.2
    unfold rrs
    repeat' split
    · exact ⟨by dsimp only; omega, hc.2⟩
    · exact ⟨by dsimp only; omega, hc.2⟩
    · exact ⟨by omega, ih.2⟩
    · exact ⟨by dsimp only; omega, hc.2⟩
theorem rce_1 {c : Nat → Nat} (i : Nat) : (rce c i).1 ≤ 1 := by
  unfold rce
  repeat' split
  all_goals (dsimp only; omega)
theorem rro_1 {c : Nat → Nat} (row : Nat) : ∀ (m d i : Nat) (k : Nat → Nat → Nat), (rro c row m d i k).1 ≤ 1
  | 0, _, i, k => Nat.zero_le _
  | m + 1, d, i, k => by
    have ih := rro_1 (c := c) row m (d + 1) ((rce c i).2.1 + 1) (uc k (row * 4 + d) (rce c i).2.2)
    unfold rro
    repeat' split
    all_goals first
      | exact ih
      | (dsimp only; omega)
theorem rrs_1 {c : Nat → Nat} : ∀ (m r i : Nat) (k : Nat → Nat → Nat), (rrs c m r i k).1 ≤ 1
  | 0, _, i, k => Nat.zero_le _
  | m + 1, r, i, k => by
    have ih := rrs_1 (c := c) m (r + 1) ((rro c r 4 0 i k).2.1 + 1) (rro c r 4 0 i k).2.2
    unfold rrs
    repeat' split
    all_goals first
      | exact ih
      | (dsimp only; omega)
/-- cells behind the row that is read are empty still -/
theorem rro_k {c : Nat → Nat} (row : Nat) : ∀ (m d i : Nat) (k : Nat → Nat → Nat), d + m ≤ 4 → ∀ j, row * 4 + 4 ≤ j → (rro c row m d i k).2.2 j = k j
  | 0, _, i, k, _, _, _ => rfl
  | m + 1, d, i, k, hd, j, hj => by
    have ih := rro_k (c := c) row m (d + 1) ((rce c i).2.1 + 1) (uc k (row * 4 + d) (rce c i).2.2) (by omega) j hj
    have hu : uc k (row * 4 + d) (rce c i).2.2 j = k j := by unfold uc; rw [if_neg (by omega)]
    unfold rro
    repeat' split
    · rfl
    · rw [ih, hu]
    · exact hu
/-- what is left of the reading from a row on -/
def rdk (c : Nat → Nat) (m r i : Nat) (k : Nat → Nat → Nat) : Nat × Nat × Nat × (Nat → Nat → Nat) := rrs c m r i k
def rro' (b : Nat) : Nat := b
theorem rro_q (c : Nat → Nat) (row : Nat) : ∀ (m d i : Nat) (k : Nat → Nat → Nat), (rro c row m d i k).2.1 ≤ i + 8 * m
  | 0, _, i, k => Nat.le_refl _
  | m + 1, d, i, k => by
    have hc := (rce_b (c := c) i).1
    have ih := rro_q c row m (d + 1) ((rce c i).2.1 + 1) (uc k (row * 4 + d) (rce c i).2.2)
    unfold rro
    repeat' split
    all_goals first
      | (dsimp only; omega)
      | omega
theorem rro_p (c : Nat → Nat) (row m d i : Nat) (k : Nat → Nat → Nat) : (rro c row m d i k).2.1 ≤ i + 8 * m := rro_q c row m d i k
