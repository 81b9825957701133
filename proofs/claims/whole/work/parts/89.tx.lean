/-! the reference's reading of a text -/
def nuN (c : Nat → Nat) (i : Nat) : Nat := if ¬ (49 ≤ c i ∧ c i ≤ 58) then 0 else if 49 ≤ c (i + 1) ∧ c (i + 1) ≤ 58 then 10 * (c i - 49) + c (i + 1) - 49 else c i - 49
def nuC (c : Nat → Nat) (i nu : Nat) : Nat := if c i = 47 then nu else if (rn c i 61).1 = 0 then nuN c i else if c (rn c i 61).2 = 119 then nuN c ((rn c i 61).2 + 1) else nuN c i
/-- the cell behind the volume: the place is j, the array f -/
def rdE (c : Nat → Nat) (j a : Nat) (f : Nat → Nat) : Nat → Nat :=
  if 98 ≤ c j ∧ c j < 105 then (if 49 ≤ c (j + 1) ∧ c (j + 1) ≤ 58 then un (un f (a + 2) (c j - 98 + 1)) (a + 3) (c (j + 1) - 49) else un f (a + 2) (c j - 98 + 1)) else f
def rdC (c : Nat → Nat) (i a : Nat) (r : Nat → Nat) : Nat → Nat :=
  if c i = 47 then r else if (rn c i 61).1 = 0 then r else if c (rn c i 61).2 = 119 then (if (rn c ((rn c i 61).2 + 1) 15).1 = 0 then un r (a + 0) (nuN c i) else rdE c (rn c ((rn c i 61).2 + 1) 15).2 a (un (un r (a + 0) (nuN c i)) (a + 1) (nuN c ((rn c i 61).2 + 1)))) else rdE c (rn c i 61).2 a (un r (a + 0) (nuN c i))
def rqr (c : Nat → Nat) (row : Nat) : Nat → Nat → Nat → Nat → (Nat → Nat) → Nat × Nat × Nat × (Nat → Nat)
  | 0, _, i, v, f => (0, i, v, f)
  | m + 1, d, i, v, f =>
    if bP ((rce c i).1 ≠ 0) = 0 then (0, (rce c i).2.1, nuC c i v, rdC c i (16 * row + 4 * d) f)
    else if c (rce c i).2.1 = 45 ∧ d < 3 then rqr c row m (d + 1) ((rce c i).2.1 + 1) (nuC c i v) (rdC c i (16 * row + 4 * d) f)
    else (1, (rce c i).2.1, nuC c i v, rdC c i (16 * row + 4 * d) f)
def rqk (c : Nat → Nat) (row m d g j v : Nat) (f : Nat → Nat) : Nat × Nat × Nat × (Nat → Nat) :=
  if g = 0 then (0, j, v, f) else if c j = 45 ∧ d < 3 then rqr c row m (d + 1) (j + 1) v f else (1, j, v, f)
theorem rqr_s {c : Nat → Nat} {row m d i v : Nat} {f : Nat → Nat} : rqr c row (m + 1) d i v f = rqk c row m d (bP ((rce c i).1 ≠ 0)) (rce c i).2.1 (nuC c i v) (rdC c i (16 * row + 4 * d) f) := rfl
theorem rqr_1 {c : Nat → Nat} (row : Nat) : ∀ (m d i v : Nat) (f : Nat → Nat), (rqr c row m d i v f).1 ≤ 1
  | 0, _, _, _, _ => Nat.zero_le _
  | m + 1, d, i, v, f => by
    unfold rqr
    repeat' split
    · exact Nat.zero_le _
    · exact rqr_1 row m _ _ _ _
    · exact Nat.le_refl _
def rqs (c : Nat → Nat) : Nat → Nat → Nat → Nat → (Nat → Nat) → Nat × Nat × Nat × Nat × (Nat → Nat)
  | 0, x, i, v, f => (0, i, x, v, f)
  | m + 1, x, i, v, f =>
    if (rqr c x 4 0 i v f).1 = 0 then (0, (rqr c x 4 0 i v f).2.1, x + (rqr c x 4 0 i v f).1, (rqr c x 4 0 i v f).2.2.1, (rqr c x 4 0 i v f).2.2.2)
    else if x + (rqr c x 4 0 i v f).1 < 8 ∧ c (rqr c x 4 0 i v f).2.1 = 48 then rqs c m (x + (rqr c x 4 0 i v f).1) ((rqr c x 4 0 i v f).2.1 + 1) (rqr c x 4 0 i v f).2.2.1 (rqr c x 4 0 i v f).2.2.2
    else ((rqr c x 4 0 i v f).1, (rqr c x 4 0 i v f).2.1, x + (rqr c x 4 0 i v f).1, (rqr c x 4 0 i v f).2.2.1, (rqr c x 4 0 i v f).2.2.2)
def rqg (c : Nat → Nat) (m x g j v : Nat) (f : Nat → Nat) : Nat × Nat × Nat × Nat × (Nat → Nat) :=
  if g = 0 then (0, j, x, v, f) else if x < 8 ∧ c j = 48 then rqs c m x (j + 1) v f else (g, j, x, v, f)
theorem rqs_s {c : Nat → Nat} {m x i v : Nat} {f : Nat → Nat} : rqs c (m + 1) x i v f = rqg c m (x + (rqr c x 4 0 i v f).1) (rqr c x 4 0 i v f).1 (rqr c x 4 0 i v f).2.1 (rqr c x 4 0 i v f).2.2.1 (rqr c x 4 0 i v f).2.2.2 := rfl
def rE (f : Nat → Nat) (i : Nat) : Nat → Nat := fun j => if j < i then (if j % 4 = 1 then 15 else 0) else f j
theorem rE_0 {f : Nat → Nat} : rE f 0 = f := by
  funext j
  unfold rE
  rw [if_neg (by omega)]
theorem rE_s {f : Nat → Nat} {i x : Nat} (h : x = if i % 4 = 1 then 15 else 0) : un (rE f i) i x = rE f (i + 1) := by
  funext j
  unfold un rE
  by_cases e : j = i
  · rw [if_pos e, if_pos (show j < i + 1 by omega), h, e]
  · rw [if_neg e]
    by_cases h2 : j < i
    · rw [if_pos h2, if_pos (show j < i + 1 by omega)]
    · rw [if_neg h2, if_neg (show ¬ j < i + 1 by omega)]
/-- the whole text: whether it can stand, the place, the rows, the number, the array -/
def rqt (c : Nat → Nat) (n v : Nat) (r : Nat → Nat) : Nat × Nat × Nat × Nat × (Nat → Nat) :=
  if ¬ (49 ≤ c 0 ∧ c 0 ≤ 54) then (0, 0, 0, v, rE r 128)
  else if c 1 ≠ 59 then (0, 1, 0, v, rE r 128)
  else (bP ((rqs c 8 0 2 v (rE r 128)).1 ≠ 0 ∧ (rqs c 8 0 2 v (rE r 128)).2.1 = n), (rqs c 8 0 2 v (rE r 128)).2)
theorem s_rg {x u g : Nat} (hx : x < 2 ^ 30) (hu : u < 2 ^ 30) (hg : g < 2 ^ 30) : rgI u g (nI x - 1) ↔ u + 1 ≤ x ∧ x ≤ g + 1 := by
  unfold rgI
  rw [s_ltN hx hu, s_ltN' hx hg]
  omega
theorem c_X8_inS (l : Launch) (D : va_G) (Z : Nat → ClassId) (x u g : Nat) (hx : x < 2 ^ 30) (hu : u < 2 ^ 30) (hg : g < 2 ^ 30) : Ci l yX8_in wsX8_in 0 0 D Z [.long (nI x - 1).toInt64, .long (lN u), .long (lN g)] [] (nI (bP (u + 1 ≤ x ∧ x ≤ g + 1))) [] := by
  have h := c_X8_inI l D Z (nI x - 1) u g (by omega) (by omega)
  rwa [bP_congr (s_rg hx hu hg)] at h
theorem rvo_y {c : Nat → Nat} {i : Nat} (h : c i = 119) : rvo c i = rn c (i + 1) 15 := if_pos h
theorem rvo_n {c : Nat → Nat} {i : Nat} (h : c i ≠ 119) : rvo c i = (16, i) := if_neg h
theorem mdM_r {Z : Nat → ClassId} {b : Nat → Nat} {X : ST} {sv sd : Nat → Nat} {sm th tl pl ro nu : Nat} {t r r2 : Nat → Nat} (e : ∀ j, j < 128 → r j = r2 j) : mdM Z b X sv sd sm th tl pl ro nu t r = mdM Z b X sv sd sm th tl pl ro nu t r2 := by
  unfold mdM
  rw [ar_congr e]
theorem ne01 {x : Nat} (h : x ≤ 1) (h0 : x ≠ 0) : x = 1 := by omega
theorem bP_ne0 {x : Nat} (h : x ≤ 1) : bP (x ≠ 0) = x := by
  unfold bP
  split <;> omega
/-- a cell behind its volume: the place is j -/
def rce2 (c : Nat → Nat) (j n v : Nat) : Nat × Nat × (Nat → Nat) :=
  if ¬ (98 ≤ c j ∧ c j < 105) then (1, j, cel n v 0 0) else if 49 ≤ c (j + 1) ∧ c (j + 1) ≤ 58 then (1, j + 1 + 1, cel n v (c j - 98 + 1) (c (j + 1) - 49)) else (0, j + 1, eC)
theorem rce2_r {c : Nat → Nat} {j n v : Nat} : (if (ref c j).1 = 0 then (1, (ref c j).2, cel n v 0 0) else if 49 ≤ c (ref c j).2 ∧ c (ref c j).2 ≤ 58 then (1, (ref c j).2 + 1, cel n v (ref c j).1 (c (ref c j).2 - 49)) else (0, (ref c j).2, eC)) = rce2 c j n v := by
  unfold rce2
  by_cases h : 98 ≤ c j ∧ c j < 105
  · rw [show ref c j = (c j - 98 + 1, j + 1) from if_pos h, if_neg (show ¬ ((c j - 98 + 1, j + 1) : Nat × Nat).1 = 0 from Nat.succ_ne_zero _), if_neg (show ¬ ¬ (98 ≤ c j ∧ c j < 105) from fun z => z h)]
  · rw [show ref c j = (0, j) from if_neg h, if_pos h, if_pos rfl]
theorem rce_dot {c : Nat → Nat} {i : Nat} (h : c i = 47) : rce c i = (1, i + 1, eC) := if_pos h
theorem rce_nf {c : Nat → Nat} {i : Nat} (h : ¬ c i = 47) (h1 : ¬ (rn c i 61).1 ≠ 0) : rce c i = (0, (rn c i 61).2, eC) := by
  unfold rce
  rw [if_neg h, if_pos (by omega)]
theorem rce_vf {c : Nat → Nat} {i : Nat} (h : ¬ c i = 47) (h1 : (rn c i 61).1 ≠ 0) (h2 : c (rn c i 61).2 = 119) (h3 : ¬ (rn c ((rn c i 61).2 + 1) 15).1 ≠ 0) : rce c i = (0, (rn c ((rn c i 61).2 + 1) 15).2, eC) := by
  unfold rce
  rw [if_neg h, if_neg h1, rvo_y h2, if_pos (by omega)]
theorem rce_v {c : Nat → Nat} {i : Nat} (h : ¬ c i = 47) (h1 : (rn c i 61).1 ≠ 0) (h2 : c (rn c i 61).2 = 119) (h3 : (rn c ((rn c i 61).2 + 1) 15).1 ≠ 0) : rce c i = rce2 c (rn c ((rn c i 61).2 + 1) 15).2 ((rn c i 61).1 - 1) ((rn c ((rn c i 61).2 + 1) 15).1 - 1) := by
  unfold rce
  rw [if_neg h, if_neg h1, rvo_y h2, if_neg h3, rce2_r]
theorem rce_n {c : Nat → Nat} {i : Nat} (h : ¬ c i = 47) (h1 : (rn c i 61).1 ≠ 0) (h2 : ¬ c (rn c i 61).2 = 119) : rce c i = rce2 c (rn c i 61).2 ((rn c i 61).1 - 1) 15 := by
  unfold rce
  rw [if_neg h, if_neg h1, rvo_n h2, if_neg (show ¬ ((16, (rn c i 61).2) : Nat × Nat).1 = 0 from Nat.succ_ne_zero 15), rce2_r]
  rfl
theorem rqk_0 {c : Nat → Nat} {row m d j v : Nat} {f : Nat → Nat} : rqk c row m d 0 j v f = (0, j, v, f) := rfl
theorem rqk_1 {c : Nat → Nat} {row m d g j v : Nat} {f : Nat → Nat} (h : g ≠ 0) (h2 : ¬ (c j = 45 ∧ d < 3)) : rqk c row m d g j v f = (1, j, v, f) := by
  unfold rqk
  rw [if_neg h, if_neg h2]
theorem rqk_go {c : Nat → Nat} {row m d g j v : Nat} {f : Nat → Nat} (h : g ≠ 0) (h2 : c j = 45) (h3 : d < 3) : rqk c row (m + 1) d g j v f = rqk c row m (d + 1) (bP ((rce c (j + 1)).1 ≠ 0)) (rce c (j + 1)).2.1 (nuC c (j + 1) v) (rdC c (j + 1) (16 * row + 4 * (d + 1)) f) := by
  conv => lhs; unfold rqk
  rw [if_neg h, if_pos ⟨h2, h3⟩, rqr_s]
theorem rqr_b {c : Nat → Nat} (row : Nat) : ∀ (m d i v : Nat) (f : Nat → Nat), (rqr c row m d i v f).2.1 ≤ i + 8 * m
  | 0, _, _, _, _ => Nat.le_refl _
  | m + 1, d, i, v, f => by
    have hc := (rce_b (c := c) i).1
    have ih := rqr_b (c := c) row m (d + 1) ((rce c i).2.1 + 1) (nuC c i v) (rdC c i (16 * row + 4 * d) f)
    unfold rqr
    repeat' split
    all_goals first
      | (dsimp only; omega)
      | omega
def rqz (n : Nat) (q : Nat × Nat × Nat × Nat × (Nat → Nat)) : Nat × Nat × Nat × Nat × (Nat → Nat) := (bP (q.1 ≠ 0 ∧ q.2.1 = n), q.2)
theorem rqz_0 {c : Nat → Nat} {n m x j v : Nat} {f : Nat → Nat} : rqz n (rqg c m x 0 j v f) = (0, j, x, v, f) := rfl
theorem rqz_1 {c : Nat → Nat} {n m x g j v : Nat} {f : Nat → Nat} (h : g ≠ 0) (h2 : ¬ (x < 8 ∧ c j = 48)) : rqz n (rqg c m x g j v f) = (bP (j = n), j, x, v, f) := by
  unfold rqg
  rw [if_neg h, if_neg h2]
  unfold rqz
  dsimp only
  rw [bP_congr (show g ≠ 0 ∧ j = n ↔ j = n from ⟨fun z => z.2, fun z => ⟨h, z⟩⟩)]
theorem rqz_go {c : Nat → Nat} {n x g j v : Nat} {f : Nat → Nat} (h : g ≠ 0) (h2 : x < 8) (h3 : c j = 48) : rqz n (rqg c (8 - x) x g j v f) = rqz n (rqg c (8 - (x + (rqr c x 4 0 (j + 1) v f).1)) (x + (rqr c x 4 0 (j + 1) v f).1) (rqr c x 4 0 (j + 1) v f).1 (rqr c x 4 0 (j + 1) v f).2.1 (rqr c x 4 0 (j + 1) v f).2.2.1 (rqr c x 4 0 (j + 1) v f).2.2.2) := by
  conv => lhs; unfold rqg
  rw [if_neg h, if_pos ⟨h2, h3⟩, show 8 - x = (7 - x) + 1 by omega, rqs_s]
  have h1 := rqr_1 (c := c) x 4 0 (j + 1) v f
  by_cases h0 : (rqr c x 4 0 (j + 1) v f).1 = 0
  · rw [h0, rqz_0, rqz_0]
  · rw [ne01 h1 h0, show 8 - (x + 1) = 7 - x by omega]
theorem rqt_a {c : Nat → Nat} {n v : Nat} {r : Nat → Nat} (h : ¬ (49 ≤ c 0 ∧ c 0 ≤ 54)) : rqt c n v r = (0, 0, 0, v, rE r 128) := if_pos h
theorem rqt_b {c : Nat → Nat} {n v : Nat} {r : Nat → Nat} (h : 49 ≤ c 0 ∧ c 0 ≤ 54) (h2 : ¬ c 1 = 59) : rqt c n v r = rqz n (rqg c (8 - 0) 0 0 1 v (rE r 128)) := by
  unfold rqt
  rw [if_neg (fun z => z h), if_pos h2, rqz_0]
theorem rqt_c {c : Nat → Nat} {n v : Nat} {r : Nat → Nat} (h : 49 ≤ c 0 ∧ c 0 ≤ 54) (h2 : c 1 = 59) : rqt c n v r = rqz n (rqg c (8 - (0 + (rqr c 0 4 0 2 v (rE r 128)).1)) (0 + (rqr c 0 4 0 2 v (rE r 128)).1) (rqr c 0 4 0 2 v (rE r 128)).1 (rqr c 0 4 0 2 v (rE r 128)).2.1 (rqr c 0 4 0 2 v (rE r 128)).2.2.1 (rqr c 0 4 0 2 v (rE r 128)).2.2.2) := by
  unfold rqt
  rw [if_neg (fun z => z h), if_neg (fun z => z h2)]
  show rqz n (rqs c (7 + 1) 0 2 v (rE r 128)) = _
  rw [rqs_s]
  have h1 := rqr_1 (c := c) 0 4 0 2 v (rE r 128)
  by_cases h0 : (rqr c 0 4 0 2 v (rE r 128)).1 = 0
  · rw [h0, rqz_0, rqz_0]
  · rw [ne01 h1 h0]
/-- the tables and the array of what is read -/
def RK (r : Nat → Nat) (k : Nat → Nat → Nat) : Prop := ∀ j q, j < 32 → q < 4 → r (4 * j + q) = k j q
theorem rn_nu {c : Nat → Nat} {i m : Nat} (h : (rn c i m).1 ≠ 0) : nuN c i = (rn c i m).1 - 1 := by
  revert h
  unfold rn nuN
  repeat' split
  all_goals (intro h; first | (exact absurd rfl h) | (dsimp only; omega) | omega)
theorem RK_rdE {c : Nat → Nat} {j x n v : Nat} {r : Nat → Nat} {k : Nat → Nat → Nat} (hR : RK r k) (hx : x < 32) (h0 : r (4 * x + 2) = 0 ∧ r (4 * x + 3) = 0 ∧ r (4 * x) = n ∧ r (4 * x + 1) = v) (hok : (rce2 c j n v).1 ≠ 0) : RK (rdE c j (4 * x) r) (uc k x (rce2 c j n v).2.2) := by
  obtain ⟨h2, h3, h0, h1⟩ := h0
  have key : ∀ (f g : Nat → Nat), (∀ q, q < 4 → f (4 * x + q) = g q) → (∀ y q, y < 32 → q < 4 → y ≠ x → f (4 * y + q) = r (4 * y + q)) → RK f (uc k x g) := by
    intro f g hf hg y q hy hq
    unfold uc
    by_cases e : y = x
    · rw [if_pos e, e]; exact hf q hq
    · rw [if_neg e, hg y q hy hq e]; exact hR y q hy hq
  revert hok
  unfold rdE rce2
  by_cases hr : 98 ≤ c j ∧ c j < 105
  · rw [if_pos hr, if_neg (fun z => z hr)]
    by_cases hd : 49 ≤ c (j + 1) ∧ c (j + 1) ≤ 58
    · rw [if_pos hd, if_pos hd]
      intro _
      apply key
      · intro q hq
        obtain rfl | rfl | rfl | rfl : q = 0 ∨ q = 1 ∨ q = 2 ∨ q = 3 := by omega
        · rw [un_ne (by omega), un_ne (by omega)]; exact h0
        · rw [un_ne (by omega), un_ne (by omega)]; exact h1
        · rw [un_ne (by omega), un_eq]; rfl
        · rw [un_eq]; rfl
      · intro y q hy hq hyx
        rw [un_ne (by omega), un_ne (by omega)]
    · rw [if_neg hd, if_neg hd]
      intro h; exact absurd rfl h
  · rw [if_neg hr, if_pos hr]
    intro _
    apply key
    · intro q hq
      obtain rfl | rfl | rfl | rfl : q = 0 ∨ q = 1 ∨ q = 2 ∨ q = 3 := by omega
      · exact h0
      · exact h1
      · exact h2
      · exact h3
    · intro y q hy hq hyx; rfl
theorem RK_rdC {c : Nat → Nat} {i x : Nat} {r : Nat → Nat} {k : Nat → Nat → Nat} (hR : RK r k) (hx : x < 32) (hk : k x = eC) (hok : (rce c i).1 ≠ 0) : RK (rdC c i (4 * x) r) (uc k x (rce c i).2.2) := by
  have hr : ∀ q, q < 4 → r (4 * x + q) = eC q := fun q hq => by rw [hR x q hx hq, hk]
  have r2 : r (4 * x + 2) = 0 := hr 2 (by decide)
  have r3 : r (4 * x + 3) = 0 := hr 3 (by decide)
  have r1 : r (4 * x + 1) = 15 := hr 1 (by decide)
  have kun : ∀ (f : Nat → Nat) (k2 : Nat → Nat → Nat) (q z : Nat), RK f k2 → q < 4 → RK (un f (4 * x + q) z) (uc k2 x (un (k2 x) q z)) := by
    intro f k2 q z h hq y q2 hy hq2
    unfold uc
    by_cases e : y = x
    · rw [if_pos e, e]
      by_cases e2 : q2 = q
      · rw [e2, un_eq, un_eq]
      · rw [un_ne (by omega), un_ne e2]; exact h x q2 hx hq2
    · rw [if_neg e, un_ne (by omega)]; exact h y q2 hy hq2
  have uu : ∀ (k2 : Nat → Nat → Nat) (g g2 : Nat → Nat), uc (uc k2 x g) x g2 = uc k2 x g2 := by
    intro k2 g g2; funext y; unfold uc; split <;> rfl
  by_cases h0 : c i = 47
  · rw [rce_dot h0]
    unfold rdC
    rw [if_pos h0]
    have : uc k x eC = k := by funext y; unfold uc; split
                               · rename_i e; rw [e, hk]
                               · rfl
    show RK r (uc k x eC)
    rw [this]; exact hR
  by_cases h1 : (rn c i 61).1 ≠ 0
  · have hn := rn_nu h1
    by_cases h2 : c (rn c i 61).2 = 119
    · by_cases h3 : (rn c ((rn c i 61).2 + 1) 15).1 ≠ 0
      · have hn2 := rn_nu h3
        rw [rce_v h0 h1 h2 h3] at hok ⊢
        unfold rdC
        rw [if_neg h0, if_neg h1, if_pos h2, if_neg h3, ← uu k (un (un (k x) 0 (nuN c i)) 1 (nuN c ((rn c i 61).2 + 1)))]
        refine RK_rdE ?_ hx ⟨?_, ?_, ?_, ?_⟩ hok
        · have a1 := kun _ _ 0 (nuN c i) hR (by decide)
          have a2 := kun _ _ 1 (nuN c ((rn c i 61).2 + 1)) a1 (by decide)
          rw [uu] at a2
          have e3 : uc k x (un (k x) 0 (nuN c i)) x = un (k x) 0 (nuN c i) := if_pos rfl
          rw [e3] at a2
          exact a2
        · rw [un_ne (by omega), un_ne (by omega)]; exact r2
        · rw [un_ne (by omega), un_ne (by omega)]; exact r3
        · rw [un_ne (by omega)]; show un r (4 * x) _ (4 * x) = _; rw [un_eq, hn]
        · rw [un_eq, hn2]
      · rw [rce_vf h0 h1 h2 h3] at hok; exact absurd rfl hok
    · rw [rce_n h0 h1 h2] at hok ⊢
      unfold rdC
      rw [if_neg h0, if_neg h1, if_neg h2, ← uu k (un (k x) 0 (nuN c i))]
      refine RK_rdE (kun _ _ 0 (nuN c i) hR (by decide)) hx ⟨?_, ?_, ?_, ?_⟩ hok
      · rw [un_ne (by omega)]; exact r2
      · rw [un_ne (by omega)]; exact r3
      · show un r (4 * x) _ (4 * x) = _; rw [un_eq, hn]
      · rw [un_ne (by omega)]; exact r1
  · rw [rce_nf h0 h1] at hok; exact absurd rfl hok
/-- a row: the reference and the class -/
theorem rqr_ro {c : Nat → Nat} (row : Nat) (hrow : row < 8) : ∀ (m d i v : Nat) (f : Nat → Nat) (k : Nat → Nat → Nat), d + m = 4 → ((rqr c row m d i v f).1 = (rro c row m d i k).1 ∧ (rqr c row m d i v f).2.1 = (rro c row m d i k).2.1 ∧ (RK f k → (∀ j, row * 4 + d ≤ j → k j = eC) → (rro c row m d i k).1 ≠ 0 → RK (rqr c row m d i v f).2.2.2 (rro c row m d i k).2.2))
  | 0, _, _, _, _, _, _ => ⟨rfl, rfl, fun _ _ h => absurd rfl h⟩
  | m + 1, d, i, v, f, k, hdm => by
    have ih := rqr_ro (c := c) row hrow m (d + 1) ((rce c i).2.1 + 1) (nuC c i v) (rdC c i (16 * row + 4 * d) f) (uc k (row * 4 + d) (rce c i).2.2) (by omega)
    have hR : RK f k → (∀ j, row * 4 + d ≤ j → k j = eC) → (rce c i).1 ≠ 0 → RK (rdC c i (16 * row + 4 * d) f) (uc k (row * 4 + d) (rce c i).2.2) := by
      intro h1 h2 h3
      have := RK_rdC (x := row * 4 + d) h1 (by omega) (h2 _ (Nat.le_refl _)) h3
      rwa [show 4 * (row * 4 + d) = 16 * row + 4 * d by omega] at this
    rw [rqr_s, rro]
    by_cases h0 : (rce c i).1 = 0
    · rw [if_pos h0, bP_f (fun z => z h0), rqk_0]
      exact ⟨rfl, rfl, fun _ _ h => absurd rfl h⟩
    · rw [if_neg h0, bP_t h0]
      by_cases h1 : c (rce c i).2.1 = 45 ∧ d ≠ 3
      · rw [if_pos h1]
        unfold rqk
        rw [if_neg (by decide), if_pos ⟨h1.1, by omega⟩]
        refine ⟨ih.1, ih.2.1, fun a b e => ih.2.2 (hR a b h0) ?_ e⟩
        intro j hj
        unfold uc
        rw [if_neg (by omega)]
        exact b j (by omega)
      · rw [if_neg h1, rqk_1 (by decide) (fun z => h1 ⟨z.1, by omega⟩)]
        exact ⟨rfl, rfl, fun a b _ => hR a b h0⟩
/-- the reading never leaves the text -/
theorem cx_pos {t : Nat → Nat} {n i : Nat} (h : cx t n i ≠ 0) : i < n := by
  unfold cx at h
  split at h
  · assumption
  · exact absurd rfl h
theorem cx_zero {t : Nat → Nat} {n i : Nat} (h : cx t n i = 0) : n ≤ i := by
  unfold cx at h
  split at h
  · exact absurd h (Nat.succ_ne_zero _)
  · omega
theorem cx_end {t : Nat → Nat} {n i : Nat} (h : n ≤ i) : cx t n i = 0 := if_neg (by omega)
theorem rn_n {t : Nat → Nat} {n i m : Nat} (h : i ≤ n) : (rn (cx t n) i m).2 ≤ n := by
  have a0 := @cx_pos t n i
  have a1 := @cx_pos t n (i + 1)
  unfold rn
  repeat' split
  all_goals (dsimp only)
  all_goals first
    | exact h
    | (have := a0 (by omega); omega)
    | (have := a1 (by omega); omega)
theorem rce2_n {t : Nat → Nat} {n j a b : Nat} (h : j ≤ n) : (rce2 (cx t n) j a b).2.1 ≤ n := by
  have a0 := @cx_pos t n j
  have a1 := @cx_pos t n (j + 1)
  unfold rce2
  repeat' split
  all_goals (dsimp only)
  all_goals first
    | exact h
    | (have := a1 (by omega); omega)
    | (have := a0 (by omega); omega)
theorem rce_n9 {t : Nat → Nat} {n i : Nat} (h : i ≤ n) : (rce (cx t n) i).2.1 ≤ n := by
  by_cases h0 : cx t n i = 47
  · rw [rce_dot h0]; have := @cx_pos t n i (by omega); exact this
  by_cases h1 : (rn (cx t n) i 61).1 ≠ 0
  · have b1 := rn_n (t := t) (m := 61) h
    by_cases h2 : cx t n (rn (cx t n) i 61).2 = 119
    · have b2 : (rn (cx t n) i 61).2 + 1 ≤ n := @cx_pos t n _ (by omega)
      have b3 := rn_n (t := t) (m := 15) b2
      by_cases h3 : (rn (cx t n) ((rn (cx t n) i 61).2 + 1) 15).1 ≠ 0
      · rw [rce_v h0 h1 h2 h3]; exact rce2_n b3
      · rw [rce_vf h0 h1 h2 h3]; exact b3
    · rw [rce_n h0 h1 h2]; exact rce2_n b1
  · rw [rce_nf h0 h1]; exact rn_n h
theorem rro_n {t : Nat → Nat} {n : Nat} (row : Nat) : ∀ (m d i : Nat) (k : Nat → Nat → Nat), i ≤ n → (rro (cx t n) row m d i k).2.1 ≤ n
  | 0, _, _, _, h => h
  | m + 1, d, i, k, h => by
    have b1 := rce_n9 (t := t) h
    rw [rro]
    repeat' split
    · exact b1
    · rename_i h2; exact rro_n row m _ _ _ (@cx_pos t n _ (by rw [h2.1]; decide))
    · exact b1
/-- the rows: the reference and the class -/
theorem rqs_rs {t : Nat → Nat} {n : Nat} : ∀ (m x i v : Nat) (f : Nat → Nat) (k : Nat → Nat → Nat), x + m = 8 → i ≤ n → ((rqz n (rqs (cx t n) m x i v f)).1 = (rrs (cx t n) m x i k).1 ∧ (rqz n (rqs (cx t n) m x i v f)).2.1 = (rrs (cx t n) m x i k).2.1 ∧ (RK f k → (∀ j, x * 4 ≤ j → k j = eC) → (rrs (cx t n) m x i k).1 ≠ 0 → (rqz n (rqs (cx t n) m x i v f)).2.2.1 = (rrs (cx t n) m x i k).2.2.1 ∧ RK (rqz n (rqs (cx t n) m x i v f)).2.2.2.2 (rrs (cx t n) m x i k).2.2.2))
  | 0, _, _, _, _, _, _, _ => ⟨rfl, rfl, fun _ _ h => absurd rfl h⟩
  | m + 1, x, i, v, f, k, hxm, hi => by
    obtain ⟨q1, q2, q3⟩ := rqr_ro (c := cx t n) x (by omega) 4 0 i v f k rfl
    have hle := rro_n (t := t) x 4 0 i k hi
    have ih := fun h => rqs_rs (t := t) (n := n) m (x + 1) ((rro (cx t n) x 4 0 i k).2.1 + 1) (rqr (cx t n) x 4 0 i v f).2.2.1 (rqr (cx t n) x 4 0 i v f).2.2.2 (rro (cx t n) x 4 0 i k).2.2 (by omega) h
    rw [rqs_s, rrs, q1, q2]
    by_cases h0 : (rro (cx t n) x 4 0 i k).1 = 0
    · rw [if_pos h0, h0, rqz_0]
      exact ⟨rfl, rfl, fun _ _ h => absurd rfl h⟩
    · rw [if_neg h0]
      have hr1 := rro_1 (c := cx t n) x 4 0 i k
      rw [ne01 hr1 h0]
      by_cases hz : cx t n (rro (cx t n) x 4 0 i k).2.1 = 0
      · have hn : (rro (cx t n) x 4 0 i k).2.1 = n := by
          have := cx_zero hz
          omega
        rw [if_pos hz, rqz_1 (by decide) (fun z => by rw [hz] at z; exact absurd z.2 (by decide)), bP_t hn]
        exact ⟨rfl, rfl, fun a b _ => ⟨rfl, q3 a (fun j hj => b j (by omega)) h0⟩⟩
      · rw [if_neg hz]
        by_cases h48 : cx t n (rro (cx t n) x 4 0 i k).2.1 = 48 ∧ x ≠ 7
        · rw [if_pos h48]
          have ih := ih (@cx_pos t n _ hz)
          unfold rqg
          rw [if_neg (by decide), if_pos ⟨by omega, h48.1⟩]
          refine ⟨ih.1, ih.2.1, fun a b e => ih.2.2 (q3 a (fun j hj => b j (by omega)) h0) ?_ e⟩
          intro j hj
          rw [rro_k (c := cx t n) x 4 0 i k (by decide) j (by omega)]
          exact b j (by omega)
        · rw [if_neg h48, rqz_1 (by decide) (fun z => h48 ⟨z.2, by omega⟩), bP_f (fun e => hz (cx_end (by omega)))]
          exact ⟨rfl, rfl, fun _ _ h => absurd rfl h⟩
theorem rqt_1 {t : Nat → Nat} {n v pa ro : Nat} {r : Nat → Nat} : (rqt (cx t n) n v r).1 = (rtd (cx t n) pa ro).1 ∧ (rqt (cx t n) n v r).2.1 = (rtd (cx t n) pa ro).2.1 ∧ ((rtd (cx t n) pa ro).1 ≠ 0 → (rqt (cx t n) n v r).2.2.1 = (rtd (cx t n) pa ro).2.2.2.1 ∧ RK (rqt (cx t n) n v r).2.2.2.2 (rtd (cx t n) pa ro).2.2.2.2) := by
  unfold rtd rhd
  by_cases h0 : 49 ≤ cx t n 0 ∧ cx t n 0 ≤ 54
  · by_cases h1 : cx t n 1 = 59
    · have hn2 : 2 ≤ n := @cx_pos t n 1 (by omega)
      obtain ⟨q1, q2, q3⟩ := rqs_rs (t := t) 8 0 2 v (rE r 128) (fun _ => eC) rfl hn2
      have e : rqt (cx t n) n v r = rqz n (rqs (cx t n) 8 0 2 v (rE r 128)) := by
        unfold rqt
        rw [if_neg (fun z => z h0), if_neg (fun z => z h1)]
        rfl
      rw [e, if_neg (show ¬ ¬ (49 ≤ cx t n 0 ∧ cx t n 0 < 55) by omega), if_neg (show ¬ cx t n 1 ≠ 59 from fun z => z h1), if_neg (show ¬ ((1, 2, cx t n 0 - 49) : Nat × Nat × Nat).1 = 0 from Nat.succ_ne_zero 0)]
      refine ⟨q1, q2, fun h => ?_⟩
      have hRK : RK (rE r 128) (fun _ => eC) := by
        intro j q hj hq
        show (if 4 * j + q < 128 then (if (4 * j + q) % 4 = 1 then 15 else 0) else r _) = eC q
        rw [if_pos (by omega)]
        obtain rfl | rfl | rfl | rfl : q = 0 ∨ q = 1 ∨ q = 2 ∨ q = 3 := by omega
        · rw [if_neg (by omega)]; rfl
        · rw [if_pos (by omega)]; rfl
        · rw [if_neg (by omega)]; rfl
        · rw [if_neg (by omega)]; rfl
      have q4 := q3 hRK (fun _ _ => rfl) h
      refine ⟨?_, q4.2⟩
      dsimp only
      rw [if_neg h]
      exact q4.1
    · rw [rqt_b h0 h1, rqz_0, if_neg (show ¬ ¬ (49 ≤ cx t n 0 ∧ cx t n 0 < 55) by omega), if_pos h1, if_pos rfl]
      exact ⟨rfl, rfl, fun h => absurd rfl h⟩
  · rw [rqt_a h0, if_pos (show ¬ (49 ≤ cx t n 0 ∧ cx t n 0 < 55) by omega), if_pos rfl]
    exact ⟨rfl, rfl, fun h => absurd rfl h⟩
