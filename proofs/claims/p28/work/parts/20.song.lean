/-! songs: cells by 4 * (8 * pattern + row) + channel, rows, order, places -/
abbrev SG : Type := (Nat → Nat → Nat) × (Nat → Nat) × (Nat → Nat) × Nat
def songB (Z : Nat → ClassId) (q qc qw qo : Nat) (G : SG) : va_W :=
  [(q, .inr (3, [.ref qc, .ref qw, .ref qo, vI G.2.2.2])), (qc, .inl (Z 0, 192, .inl (ar 192 (fun i => pk (G.1 i))))), (qw, .inl (Z 0, 6, .inl (ar 6 G.2.1))), (qo, .inl (Z 0, 8, .inl (ar 8 G.2.2.1)))]
theorem songB_mk {Z : Nat → ClassId} {q qc qw qo : Nat} {G : SG} {t : Nat} {f g h : Nat → Nat} (e : t = G.2.2.2) (ef : ∀ j, j < 192 → f j = pk (G.1 j)) (eg : ∀ j, j < 6 → g j = G.2.1 j) (eh : ∀ j, j < 8 → h j = G.2.2.1 j) :
    ([(q, .inr (3, [.ref qc, .ref qw, .ref qo, vI t])), (qc, .inl (Z 0, 192, .inl (ar 192 f))), (qw, .inl (Z 0, 6, .inl (ar 6 g))), (qo, .inl (Z 0, 8, .inl (ar 8 h)))] : va_W) = songB Z q qc qw qo G := by
  subst e
  unfold songB
  rw [ar_congr ef, ar_congr eg, ar_congr eh]
def SB (G : SG) : Prop := (∀ i, i < 192 → RB (G.1 i)) ∧ (∀ p, p < 6 → 1 ≤ G.2.1 p ∧ G.2.1 p ≤ 8) ∧ 1 ≤ G.2.2.2 ∧ G.2.2.2 ≤ 8 ∧ ∀ i, i < 8 → G.2.2.1 i ≤ 5
def cix (p r c : Nat) : Nat := (p * 8 + r) * 4 + c
theorem cix_lt {p r c : Nat} (hp : p < 6) (hr : r < 8) (hc : c < 4) : cix p r c < 192 := by unfold cix; omega
def uc (C : Nat → Nat → Nat) (i : Nat) (r : Nat → Nat) : Nat → Nat → Nat := fun k => if k = i then r else C k
def cnt (f : Nat → Nat) : Nat → Nat
  | 0 => 0
  | n + 1 => cnt f n + f n
def orN (f : Nat → Nat) : Nat → Nat
  | 0 => 0
  | n + 1 => orN f n ||| f n
theorem cnt_le {f : Nat → Nat} (h : ∀ i, f i ≤ 1) : ∀ n, cnt f n ≤ n
  | 0 => Nat.le_refl 0
  | n + 1 => by have := cnt_le h n; have := h n; show cnt f n + f n ≤ n + 1; omega
theorem bP_le (P : Prop) [Decidable P] : bP P ≤ 1 := by unfold bP; split <;> omega
def toneC (r : Nat → Nat) : Prop := 1 ≤ r 0 ∧ r 0 ≤ 60
def callC (r : Nat → Nat) : Prop := r 2 = 5 ∧ r 3 < 6
/-- tones (calls) in the rows of a pattern -/
def toneN (G : SG) (p : Nat) (i : Nat) : Nat := bP (1 ≤ G.1 (32 * p + i) 0 ∧ G.1 (32 * p + i) 0 ≤ 60)
def callN (G : SG) (p : Nat) (i : Nat) : Nat := bP (G.1 (32 * p + i) 2 = 5 ∧ G.1 (32 * p + i) 3 < 6)
def maskN (G : SG) (p : Nat) (i : Nat) : Nat := if G.1 (32 * p + i) 2 = 5 ∧ G.1 (32 * p + i) 3 < 6 then 2 ^ G.1 (32 * p + i) 3 else 0
def calledM (G : SG) (p : Nat) : Nat := orN (maskN G p) (4 * G.2.1 p)
def orderM (G : SG) : Nat := orN (fun i => 2 ^ G.2.2.1 i) G.2.2.2
/-- the patterns reached and followed, a turn's pattern more -/
def rchS (G : SG) (p : Nat) (x : Nat × Nat) : Nat × Nat := if x.1.testBit p = true ∧ x.2.testBit p = false then (x.1 ||| calledM G p, x.2 ||| 2 ^ p) else x
def rchN (G : SG) : Nat → Nat × Nat
  | 0 => (orderM G, 0)
  | n + 1 => rchS G (n % 6) (rchN G n)
def playM (G : SG) : Nat := (rchN G 36).1
theorem or_lt64 {a b : Nat} (ha : a < 64) (hb : b < 64) : a ||| b < 64 := Nat.or_lt_two_pow (n := 6) ha hb
theorem orN_lt {f : Nat → Nat} {n : Nat} (h : ∀ i, i < n → f i < 64) : orN f n < 64 := by
  induction n with
  | zero => exact (by decide : 0 < 64)
  | succ n ih => exact or_lt64 (ih fun i hi => h i (by omega)) (h n (by omega))
theorem two_lt64 {k : Nat} (h : k ≤ 5) : 2 ^ k < 64 := by
  rcases (show k = 0 ∨ k = 1 ∨ k = 2 ∨ k = 3 ∨ k = 4 ∨ k = 5 by omega) with e | e | e | e | e | e <;> subst e <;> decide
theorem maskN_lt (G : SG) (p i : Nat) : maskN G p i < 64 := by
  unfold maskN
  split
  · exact two_lt64 (by omega)
  · decide
theorem calledM_lt (G : SG) (p : Nat) : calledM G p < 64 := orN_lt fun i _ => maskN_lt G p i
theorem orderM_lt {G : SG} (h : SB G) : orderM G < 64 := orN_lt fun i hi => two_lt64 (h.2.2.2.2 i (by have := h.2.2.2.1; omega))
theorem rchN_lt {G : SG} (h : SB G) : ∀ n, (rchN G n).1 < 64 ∧ (rchN G n).2 < 64
  | 0 => ⟨orderM_lt h, by show 0 < 64; decide⟩
  | n + 1 => by
    obtain ⟨h1, h2⟩ := rchN_lt h n
    show (rchS G (n % 6) (rchN G n)).1 < 64 ∧ (rchS G (n % 6) (rchN G n)).2 < 64
    unfold rchS
    split
    · exact ⟨or_lt64 h1 (calledM_lt G _), or_lt64 h2 (two_lt64 (by omega))⟩
    · exact ⟨h1, h2⟩
theorem sh1 {k : Nat} (h : k ≤ 5) : (1 : Int32) <<< (nI k &&& 31) = nI (2 ^ k) := by
  rcases (show k = 0 ∨ k = 1 ∨ k = 2 ∨ k = 3 ∨ k = 4 ∨ k = 5 by omega) with e | e | e | e | e | e <;> subst e <;> decide
theorem sh1N {k : Nat} (h : k ≤ 5) : nI 1 <<< (nI k &&& 31) = nI (2 ^ k) := sh1 h
theorem bitN {n k : Nat} (hn : n < 64) (hk : k ≤ 5) : (n &&& 2 ^ k = 0) = (n.testBit k = false) := by
  rcases (show k = 0 ∨ k = 1 ∨ k = 2 ∨ k = 3 ∨ k = 4 ∨ k = 5 by omega) with e | e | e | e | e | e <;> subst e <;> (revert n; intro n hn; apply propext; revert n; decide)
def factP (G : SG) (p w : Nat) : Nat := if w = 0 then G.2.1 p else if w = 1 then cnt (toneN G p) (4 * G.2.1 p) else if w = 2 then cnt (callN G p) (4 * G.2.1 p) else if w = 3 then cnt (fun i => bP (G.2.2.1 i = p)) G.2.2.2 else bP ((playM G).testBit p = true)
def ordN (G : SG) (p : Nat) (i : Nat) : Nat := bP (G.2.2.1 i = p)
theorem ne0_bit {n k : Nat} (hn : n < 64) (hk : k ≤ 5) (h : n &&& 2 ^ k ≠ 0) : n.testBit k = true := by
  cases e : n.testBit k with
  | true => rfl
  | false => exact absurd ((bitN hn hk).mpr e) h
theorem rch_step {G : SG} {t d x y : Nat} (hx : x < 64) (hy : y < 64) (hd : d < 6) (e : rchN G (6 * t + d) = (x, y)) : rchN G (6 * t + (d + 1)) = if x &&& 2 ^ d ≠ 0 ∧ y &&& 2 ^ d = 0 then (x ||| calledM G d, y ||| 2 ^ d) else (x, y) := by
  show rchS G ((6 * t + d) % 6) (rchN G (6 * t + d)) = _
  rw [show (6 * t + d) % 6 = d by omega, e]
  unfold rchS
  by_cases h1 : x &&& 2 ^ d = 0
  · have b1 := (bitN hx (by omega)).mp h1
    rw [if_neg (fun z => by rw [b1] at z; exact absurd z.1 (by decide)), if_neg (fun z => z.1 h1)]
  · have b1 := ne0_bit hx (by omega) h1
    by_cases h2 : y &&& 2 ^ d = 0
    · have b2 := (bitN hy (by omega)).mp h2
      rw [if_pos ⟨b1, b2⟩, if_pos ⟨h1, h2⟩]
    · have b2 := ne0_bit hy (by omega) h2
      rw [if_neg (fun z => by rw [b2] at z; exact absurd z.2 (by decide)), if_neg (fun z => h2 z.2)]
theorem playM_lt {G : SG} (h : SB G) : playM G < 64 := (rchN_lt h 36).1
theorem bit_and {n k : Nat} (hn : n < 64) (hk : k ≤ 5) : bP (n.testBit k = true) = bP (n &&& 2 ^ k ≠ 0) := by
  refine bP_congr ⟨fun h z => ?_, fun h => ne0_bit hn hk h⟩
  rw [(bitN hn hk).mp z] at h
  exact absurd h (by decide)
def dgN (f : Nat → Nat) (h : Int64) : Nat → Int64
  | 0 => h
  | n + 1 => 31 * dgN f h n + (nI (f n)).toInt64
def cellN (G : SG) (p i : Nat) : Nat := G.1 (32 * p + i / 4) (i % 4)
theorem factP_lt {G : SG} (h : SB G) {p : Nat} (hp : p < 6) (k : Nat) : factP G p k < 64 := by
  have h1 := h.2.1 p hp
  have h2 := cnt_le (f := toneN G p) (fun i => bP_le _) (4 * G.2.1 p)
  have h3 := cnt_le (f := callN G p) (fun i => bP_le _) (4 * G.2.1 p)
  have h4 := cnt_le (f := fun i => bP (G.2.2.1 i = p)) (fun i => bP_le _) G.2.2.2
  have h5 := h.2.2.2.1
  have h6 := bP_le ((playM G).testBit p = true)
  unfold factP
  repeat' split
  all_goals omega
