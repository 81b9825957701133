/-! what can be played: following again what was followed adds nothing -/
def mpS (G : SG) (p x : Nat) : Nat := if x.testBit p = true then x ||| calledM G p else x
def mpN (G : SG) : Nat → Nat
  | 0 => orderM G
  | n + 1 => mpS G (n % 6) (mpN G n)
theorem mp_inv (G : SG) : ∀ n, mpN G n = (rchN G n).1 ∧ ∀ q, (rchN G n).2.testBit q = true → (rchN G n).1 ||| calledM G q = (rchN G n).1
  | 0 => ⟨rfl, fun q h => by
      have h : (0 : Nat).testBit q = true := h
      rw [Nat.zero_testBit] at h
      cases h⟩
  | n + 1 => by
    obtain ⟨h1, h2⟩ := mp_inv G n
    show mpS G (n % 6) (mpN G n) = (rchS G (n % 6) (rchN G n)).1 ∧ ∀ q, (rchS G (n % 6) (rchN G n)).2.testBit q = true → (rchS G (n % 6) (rchN G n)).1 ||| calledM G q = (rchS G (n % 6) (rchN G n)).1
    rw [h1]
    generalize hx : rchN G n = z at h2
    obtain ⟨x, y⟩ := z
    generalize n % 6 = p
    dsimp only at h2 ⊢
    unfold rchS mpS
    dsimp only
    by_cases hp : x.testBit p = true
    · rw [if_pos hp]
      by_cases hy : y.testBit p = true
      · rw [if_neg (fun z => by rw [hy] at z; exact absurd z.2 (by decide))]
        exact ⟨h2 p hy, h2⟩
      · rw [if_pos ⟨hp, by simpa using hy⟩]
        refine ⟨rfl, fun q hq => ?_⟩
        dsimp only at hq ⊢
        rw [Nat.testBit_or, Nat.testBit_two_pow, Bool.or_eq_true] at hq
        rcases hq with hq | hq
        · rw [Nat.or_assoc, Nat.or_comm (calledM G p), ← Nat.or_assoc, h2 q hq]
        · have hq := of_decide_eq_true hq
          subst hq
          rw [Nat.or_assoc, Nat.or_self]
    · rw [if_neg hp, if_neg (fun z => hp z.1)]
      exact ⟨rfl, h2⟩
theorem mp_eq (G : SG) : playM G = mpN G 36 := (mp_inv G 36).1.symm
theorem mpN_lt {G : SG} (h : SB G) (n : Nat) : mpN G n < 64 := by
  rw [(mp_inv G n).1]
  exact (rchN_lt h n).1
theorem bit_dm {y d : Nat} : y / 2 ^ d % 2 ^ 1 = 1 ↔ y.testBit d = true := by
  rw [Nat.testBit_eq_decide_div_mod_eq, decide_eq_true_eq, Nat.pow_one]
theorem bP_dm {y d : Nat} : y / 2 ^ d % 2 ^ 1 = bP (y.testBit d = true) := by
  by_cases h : y.testBit d = true
  · rw [bP_t h]; exact bit_dm.mpr h
  · rw [bP_f h]
    have h1 : ¬ y / 2 ^ d % 2 ^ 1 = 1 := fun z => h (bit_dm.mp z)
    have h2 : y / 2 ^ d % 2 ^ 1 < 2 := by rw [Nat.pow_one]; exact Nat.mod_lt _ (by decide)
    omega
theorem shr_d {y d : Nat} (hy : y < 64) (hd : d < 6) : nI y >>> (nI d &&& 31) = nI (y / 2 ^ d) := by
  rcases (show d = 0 ∨ d = 1 ∨ d = 2 ∨ d = 3 ∨ d = 4 ∨ d = 5 by omega) with e | e | e | e | e | e <;> subst e
  · exact pk_shrN (n := y) (by omega) (nI 0 &&& 31) 0 (by decide)
  · exact pk_shrN (n := y) (by omega) (nI 1 &&& 31) 1 (by decide)
  · exact pk_shrN (n := y) (by omega) (nI 2 &&& 31) 2 (by decide)
  · exact pk_shrN (n := y) (by omega) (nI 3 &&& 31) 3 (by decide)
  · exact pk_shrN (n := y) (by omega) (nI 4 &&& 31) 4 (by decide)
  · exact pk_shrN (n := y) (by omega) (nI 5 &&& 31) 5 (by decide)
theorem and_1 {y : Nat} (hy : y < 2 ^ 31) : nI y &&& nI 1 = nI (y % 2 ^ 1) := pk_andN (n := y) (by omega) (m := nI 1) 1 (by decide)
/-- the inner turn: cells 0..k-1 of pattern d, while its bit stands -/
def inM (G : SG) (d x k : Nat) : Nat := if x.testBit d = true then x ||| orN (maskN G d) k else x
theorem inM_lt {G : SG} {d x k : Nat} (hx : x < 64) : inM G d x k < 64 := by
  unfold inM
  split
  · exact or_lt64 hx (orN_lt fun i _ => maskN_lt G d i)
  · exact hx
theorem inM_bit {G : SG} {d x k : Nat} : (inM G d x k).testBit d = x.testBit d := by
  unfold inM
  split
  · rename_i h
    rw [Nat.testBit_or, h, Bool.true_or]
  · rfl
theorem inM_0 {G : SG} {d x : Nat} : inM G d x 0 = x := by
  unfold inM
  split
  · exact Nat.or_zero x
  · rfl
theorem inM_s {G : SG} {d x k : Nat} (h : (inM G d x k).testBit d = true) : inM G d x (k + 1) = inM G d x k ||| maskN G d k := by
  rw [inM_bit] at h
  unfold inM
  rw [if_pos h, if_pos h, Nat.or_assoc]
  rfl
theorem inM_e {G : SG} {d x : Nat} : inM G d x (4 * G.2.1 d) = mpS G d x := rfl
theorem inM_n {G : SG} {d x k : Nat} (h : ¬ (inM G d x k).testBit d = true) : inM G d x k = mpS G d x := by
  rw [inM_bit] at h
  unfold inM mpS
  rw [if_neg h, if_neg h]
