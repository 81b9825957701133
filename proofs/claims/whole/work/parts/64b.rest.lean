theorem mv_n64 : ∀ k, k < 61 → vf_n64 (FP.ddiv (FP.i2d (nI k)) 4616189618054758400) := by
  unfold vf_n64
  decide +kernel
def mvD (X : ST) : UInt64 := FP.ddiv (FP.i2d (nI (cnt (fun c => X.2.2 c 1) 4))) 4616189618054758400
theorem cnt_15 {f : Nat → Nat} : ∀ n, n ≤ 4 → (∀ i, i < 4 → f i ≤ 15) → cnt f n ≤ 15 * n
  | 0, _, _ => Nat.le_refl _
  | n + 1, hn, h => by
    have h1 := cnt_15 n (by omega) h
    have h2 := h n (by omega)
    show cnt f n + f n ≤ _
    omega
def ifz {α : Type} (x : Nat) (a b : α) : α := if x = 0 then a else b
theorem ifz_0 {α : Type} {x : Nat} {a b : α} (h : x = 0) : ifz x a b = a := if_pos h
theorem ifz_s {α : Type} {x : Nat} {a b : α} (h : x ≠ 0) : ifz x a b = b := if_neg h
theorem rtd_1 {c : Nat → Nat} {pa ro : Nat} : (rtd c pa ro).1 ≤ 1 := by
  unfold rtd
  split
  · exact Nat.zero_le _
  · exact rrs_1 _ _ _ _
theorem rrs_ok {c : Nat → Nat} : ∀ (m r i : Nat) (k : Nat → Nat → Nat), (∀ j, RB (k j)) → (rrs c m r i k).1 ≠ 0 → 1 ≤ (rrs c m r i k).2.2.1 ∧ (rrs c m r i k).2.2.1 ≤ r + m
  | 0, _, i, k, _, h => absurd rfl h
  | m + 1, r, i, k, hk, h => by
    have hc := rro_b (c := c) r 4 0 i k hk
    have ih := rrs_ok (c := c) m (r + 1) ((rro c r 4 0 i k).2.1 + 1) (rro c r 4 0 i k).2.2 hc.2
    revert h
    unfold rrs
    repeat' split
    · intro h; exact absurd rfl h
    · intro _; exact ⟨by dsimp only; omega, by dsimp only; omega⟩
    · intro h
      have := ih h
      exact ⟨this.1, by omega⟩
    · intro h; exact absurd rfl h
theorem rtd_ok {c : Nat → Nat} {pa ro : Nat} (h : (rtd c pa ro).1 ≠ 0) : (rtd c pa ro).2.2.1 = c 0 - 49 ∧ c 0 - 49 < 6 ∧ 1 ≤ (rtd c pa ro).2.2.2.1 ∧ (rtd c pa ro).2.2.2.1 ≤ 8 ∧ ∀ j, RB ((rtd c pa ro).2.2.2.2 j) := by
  revert h
  unfold rtd
  split
  · intro h; exact absurd rfl h
  · rename_i h0
    intro h
    have hk : ∀ j : Nat, RB ((fun _ => eC : Nat → Nat → Nat) j) := fun _ => eC_rb
    have h1 := rrs_ok (c := c) 8 0 2 _ hk h
    have h2 := rrs_b (c := c) 8 0 2 _ hk
    have h3 : 49 ≤ c 0 ∧ c 0 < 55 := by
      revert h0
      unfold rhd
      split
      · intro h9; exact absurd rfl h9
      · rename_i h9; intro _; omega
    refine ⟨rfl, by omega, ?_, ?_, h2.2⟩ <;> dsimp only <;> rw [if_neg h] <;> omega
def prA (r : Nat × Nat × Nat × Nat × (Nat → Nat → Nat)) : Int32 := if r.1 = 0 then -10 - nI r.2.1 else nI r.2.2.1
