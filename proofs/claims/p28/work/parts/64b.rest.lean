/-! the mean volume -/
theorem mv_n64 : ∀ k, k < 61 → vf_n64 (FP.ddiv (FP.i2d (nI k)) 4616189618054758400) := by
  unfold vf_n64
  decide +kernel
def mvD (X : ST) : UInt64 := FP.ddiv (FP.i2d (nI (cnt (fun c => X.2.2 c 1) 4))) 4616189618054758400
theorem cnt_15 {f : Nat → Nat} : ∀ n, n ≤ 4 → (∀ i, i < 4 → f i ≤ 15) → cnt f n ≤ 15 * n
  | 0, _, _ => Nat.le_refl _
  | n + 1, hn, h => by
    have h1 := cnt_15 n (by omega) h
    have h2 := h n (by omega)
    show cnt f n + f n ≤ _
    omega
