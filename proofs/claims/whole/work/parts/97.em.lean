/-! the beginnings of both sides -/
def adK (q : Nat) (a : Nat → Nat) : Nat → Nat := fun k => if k = 0 then q else a k
def zK (q : Nat) (z : Nat → Nat → Nat) : Nat → Nat → Nat := fun i => if i = 0 then (fun _ => q) else z i
def bK (q q1 q2 q3 q4 q5 : Nat) : Nat → Nat := fun k => if k = 0 then q else if k = 1 then q1 else if k = 2 then q2 else if k = 3 then q3 else if k = 4 then q4 else q5
def eSt (X : ST) (m : Nat) (r : Nat → Nat) : ST := ((uc X.1.1 m r, X.1.2), X.2)
def emC (r : Nat → Nat) : Nat → Nat := un (un (un (un r 0 0) 1 15) 2 0) 3 0
def emS (X : ST) (a n : Nat) : ST := ((fun c => if 32 * a ≤ c ∧ c < 32 * a + n then emC (X.1.1 c) else X.1.1 c, X.1.2), X.2)
theorem un_e1 {X : ST} {a n k x i : Nat} (hi : i = 85 + 4 * cix a 0 0 + 4 * n + k) (hk : k < 4) : un (enc X) i x = enc (eSt X (32 * a + n) (un (X.1.1 (32 * a + n)) k x)) := by
  rw [hi, show 85 + 4 * cix a 0 0 + 4 * n + k = 85 + 4 * (32 * a + n) + k by unfold cix; omega, un_c hk]
  rfl
theorem un_e2 {X : ST} {a n k x i : Nat} {r : Nat → Nat} (hi : i = 85 + 4 * cix a 0 0 + 4 * n + k) (hk : k < 4) : un (enc (eSt X (32 * a + n) r)) i x = enc (eSt X (32 * a + n) (un r k x)) := by
  rw [un_e1 hi hk]
  unfold eSt
  dsimp only
  rw [uc_at, uc_uc]
theorem em_0 {X : ST} {a : Nat} : emS X a 0 = X := by
  unfold emS
  have : (fun c => if 32 * a ≤ c ∧ c < 32 * a + 0 then emC (X.1.1 c) else X.1.1 c) = X.1.1 := by
    funext c
    rw [if_neg (by omega)]
  rw [this]
theorem em_s {X : ST} {a n : Nat} : eSt (emS X a n) (32 * a + n) (emC ((emS X a n).1.1 (32 * a + n))) = emS X a (n + 1) := by
  have h0 : (emS X a n).1.1 (32 * a + n) = X.1.1 (32 * a + n) := by
    show (if 32 * a ≤ 32 * a + n ∧ 32 * a + n < 32 * a + n then emC (X.1.1 (32 * a + n)) else X.1.1 (32 * a + n)) = _
    rw [if_neg (by omega)]
  rw [h0]
  have : uc (emS X a n).1.1 (32 * a + n) (emC (X.1.1 (32 * a + n))) = (emS X a (n + 1)).1.1 := by
    funext c
    show (if c = 32 * a + n then emC (X.1.1 (32 * a + n)) else if 32 * a ≤ c ∧ c < 32 * a + n then emC (X.1.1 c) else X.1.1 c) = if 32 * a ≤ c ∧ c < 32 * a + (n + 1) then emC (X.1.1 c) else X.1.1 c
    by_cases h1 : c = 32 * a + n
    · rw [if_pos h1, if_pos (by omega), h1]
    · rw [if_neg h1]
      by_cases h2 : 32 * a ≤ c ∧ c < 32 * a + n
      · rw [if_pos h2, if_pos (by omega)]
      · rw [if_neg h2, if_neg (by omega)]
  unfold eSt
  rw [this]
  rfl
/-- the reference's state while it is made: i patterns are laid -/
def mX (i : Nat) : ST := ((fun c => if c < 32 * i then emC (fun _ => 0) else fun _ => 0, fun p => if p < i then 4 else 0, fun _ => 0, 0), (fun _ => 0, fun _ _ => 0))
theorem mX_0 : (fun _ => 0) = enc (mX 0) := by
  funext j
  unfold enc mX
  dsimp only
  repeat' split
  all_goals first
    | rfl
    | (exfalso; omega)
theorem mX_s {i : Nat} : emS (((mX i).1.1, un (mX i).1.2.1 i 4, (mX i).1.2.2), (mX i).2) i 32 = mX (i + 1) := by
  unfold emS mX
  dsimp only
  have h1 : (fun c => if 32 * i ≤ c ∧ c < 32 * i + 32 then emC (if c < 32 * i then emC (fun _ => 0) else fun _ => 0) else if c < 32 * i then emC (fun _ => 0) else fun _ => 0) = (fun c => if c < 32 * (i + 1) then emC (fun _ => 0) else fun _ => 0) := by
    funext c
    by_cases h2 : c < 32 * i
    · rw [if_neg (by omega), if_pos h2, if_pos (by omega)]
    · by_cases h3 : c < 32 * i + 32
      · rw [if_pos ⟨by omega, h3⟩, if_neg h2, if_pos (by omega)]
      · rw [if_neg (by omega), if_neg h2, if_neg (by omega)]
  have h2 : un (fun p => if p < i then 4 else 0) i 4 = (fun p => if p < i + 1 then 4 else 0) := by
    funext p
    unfold un
    by_cases e : p = i
    · rw [if_pos e, if_pos (by omega)]
    · rw [if_neg e]
      show (if p < i then 4 else 0) = if p < i + 1 then 4 else 0
      by_cases h2 : p < i
      · rw [if_pos h2, if_pos (by omega)]
      · rw [if_neg h2, if_neg (by omega)]
  rw [h1, h2]
/-- the reference's first state -/
def MX0 : ST := (((mX 6).1.1, (mX 6).1.2.1, (mX 6).1.2.2.1, 1), bgM)
def zzW (Z : Nat → ClassId) (z : Nat → Nat → Nat) (X : ST) (o n : Nat) (Y : Nat → ST) (tl ti ta tr : Nat) (t : Nat → Nat) (k : Nat → Nat → Nat) (P9 : PG) : va_W := tpO Z z ++ plB Z (z 8) P9 ++ stB Z (z 1) X ++ ptB Z (z 7 0) (z 7 1) (z 7 2) tl ti ta tr t k ++ hiB Z (z 2 0) (z 2 1) (fun r => z (3 + r)) o n Y
