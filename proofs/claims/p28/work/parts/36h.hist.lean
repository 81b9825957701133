/-! states and their history -/
def cpV (Vs Ws : Nat → Nat → Nat) : Nat → Nat → Nat → Nat
  | 0 => Vs
  | n + 1 => uv (cpV Vs Ws n) n (Ws n)
theorem cpV_pl {Z : Nat → ClassId} {a f : Nat → Nat} {Vs Ws : Nat → Nat → Nat} : plB Z a (f, cpV Vs Ws 4) = plB Z a (f, Ws) := rfl
def gbW (Vs : Nat → Nat → Nat) : Nat → Nat → Nat → Nat
  | 0 => Vs
  | n + 1 => uv (gbW Vs n) n (gbV (gbW Vs n n))
def gbP (P : PG) : PG := (fun k => if k = 3 then 3 else if k < 6 then 0 else P.1 k, gbW P.2 4)
theorem VB_gbV {V : Nat → Nat} (h : VB V) : VB (gbV V) ∧ FR (gbV V) := by
  refine ⟨?_, fun j hj => ?_⟩
  · unfold VB at *; simp [gbV]; omega
  · simp [gbV] at hj
theorem gbW_VS {Vs : Nat → Nat → Nat} (h : VS Vs) : ∀ n, n ≤ 4 → VS (gbW Vs n)
  | 0, _ => h
  | n + 1, hn => VS_uv (gbW_VS h n (by omega)) (VB_gbV (gbW_VS h n (by omega) n (by omega)).1)
theorem gbP_PB {G : SG} {P : PG} (hs : SB G) (hv : VS P.2) : PB G (gbP P) := by
  have := hs.2.2.1
  refine ⟨?_, ?_, ?_, ?_, ?_, gbW_VS hv 4 (by decide)⟩ <;> simp [gbP] <;> omega
abbrev ST : Type := SG × PG
def stO (Z : Nat → ClassId) (q qs qp : Nat) : va_W := [(q, .inr (4, [.ref qs, .ref qp]))]
def stB (Z : Nat → ClassId) (a : Nat → Nat) (X : ST) : va_W := stO Z (a 0) (a 1) (a 5) ++ plB Z (fun k => a (5 + k)) X.2 ++ songB Z (a 1) (a 2) (a 3) (a 4) X.1
theorem stB_mk {Z : Nat → ClassId} {a : Nat → Nat} {X : ST} : stO Z (a 0) (a 1) (a 5) ++ plB Z (fun k => a (5 + k)) X.2 ++ songB Z (a 1) (a 2) (a 3) (a 4) X.1 = stB Z a X := rfl
/-- the history: an object, its row, four states -/
def hR (a : Nat → Nat → Nat) : Nat → Option Nat := fun j => if j = 0 then some (a 0 0) else if j = 1 then some (a 1 0) else if j = 2 then some (a 2 0) else if j = 3 then some (a 3 0) else none
def hiO (Z : Nat → ClassId) (q qr o n : Nat) : va_W := [(q, .inr (0, [.ref qr, vI o, vI n]))]
def hiA (Z : Nat → ClassId) (qr : Nat) (a : Nat → Nat → Nat) : va_W := [(qr, .inl (Z 2, 4, .inr (.inr (.inr (.inr (hR a))))))]
def hiB (Z : Nat → ClassId) (q qr : Nat) (a : Nat → Nat → Nat) (o n : Nat) (X : Nat → ST) : va_W := hiO Z q qr o n ++ hiA Z qr a ++ stB Z (a 0) (X 0) ++ stB Z (a 1) (X 1) ++ stB Z (a 2) (X 2) ++ stB Z (a 3) (X 3)
def us (X : Nat → ST) (i : Nat) (x : ST) : Nat → ST := fun k => if k = i then x else X k
theorem hiB_s0 {Z : Nat → ClassId} {q qr o n : Nat} {a : Nat → Nat → Nat} {X : Nat → ST} {x : ST} : hiO Z q qr o n ++ hiA Z qr a ++ stB Z (a 0) x ++ stB Z (a 1) (X 1) ++ stB Z (a 2) (X 2) ++ stB Z (a 3) (X 3) = hiB Z q qr a o n (us X 0 x) := rfl
theorem hiB_s1 {Z : Nat → ClassId} {q qr o n : Nat} {a : Nat → Nat → Nat} {X : Nat → ST} {x : ST} : hiO Z q qr o n ++ hiA Z qr a ++ stB Z (a 0) (X 0) ++ stB Z (a 1) x ++ stB Z (a 2) (X 2) ++ stB Z (a 3) (X 3) = hiB Z q qr a o n (us X 1 x) := rfl
theorem hiB_s2 {Z : Nat → ClassId} {q qr o n : Nat} {a : Nat → Nat → Nat} {X : Nat → ST} {x : ST} : hiO Z q qr o n ++ hiA Z qr a ++ stB Z (a 0) (X 0) ++ stB Z (a 1) (X 1) ++ stB Z (a 2) x ++ stB Z (a 3) (X 3) = hiB Z q qr a o n (us X 2 x) := rfl
theorem hiB_s3 {Z : Nat → ClassId} {q qr o n : Nat} {a : Nat → Nat → Nat} {X : Nat → ST} {x : ST} : hiO Z q qr o n ++ hiA Z qr a ++ stB Z (a 0) (X 0) ++ stB Z (a 1) (X 1) ++ stB Z (a 2) (X 2) ++ stB Z (a 3) x = hiB Z q qr a o n (us X 3 x) := rfl
/-- the ring behind save() -/
def svO (o n : Nat) : Nat := if n = 4 then (o + 1) % 4 else o
def svN (n : Nat) : Nat := if n = 4 then 3 else n
def svX (o n : Nat) (X : Nat → ST) (x : ST) : Nat → ST := us X ((svO o n + svN n) % 4) x
