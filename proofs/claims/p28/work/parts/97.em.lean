/-! a new player of the whole -/
def adK (q : Nat) (a : Nat → Nat) : Nat → Nat := fun k => if k = 0 then q else a k
def zK (q : Nat) (z : Nat → Nat → Nat) : Nat → Nat → Nat := fun i => if i = 0 then (fun _ => q) else z i
def zzW (Z : Nat → ClassId) (z : Nat → Nat → Nat) (X : ST) (o n : Nat) (Y : Nat → ST) (tl ti ta tr : Nat) (t : Nat → Nat) (k : Nat → Nat → Nat) (P9 : PG) : va_W := tpO Z z ++ plB Z (z 8) P9 ++ stB Z (z 1) X ++ ptB Z (z 7 0) (z 7 1) (z 7 2) tl ti ta tr t k ++ hiB Z (z 2 0) (z 2 1) (fun r => z (3 + r)) o n Y
