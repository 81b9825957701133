/-! the law: what stands beside what -/
def LawS : Type := ST × ST × Nat × Nat × (Nat → ST) × Nat × Nat × Nat × Nat × (Nat → Nat) × (Nat → Nat → Nat) × PG × (Nat → Int64) × (Nat → Nat) × (Nat → Nat) × Nat × Nat × Nat × Nat × (Nat → Nat)
def LawS.mk (X : ST) (M : ST) (o : Nat) (n : Nat) (Y : Nat → ST) (tl : Nat) (ti : Nat) (ta : Nat) (tr : Nat) (t : Nat → Nat) (k : Nat → Nat → Nat) (P9 : PG) (fo : Nat → Int64) (sv : Nat → Nat) (sd : Nat → Nat) (th : Nat) (pl : Nat) (ro : Nat) (nu : Nat) (r : Nat → Nat) : LawS := (X, M, o, n, Y, tl, ti, ta, tr, t, k, P9, fo, sv, sd, th, pl, ro, nu, r)
def LawS.X (S : LawS) : ST := S.1
def LawS.M (S : LawS) : ST := S.2.1
def LawS.o (S : LawS) : Nat := S.2.2.1
def LawS.n (S : LawS) : Nat := S.2.2.2.1
def LawS.Y (S : LawS) : Nat → ST := S.2.2.2.2.1
def LawS.tl (S : LawS) : Nat := S.2.2.2.2.2.1
def LawS.ti (S : LawS) : Nat := S.2.2.2.2.2.2.1
def LawS.ta (S : LawS) : Nat := S.2.2.2.2.2.2.2.1
def LawS.tr (S : LawS) : Nat := S.2.2.2.2.2.2.2.2.1
def LawS.t (S : LawS) : Nat → Nat := S.2.2.2.2.2.2.2.2.2.1
def LawS.k (S : LawS) : Nat → Nat → Nat := S.2.2.2.2.2.2.2.2.2.2.1
def LawS.P9 (S : LawS) : PG := S.2.2.2.2.2.2.2.2.2.2.2.1
def LawS.fo (S : LawS) : Nat → Int64 := S.2.2.2.2.2.2.2.2.2.2.2.2.1
def LawS.sv (S : LawS) : Nat → Nat := S.2.2.2.2.2.2.2.2.2.2.2.2.2.1
def LawS.sd (S : LawS) : Nat → Nat := S.2.2.2.2.2.2.2.2.2.2.2.2.2.2.1
def LawS.th (S : LawS) : Nat := S.2.2.2.2.2.2.2.2.2.2.2.2.2.2.2.1
def LawS.pl (S : LawS) : Nat := S.2.2.2.2.2.2.2.2.2.2.2.2.2.2.2.2.1
def LawS.ro (S : LawS) : Nat := S.2.2.2.2.2.2.2.2.2.2.2.2.2.2.2.2.2.1
def LawS.nu (S : LawS) : Nat := S.2.2.2.2.2.2.2.2.2.2.2.2.2.2.2.2.2.2.1
def LawS.r (S : LawS) : Nat → Nat := S.2.2.2.2.2.2.2.2.2.2.2.2.2.2.2.2.2.2.2
theorem LawS_fo {X : ST} {M : ST} {o : Nat} {n : Nat} {Y : Nat → ST} {tl : Nat} {ti : Nat} {ta : Nat} {tr : Nat} {t : Nat → Nat} {k : Nat → Nat → Nat} {P9 : PG} {fo : Nat → Int64} {sv : Nat → Nat} {sd : Nat → Nat} {th : Nat} {pl : Nat} {ro : Nat} {nu : Nat} {r : Nat → Nat} : (LawS.mk X M o n Y tl ti ta tr t k P9 fo sv sd th pl ro nu r).fo = fo := rfl
def czW (Z : Nat → ClassId) (z : Nat → Nat → Nat) (S : LawS) : va_W := zzW Z z S.X S.o S.n S.Y S.tl S.ti S.ta S.tr S.t S.k S.P9
def joW (Z : Nat → ClassId) (qo : Nat) (f : Nat → Int64) : va_W := [(qo, .inl (Z 4, 1, .inr (.inl f)))]
def mdW (Z : Nat → ClassId) (b : Nat → Nat) (S : LawS) : va_W := mdM Z b S.M S.sv S.sd S.n S.th S.tl S.pl S.ro S.nu S.t S.r
def LI (S : LawS) : Prop := JX S.X S.M ∧ S.o < 4 ∧ S.n ≤ 4 ∧ HJ S.o S.n S.Y S.sv ∧ (∀ j, j < 100 → S.t j < 128) ∧ S.tl ≤ 100 ∧ S.ti ≤ 1000
theorem ix_toN {n : Nat} {x : Int32} (hn : n < 2 ^ 31) (h : ixI n x) : toN x < n := by
  obtain ⟨k, rfl, hk⟩ := ix_nat hn h
  rw [toN_nI (by omega)]
  exact hk
theorem rg_toN {lo hi : Nat} {x : Int32} (hl : lo < 2 ^ 31) (hh : hi < 2 ^ 31) (h : rgI lo hi x) : lo ≤ toN x ∧ toN x ≤ hi := by
  obtain ⟨k, rfl, hk⟩ := rg_nat hl hh h
  rw [toN_nI (by omega)]
  exact hk
theorem ix_rg {n : Nat} {x : Int32} (h1 : 1 ≤ n) (hn : n < 2 ^ 31) : ixI n x ↔ rgI 0 (n - 1) x := by
  have h0 : (0 : Int32).toInt = 0 := by decide
  unfold ixI rgI
  rw [Int32.lt_iff_toInt_lt, Int32.lt_iff_toInt_lt, Int32.lt_iff_toInt_lt, Int32.le_iff_toInt_le, nI_toInt hn, nI_toInt (by omega), nI_toInt (by omega)]
  omega
theorem cel_rg {x y w : Int32} : celI x y w ↔ rgI 0 5 x ∧ rgI 0 7 y ∧ rgI 0 3 w := by
  unfold celI
  rw [ix_rg (n := 6) (by decide) (by decide), ix_rg (n := 8) (by decide) (by decide), ix_rg (n := 4) (by decide) (by decide)]
theorem ord_rg {m : Nat} {x : Int32} (h8 : m ≤ 8) : ixI (min (m + 1) 8) x ↔ rgI 0 m x ∧ x < nI 8 := by
  have h0 : (0 : Int32).toInt = 0 := by decide
  unfold ixI rgI
  rw [Int32.lt_iff_toInt_lt, Int32.lt_iff_toInt_lt, Int32.lt_iff_toInt_lt, Int32.lt_iff_toInt_lt, Int32.le_iff_toInt_le, nI_toInt (by omega), nI_toInt (by omega), nI_toInt (by omega), nI_toInt (by omega)]
  omega
theorem kind1 {P P' : Prop} [Decidable P] [Decidable P'] (E : String) (hP : P ↔ P') : (P ∧ xI P E none = none ∧ kC P' True = 0) ∨ (∃ F, xI P E none = some F ∧ cd1 (xI P E none) = kC P' True ∧ kC P' True ≠ 0 ∧ kC P' True ≤ 2) := by
  by_cases h : P
  · exact Or.inl ⟨h, xI_t h, kC_0 (hP.mp h) trivial⟩
  · refine Or.inr ⟨E, xI_f ⟨h, rfl⟩, ?_⟩
    rw [kC_1 (fun z => h (hP.mpr z)), cd1_s (xI_f (r := none) ⟨h, rfl⟩)]
    decide
theorem kind2 {P Q P' Q' : Prop} [Decidable P] [Decidable Q] [Decidable P'] [Decidable Q'] (E1 E2 : String) (hne : E2 ≠ E1) (hP : P ↔ P') (hQ : Q ↔ Q') : (P ∧ Q ∧ xI P E1 (xI Q E2 none) = none ∧ kC P' Q' = 0) ∨ (∃ F, xI P E1 (xI Q E2 none) = some F ∧ cd2 E1 (xI P E1 (xI Q E2 none)) = kC P' Q' ∧ kC P' Q' ≠ 0 ∧ kC P' Q' ≤ 2) := by
  by_cases h : P
  · by_cases h2 : Q
    · exact Or.inl ⟨h, h2, (xI_t h).trans (xI_t h2), kC_0 (hP.mp h) (hQ.mp h2)⟩
    · have e : xI P E1 (xI Q E2 none) = some E2 := (xI_t h).trans (xI_f ⟨h2, rfl⟩)
      refine Or.inr ⟨E2, e, ?_⟩
      rw [kC_2 (hP.mp h) (fun z => h2 (hQ.mpr z)), cd2_2 e hne]
      decide
  · have e : xI P E1 (xI Q E2 none) = some E1 := xI_f ⟨h, rfl⟩
    refine Or.inr ⟨E1, e, ?_⟩
    rw [kC_1 (fun z => h (hP.mpr z)), cd2_1 e]
    decide
theorem kind3 {P Q Q2 P' Q' Q2' : Prop} [Decidable P] [Decidable Q] [Decidable Q2] [Decidable P'] [Decidable Q'] [Decidable Q2'] (E1 E2 : String) (hne : E2 ≠ E1) (hP : P ↔ P') (hQ : Q ↔ Q') (hQ2 : Q2 ↔ Q2') : (P ∧ Q ∧ Q2 ∧ xI P E1 (xI Q E2 (xI Q2 E2 none)) = none ∧ kC P' (Q' ∧ Q2') = 0) ∨ (∃ F, xI P E1 (xI Q E2 (xI Q2 E2 none)) = some F ∧ cd2 E1 (xI P E1 (xI Q E2 (xI Q2 E2 none))) = kC P' (Q' ∧ Q2') ∧ kC P' (Q' ∧ Q2') ≠ 0 ∧ kC P' (Q' ∧ Q2') ≤ 2) := by
  by_cases h : P
  · by_cases h2 : Q
    · by_cases h3 : Q2
      · exact Or.inl ⟨h, h2, h3, (xI_t h).trans ((xI_t h2).trans (xI_t h3)), kC_0 (hP.mp h) ⟨hQ.mp h2, hQ2.mp h3⟩⟩
      · have e : xI P E1 (xI Q E2 (xI Q2 E2 none)) = some E2 := (xI_t h).trans ((xI_t h2).trans (xI_f ⟨h3, rfl⟩))
        refine Or.inr ⟨E2, e, ?_⟩
        rw [kC_2 (hP.mp h) (fun z => h3 (hQ2.mpr z.2)), cd2_2 e hne]
        decide
    · have e : xI P E1 (xI Q E2 (xI Q2 E2 none)) = some E2 := (xI_t h).trans (xI_f ⟨h2, rfl⟩)
      refine Or.inr ⟨E2, e, ?_⟩
      rw [kC_2 (hP.mp h) (fun z => h2 (hQ.mpr z.1)), cd2_2 e hne]
      decide
  · have e : xI P E1 (xI Q E2 (xI Q2 E2 none)) = some E1 := xI_f ⟨h, rfl⟩
    refine Or.inr ⟨E1, e, ?_⟩
    rw [kC_1 (fun z => h (hP.mpr z)), cd2_1 e]
    decide
theorem ifz00 {α : Type} {a b : α} : ifz 0 a b = a := rfl
