/-! the top object: what its calls throw, what they answer -/
abbrev ixI (n : Nat) (x : Int32) : Prop := ¬ x < 0 ∧ ¬ nI n ≤ x
abbrev rgI (lo hi : Nat) (x : Int32) : Prop := ¬ x < nI lo ∧ ¬ nI hi < x
abbrev celI (x y z : Int32) : Prop := ixI 6 x ∧ ixI 8 y ∧ ixI 4 z
abbrev eIX : String := "java/lang/IndexOutOfBoundsException"
abbrev eIA : String := "java/lang/IllegalArgumentException"
abbrev eIS : String := "java/lang/IllegalStateException"
def xI (P : Prop) [Decidable P] (E : String) (r : Option String) : Option String := if P then r else some E
theorem xI_t {P : Prop} [Decidable P] {E : String} {r : Option String} (h : P) : xI P E r = r := if_pos h
theorem xI_f {P : Prop} [Decidable P] {E E9 : String} {r : Option String} (h : ¬ P ∧ E9 = E) : xI P E r = some E9 := by rw [h.2]; exact if_neg h.1
theorem xI_no {P : Prop} [Decidable P] {E E9 : String} (h : xI P E none = some E9) : ¬ P ∧ E9 = E := by
  unfold xI at h
  split at h
  · cases h
  · rename_i hn
    exact ⟨hn, (Option.some.inj h).symm⟩
theorem xI_yes {P : Prop} [Decidable P] {E : String} {r : Option String} (h : xI P E r = none) : P := by
  unfold xI at h
  split at h
  · assumption
  · cases h
theorem toN_of {x : Int32} (h : 0 ≤ x.toInt) : ∃ k, x = nI k ∧ (k : Int) = x.toInt := by
  have hlt : x.toInt < 2 ^ 31 := Int32.toInt_lt x
  refine ⟨x.toInt.toNat, ?_, Int.toNat_of_nonneg h⟩
  apply Int32.toInt_inj.1
  rw [nI_toInt (by omega)]
  omega
theorem ix_nat {n : Nat} {x : Int32} (hn : n < 2 ^ 31) (h : ixI n x) : ∃ k, x = nI k ∧ k < n := by
  obtain ⟨h1, h2⟩ := h
  rw [Int32.lt_iff_toInt_lt] at h1
  rw [Int32.le_iff_toInt_le, nI_toInt hn] at h2
  have h0 : (0 : Int32).toInt = 0 := by decide
  obtain ⟨k, e1, e2⟩ := toN_of (x := x) (by omega)
  exact ⟨k, e1, by omega⟩
theorem rg_nat {lo hi : Nat} {x : Int32} (hl : lo < 2 ^ 31) (hh : hi < 2 ^ 31) (h : rgI lo hi x) : ∃ k, x = nI k ∧ lo ≤ k ∧ k ≤ hi := by
  obtain ⟨h1, h2⟩ := h
  rw [Int32.lt_iff_toInt_lt, nI_toInt hl] at h1
  rw [Int32.lt_iff_toInt_lt, nI_toInt hh] at h2
  obtain ⟨k, e1, e2⟩ := toN_of (x := x) (by omega)
  exact ⟨k, e1, by omega, by omega⟩
def toN (x : Int32) : Nat := x.toInt.toNat
theorem toN_nI {k : Nat} (h : k < 2 ^ 31) : toN (nI k) = k := by unfold toN; rw [nI_toInt h]; rfl
/-- the world of the top object: the object, the player of the questions, the state, the text, the history -/
def tpO (Z : Nat → ClassId) (z : Nat → Nat → Nat) : va_W := [(z 0 0, .inr (6, [.ref (z 1 0), .ref (z 2 0), .ref (z 7 0), .ref (z 8 0)]))]
def valF (X : ST) (w : Nat) : Nat := if w = 7 then X.1.2.2.1 (X.2.1 0) else if w = 6 then X.1.2.2.2 else X.2.1 w
def XB (X : ST) : Prop := SB X.1 ∧ PB X.1 X.2 ∧ X.2.1 4 ≤ 100000 ∧ X.2.1 5 ≤ X.2.1 4
theorem rdP_4 {G : SG} {P : PG} : ∀ n, (rdP G P n).1 4 = P.1 4 ∧ (rdP G P n).1 5 = P.1 5
  | 0 => ⟨rfl, rfl⟩
  | n + 1 => by
    have ih := rdP_4 (G := G) (P := P) n
    show (rdS G n (rdP G P n)).1 4 = _ ∧ (rdS G n (rdP G P n)).1 5 = _
    unfold rdS
    dsimp only
    split
    · rw [un_ne (by decide), un_ne (by decide)]; exact ih
    · exact ih
theorem t1P_4 {G : SG} {P : PG} : (t1P G P).1 4 = P.1 4 ∧ (t1P G P).1 5 = P.1 5 := by
  unfold t1P
  split
  · exact rdP_4 4
  · rw [goP_1]; exact ⟨rfl, rfl⟩
theorem tkP_4 {G : SG} {P : PG} : (tkP G P).1 4 = P.1 4 + 1 ∧ ((tkP G P).1 5 = P.1 5 ∨ (tkP G P).1 5 = P.1 5 + 1) := by
  obtain ⟨h4, h5⟩ := t1P_4 (G := G) (P := P)
  have e4 : (t2P G P).1 4 = P.1 4 + 1 := by unfold t2P; simp [un_at, h4]
  have e5 : (t2P G P).1 5 = P.1 5 := by unfold t2P; simp [un_at, h5]
  unfold tkP
  split
  · unfold erP
    split
    · unfold npP
      split <;> simp [un_at, e4, e5]
    · simp [un_at, e4, e5]
  · exact ⟨e4, Or.inl e5⟩
theorem tkN_4 {G : SG} {P : PG} : ∀ n, (tkN G P n).1 4 = P.1 4 + n ∧ P.1 5 ≤ (tkN G P n).1 5 ∧ (tkN G P n).1 5 ≤ P.1 5 + n
  | 0 => ⟨rfl, Nat.le_refl _, Nat.le_refl _⟩
  | n + 1 => by
    obtain ⟨h1, h2, h3⟩ := tkN_4 (G := G) (P := P) n
    obtain ⟨h4, h5⟩ := tkP_4 (G := G) (P := tkN G P n)
    show (tkP G (tkN G P n)).1 4 = _ ∧ _ ≤ (tkP G (tkN G P n)).1 5 ∧ (tkP G (tkN G P n)).1 5 ≤ _
    omega
/-- ticks to the next round: m more may be tried, from the k-th on; 0: none -/
def rtK (G : SG) (P : PG) : Nat → Nat → Nat
  | 0, _ => 0
  | m + 1, k => if (tkN G P k).1 5 = P.1 5 then rtK G P m (k + 1) else k
def siN (G : SG) (P : PG) (c : Nat) : Nat → Nat
  | 0 => 0
  | n + 1 => siN G P c n + bP ((tkN G P (n + 1)).2 c 11 = 0)
def deN (G : SG) (P : PG) (c : Nat) : Nat → Nat
  | 0 => 0
  | n + 1 => max (deN G P c n) ((tkN G P (n + 1)).2 c 4)
def uhK (G : SG) (P : PG) (c x : Nat) : Nat → Nat → Nat
  | 0, k => k
  | m + 1, k => if (tkN G P (k + 1)).2 c 11 = x then uhK G P c x m (k + 1) else k
/-- a channel stolen or given back -/
def stP (P : PG) (c n t : Nat) : PG := (P.1, uv P.2 c (un (un (P.2 c) 3 n) 2 t))
theorem siN_le {G : SG} {P : PG} {c : Nat} : ∀ n, siN G P c n ≤ n
  | 0 => Nat.le_refl _
  | n + 1 => by
    have h1 := siN_le (G := G) (P := P) (c := c) n
    have h2 := bP_le ((tkN G P (n + 1)).2 c 11 = 0)
    show siN G P c n + bP ((tkN G P (n + 1)).2 c 11 = 0) ≤ n + 1
    omega
theorem deN_le {G : SG} {P : PG} {c : Nat} (hs : SB G) (hp : PB G P) (hc : c < 4) : ∀ n, deN G P c n ≤ 3
  | 0 => by show 0 ≤ 3; decide
  | n + 1 => by
    have h1 := deN_le hs hp hc n
    have h2 := (((tkN_PB hs hp (n + 1)).2.2.2.2.2) c hc).1.f3
    show max (deN G P c n) ((tkN G P (n + 1)).2 c 4) ≤ 3
    omega
theorem stP_PB {G : SG} {P : PG} {c n t : Nat} (hc : c < 4) (hn : n ≤ 60) (ht : t ≤ 99) (h : PB G P) : PB G (stP P c n t) := by
  obtain ⟨h0, h1, h2, h3, h4, h5⟩ := h
  refine ⟨h0, h1, h2, h3, h4, VS_uv h5 ⟨?_, FR_un (FR_un (h5 c hc).2 (by decide) (by decide) (h5 c hc).1.f3) (by decide) (by decide) ?_⟩⟩
  · have := (h5 c hc).1
    unfold VB at *
    simp [un_at]
    omega
  · rw [un_ne (by decide)]; exact (h5 c hc).1.f3
def dgV (Vs : Nat → Nat → Nat) (h : Int64) : Nat → Int64
  | 0 => h
  | n + 1 => 31 * dgV Vs h n + (factV (Vs (n / 8)) (n % 8)).toInt64
/-- the digest -/
def dg1 (X : ST) (tl : Nat) : Int64 := dgN (valF X) (109523 + (nI tl).toInt64) 8
def dgP (G : SG) (h : Int64) : Nat → Int64
  | 0 => h
  | p + 1 => dgN (cellN G p) (dgN (factP G p) (dgP G h p) 5) (16 * G.2.1 p)
def dgA (X : ST) (tl n : Nat) : Int64 := 31 * (31 * dgV X.2.2 (dgN X.1.2.2.1 (dgP X.1 (dg1 X tl) 6) X.1.2.2.2) 32 + (hsN X.1 X.2 40).toInt64) + (nI n).toInt64
