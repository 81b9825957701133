/-! the reference: its one array, its object -/
def enc (X : ST) : Nat → Nat := fun j => if j < 6 then X.2.1 j else if j = 6 then X.1.2.2.2 else if j < 15 then X.1.2.2.1 (j - 7) else if j < 21 then X.1.2.1 (j - 15) else if j < 85 then X.2.2 ((j - 21) / 16) ((j - 21) % 16) else X.1.1 ((j - 85) / 4) ((j - 85) % 4)
def vX (X : ST) (c : Nat) (V : Nat → Nat) : ST := (X.1, (X.2.1, uv X.2.2 c V))
def gX (X : ST) (f : Nat → Nat) : ST := (X.1, (f, X.2.2))
theorem enc_g {X : ST} {j : Nat} (h : j < 6) : enc X j = X.2.1 j := by unfold enc; rw [if_pos h]
theorem enc_n {X : ST} : enc X 6 = X.1.2.2.2 := rfl
theorem enc_o {X : ST} {i : Nat} (h : i < 8) : enc X (7 + i) = X.1.2.2.1 i := by
  unfold enc
  rw [if_neg (by omega), if_neg (by omega), if_pos (by omega), show 7 + i - 7 = i by omega]
theorem enc_r {X : ST} {i : Nat} (h : i < 6) : enc X (15 + i) = X.1.2.1 i := by
  unfold enc
  rw [if_neg (by omega), if_neg (by omega), if_neg (by omega), if_pos (by omega), show 15 + i - 15 = i by omega]
theorem enc_v {X : ST} {c k : Nat} (hc : c < 4) (hk : k < 16) : enc X (21 + 16 * c + k) = X.2.2 c k := by
  unfold enc
  rw [if_neg (by omega), if_neg (by omega), if_neg (by omega), if_neg (by omega), if_pos (by omega), show (21 + 16 * c + k - 21) / 16 = c by omega, show (21 + 16 * c + k - 21) % 16 = k by omega]
theorem enc_c {X : ST} {i k : Nat} (hk : k < 4) : enc X (85 + 4 * i + k) = X.1.1 i k := by
  unfold enc
  rw [if_neg (by omega), if_neg (by omega), if_neg (by omega), if_neg (by omega), if_neg (by omega), show (85 + 4 * i + k - 85) / 4 = i by omega, show (85 + 4 * i + k - 85) % 4 = k by omega]
theorem vX_v {X : ST} {c : Nat} {V : Nat → Nat} : (vX X c V).2.2 c = V := uv_eq
theorem uv_uv {Vs : Nat → Nat → Nat} {i : Nat} {V W' : Nat → Nat} : uv (uv Vs i V) i W' = uv Vs i W' := by
  funext k
  unfold uv
  split <;> rfl
theorem vX_vX {X : ST} {c : Nat} {V W' : Nat → Nat} : vX (vX X c V) c W' = vX X c W' := by
  unfold vX
  rw [uv_uv]
theorem uv_self {Vs : Nat → Nat → Nat} {i : Nat} : uv Vs i (Vs i) = Vs := by
  funext k
  unfold uv
  split
  · rename_i e; rw [e]
  · rfl
theorem vX_self {X : ST} {c : Nat} : vX X c (X.2.2 c) = X := by
  unfold vX
  rw [uv_self]
theorem un_g {X : ST} {k x : Nat} (hk : k < 6) : un (enc X) k x = enc (gX X (un X.2.1 k x)) := by
  funext j
  unfold un
  by_cases h : j = k
  · subst h
    rw [if_pos rfl, enc_g hk]
    show _ = un X.2.1 j x j
    rw [un_eq]
  · rw [if_neg h]
    unfold enc gX
    by_cases h6 : j < 6
    · rw [if_pos h6, if_pos h6]
      show _ = un X.2.1 k x j
      rw [un_ne h]
    · rw [if_neg h6, if_neg h6]
theorem un_v {X : ST} {c k x : Nat} (hc : c < 4) (hk : k < 16) : un (enc X) (21 + 16 * c + k) x = enc (vX X c (un (X.2.2 c) k x)) := by
  funext j
  by_cases h : j = 21 + 16 * c + k
  · subst h
    rw [un_eq, enc_v hc hk, vX_v, un_eq]
  · rw [un_ne h]
    unfold enc
    by_cases h6 : 21 ≤ j ∧ j < 85
    · rw [if_neg (by omega), if_neg (by omega), if_neg (by omega), if_neg (by omega), if_pos (by omega), if_neg (by omega), if_neg (by omega), if_neg (by omega), if_neg (by omega), if_pos (by omega)]
      show _ = uv X.2.2 c (un (X.2.2 c) k x) ((j - 21) / 16) ((j - 21) % 16)
      unfold uv
      split
      · rename_i e
        rw [un_ne (by omega), e]
      · rfl
    · repeat' split
      all_goals first
        | rfl
        | (exfalso; omega)
theorem un_n {X : ST} {x : Nat} : un (enc X) 6 x = enc ((X.1.1, X.1.2.1, X.1.2.2.1, x), X.2) := by
  funext j
  unfold un enc
  repeat' split
  all_goals first
    | rfl
    | (exfalso; omega)
theorem un_o {X : ST} {i x : Nat} (hi : i < 8) : un (enc X) (7 + i) x = enc ((X.1.1, X.1.2.1, un X.1.2.2.1 i x, X.1.2.2.2), X.2) := by
  funext j
  by_cases h : j = 7 + i
  · subst h
    rw [un_eq, enc_o hi]
    show _ = un X.1.2.2.1 i x i
    rw [un_eq]
  · rw [un_ne h]
    unfold enc
    repeat' split
    all_goals first
      | rfl
      | (show _ = un X.1.2.2.1 i x (j - 7); rw [un_ne (by omega)])
      | (exfalso; omega)
theorem un_r {X : ST} {i x : Nat} (hi : i < 6) : un (enc X) (15 + i) x = enc ((X.1.1, un X.1.2.1 i x, X.1.2.2), X.2) := by
  funext j
  by_cases h : j = 15 + i
  · subst h
    rw [un_eq, enc_r hi]
    show _ = un X.1.2.1 i x i
    rw [un_eq]
  · rw [un_ne h]
    unfold enc
    repeat' split
    all_goals first
      | rfl
      | (show _ = un X.1.2.1 i x (j - 15); rw [un_ne (by omega)])
      | (exfalso; omega)
theorem un_c {X : ST} {i k x : Nat} (hk : k < 4) : un (enc X) (85 + 4 * i + k) x = enc ((uc X.1.1 i (un (X.1.1 i) k x), X.1.2), X.2) := by
  funext j
  by_cases h : j = 85 + 4 * i + k
  · subst h
    rw [un_eq, enc_c hk]
    show _ = uc X.1.1 i (un (X.1.1 i) k x) i k
    unfold uc
    rw [if_pos rfl, un_eq]
  · rw [un_ne h]
    unfold enc
    by_cases h6 : 85 ≤ j
    · rw [if_neg (by omega), if_neg (by omega), if_neg (by omega), if_neg (by omega), if_neg (by omega), if_neg (by omega), if_neg (by omega), if_neg (by omega), if_neg (by omega), if_neg (by omega)]
      show _ = uc X.1.1 i (un (X.1.1 i) k x) ((j - 85) / 4) ((j - 85) % 4)
      unfold uc
      split
      · rename_i e
        rw [un_ne (by omega), e]
      · rfl
    · repeat' split
      all_goals first
        | rfl
        | (exfalso; omega)
/-- the object: all, saved, aside, savedMany, threw, text, textLong, place, read, rows, number -/
def mdM (Z : Nat → ClassId) (b : Nat → Nat) (X : ST) (sv sd : Nat → Nat) (sm th tl pl ro nu : Nat) (t r : Nat → Nat) : va_W :=
  [(b 0, .inr (7, [.ref (b 1), .ref (b 2), .ref (b 3), vI sm, vI th, .ref (b 4), vI tl, vI pl, .ref (b 5), vI ro, vI nu])), (b 1, .inl (Z 0, 853, .inl (ar 853 (enc X)))), (b 2, .inl (Z 0, 3412, .inl (ar 3412 sv))), (b 3, .inl (Z 0, 853, .inl (ar 853 sd))), (b 4, .inl (Z 0, 100, .inl (ar 100 t))), (b 5, .inl (Z 0, 128, .inl (ar 128 r)))]
theorem mdM_f {Z : Nat → ClassId} {b : Nat → Nat} {X : ST} {sv sd f g h : Nat → Nat} {sm th tl pl ro nu : Nat} {t r : Nat → Nat} (ef : ∀ j, j < 853 → f j = enc X j) (eg : ∀ j, j < 3412 → g j = sv j) (eh : ∀ j, j < 853 → h j = sd j) :
    ([(b 0, .inr (7, [.ref (b 1), .ref (b 2), .ref (b 3), vI sm, vI th, .ref (b 4), vI tl, vI pl, .ref (b 5), vI ro, vI nu])), (b 1, .inl (Z 0, 853, .inl (ar 853 f))), (b 2, .inl (Z 0, 3412, .inl (ar 3412 g))), (b 3, .inl (Z 0, 853, .inl (ar 853 h))), (b 4, .inl (Z 0, 100, .inl (ar 100 t))), (b 5, .inl (Z 0, 128, .inl (ar 128 r)))] : va_W) = mdM Z b X sv sd sm th tl pl ro nu t r := by
  unfold mdM
  rw [ar_congr ef, ar_congr eg, ar_congr eh]
theorem mdM_e {Z : Nat → ClassId} {b : Nat → Nat} {X : ST} {sv sd f : Nat → Nat} {sm th tl pl ro nu : Nat} {t r : Nat → Nat} (ef : f = enc X) :
    ([(b 0, .inr (7, [.ref (b 1), .ref (b 2), .ref (b 3), vI sm, vI th, .ref (b 4), vI tl, vI pl, .ref (b 5), vI ro, vI nu])), (b 1, .inl (Z 0, 853, .inl (ar 853 f))), (b 2, .inl (Z 0, 3412, .inl (ar 3412 sv))), (b 3, .inl (Z 0, 853, .inl (ar 853 sd))), (b 4, .inl (Z 0, 100, .inl (ar 100 t))), (b 5, .inl (Z 0, 128, .inl (ar 128 r)))] : va_W) = mdM Z b X sv sd sm th tl pl ro nu t r := by
  subst ef; rfl
theorem rgI_n {a b k : Nat} (hk : k < 2 ^ 31) (ha : a < 2 ^ 31) (hb : b < 2 ^ 31) : rgI a b (nI k) ↔ a ≤ k ∧ k ≤ b := by
  unfold rgI
  rw [nI_ltI hk ha, nI_ltI hb hk]
  omega
theorem l_lt {x : Int32} {a : Nat} (ha : a < 2 ^ 31) : x.toInt64 < lN a ↔ x < nI a := by
  rw [Int64.lt_iff_toInt_lt, Int32.lt_iff_toInt_lt, Int32.toInt_toInt64, lN_toInt ha, nI_toInt ha]
theorem l_lt' {x : Int32} {a : Nat} (ha : a < 2 ^ 31) : lN a < x.toInt64 ↔ nI a < x := by
  rw [Int64.lt_iff_toInt_lt, Int32.lt_iff_toInt_lt, Int32.toInt_toInt64, lN_toInt ha, nI_toInt ha]
