/-! the class and the reference side by side: what nobody sees may differ -/
def GE (G G' : SG) : Prop := (∀ i, i < 192 → ∀ k, k < 4 → G.1 i k = G'.1 i k) ∧ (∀ p, p < 6 → G.2.1 p = G'.2.1 p) ∧ G.2.2.2 = G'.2.2.2 ∧ ∀ j, j < G.2.2.2 → G.2.2.1 j = G'.2.2.1 j
def VE (V U : Nat → Nat) : Prop := V 2 = U 2 ∧ V 4 = U 4 ∧ ∀ k, k < 12 → (k = 3 → V 2 ≠ 0) → (5 ≤ k → k < 11 → k < 5 + 2 * V 4) → V k = U k
def VC (V U : Nat → Nat) : Prop := ∀ k, 12 ≤ k → k < 16 → V k = U k
def PE (P P' : PG) : Prop := (∀ k, k < 6 → P.1 k = P'.1 k) ∧ (∀ c, c < 4 → VE (P.2 c) (P'.2 c)) ∧ (P.1 2 ≠ 0 → ∀ c, c < 4 → VC (P.2 c) (P'.2 c))
def SE (X M : ST) : Prop := GE X.1 M.1 ∧ PE X.2 M.2
theorem VE.r {V U : Nat → Nat} (h : VE V U) : V 0 = U 0 ∧ V 1 = U 1 ∧ V 11 = U 11 := ⟨h.2.2 0 (by decide) (by omega) (by omega), h.2.2 1 (by decide) (by omega) (by omega), h.2.2 11 (by decide) (by omega) (by omega)⟩
theorem VE.u1 {V U : Nat → Nat} (h : VE V U) {k0 x : Nat} (h2 : k0 ≠ 2) (h4 : k0 ≠ 4) : VE (un V k0 x) (un U k0 x) := by
  refine ⟨by rw [un_ne h2.symm, un_ne h2.symm]; exact h.1, by rw [un_ne h4.symm, un_ne h4.symm]; exact h.2.1, fun k hk h3 h5 => ?_⟩
  rw [un_ne h2.symm] at h3
  rw [un_ne h4.symm] at h5
  by_cases e : k = k0
  · rw [e, un_eq, un_eq]
  · rw [un_ne e, un_ne e]
    exact h.2.2 k hk h3 h5
theorem VE.u4 {V U : Nat → Nat} (h : VE V U) {x : Nat} (hx : x ≤ V 4) : VE (un V 4 x) (un U 4 x) := by
  refine ⟨by rw [un_ne (by decide), un_ne (by decide)]; exact h.1, by rw [un_eq, un_eq], fun k hk h3 h5 => ?_⟩
  rw [un_ne (by decide)] at h3
  rw [un_eq] at h5
  by_cases e : k = 4
  · rw [e, un_eq, un_eq]
  · rw [un_ne e, un_ne e]
    exact h.2.2 k hk h3 (by omega)
theorem VE.u2 {V U : Nat → Nat} (h : VE V U) {x : Nat} (hx : x ≠ 0 → V 2 ≠ 0) : VE (un V 2 x) (un U 2 x) := by
  refine ⟨by rw [un_eq, un_eq], by rw [un_ne (by decide), un_ne (by decide)]; exact h.2.1, fun k hk h3 h5 => ?_⟩
  rw [un_eq] at h3
  rw [un_ne (by decide)] at h5
  by_cases e : k = 2
  · rw [e, un_eq, un_eq]
  · rw [un_ne e, un_ne e]
    exact h.2.2 k hk (fun z => hx (h3 z)) h5
theorem VC.u1 {V U : Nat → Nat} (h : VC V U) {k0 x y : Nat} (h2 : k0 < 12) : VC (un V k0 x) (un U k0 y) := by
  intro k h12 h16
  rw [un_ne (by omega), un_ne (by omega)]
  exact h k h12 h16
theorem VE_beg {V U : Nat → Nat} (h : VE V U) (hc : VC V U) : VE (begV V) (begV U) ∧ VC (begV V) (begV U) := by
  unfold begV
  rw [← hc 12 (by decide) (by decide), ← hc 13 (by decide) (by decide)]
  split
  · exact ⟨h.u1 (by decide) (by decide), hc.u1 (by decide)⟩
  · split
    · exact ⟨(h.u1 (by decide) (by decide)).u1 (by decide) (by decide), (hc.u1 (by decide)).u1 (by decide)⟩
    · exact ⟨h, hc⟩
theorem VE_setR {V U r r' : Nat → Nat} (h : VE V U) (hr : ∀ k, k < 4 → r k = r' k) : VE (setR V r) (setR U r') ∧ VC (setR V r) (setR U r') := by
  have e1 : ∀ (W r : Nat → Nat) k, k < 12 → setR W r k = W k := fun W r k hk => if_neg (by omega)
  refine ⟨⟨by rw [e1 _ _ 2 (by decide), e1 _ _ 2 (by decide)]; exact h.1, by rw [e1 _ _ 4 (by decide), e1 _ _ 4 (by decide)]; exact h.2.1, fun k hk h3 h5 => ?_⟩, fun k h12 h16 => ?_⟩
  · rw [e1 _ _ 2 (by decide)] at h3
    rw [e1 _ _ 4 (by decide)] at h5
    rw [e1 _ _ k hk, e1 _ _ k hk]
    exact h.2.2 k hk h3 h5
  · show (if 12 ≤ k ∧ k < 16 then r (k - 12) else V k) = if 12 ≤ k ∧ k < 16 then r' (k - 12) else U k
    rw [if_pos ⟨h12, h16⟩, if_pos ⟨h12, h16⟩]
    exact hr _ (by omega)
theorem VE_brV {V U r r' : Nat → Nat} (h : VE V U) (hr : ∀ k, k < 4 → r k = r' k) : VE (brV V r) (brV U r') ∧ VC (brV V r) (brV U r') := by
  have hs := VE_setR h hr
  unfold brV
  rw [← hr 2 (by decide), ← hr 3 (by decide)]
  split
  · exact hs
  · exact VE_beg hs.1 hs.2
theorem VE_goV {V U : Nat → Nat} {t : Nat} (h : VE V U) (hc : VC V U) : VE (goV V t) (goV U t) ∧ VC (goV V t) (goV U t) := by
  unfold goV
  rw [← hc 14 (by decide) (by decide), ← hc 15 (by decide) (by decide), ← h.r.1, ← h.r.2.1]
  repeat' split
  · exact ⟨h.u1 (by decide) (by decide), hc.u1 (by decide)⟩
  · exact ⟨h.u1 (by decide) (by decide), hc.u1 (by decide)⟩
  · exact ⟨h.u1 (by decide) (by decide), hc.u1 (by decide)⟩
  · exact ⟨h.u1 (by decide) (by decide), hc.u1 (by decide)⟩
  · exact VE_beg h hc
  · exact ⟨h, hc⟩
theorem VE_hear {V U : Nat → Nat} (h : VE V U) : VE (hearV V) (hearV U) := by
  unfold hearV
  rw [← h.1]
  split
  · rename_i h2
    rw [← h.2.2 3 (by decide) (by omega) (by omega)]
    exact (h.u1 (k0 := 11) (by decide) (by decide)).u2 (fun _ => by rw [un_ne (by decide)]; omega)
  · rw [← h.r.1, ← h.r.2.1]
    exact h.u1 (by decide) (by decide)
theorem VC_hear {V U : Nat → Nat} (hc : VC V U) : VC (hearV V) (hearV U) := by
  intro k h12 h16
  rw [hearV_fr _ _ (by omega), hearV_fr _ _ (by omega)]
  exact hc k h12 h16
theorem VE.fr {V U : Nat → Nat} (h : VE V U) (h0 : V 4 ≠ 0) (h3 : V 4 ≤ 3) : V (5 + 2 * (V 4 - 1)) = U (5 + 2 * (V 4 - 1)) ∧ V (6 + 2 * (V 4 - 1)) = U (6 + 2 * (V 4 - 1)) :=
  ⟨h.2.2 _ (by omega) (by omega) (by omega), h.2.2 _ (by omega) (by omega) (by omega)⟩
theorem VE_end1 {V U g g' : Nat → Nat} (h : VE V U) (hb : VB V) (hg : ∀ p, p < 6 → g p = g' p) : VE (end1V g V) (end1V g' U) := by
  unfold end1V
  rw [← h.2.1]
  by_cases h0 : V 4 = 0
  · rw [if_pos h0, if_pos h0]; exact h
  · have hf := h.fr h0 hb.f3
    have hp := VB_fp hb h0
    have h3 := hb.f3
    rw [if_neg h0, if_neg h0, ← hf.1, ← hf.2, ← hg _ (by omega)]
    split
    · exact (h.u1 (k0 := 6 + 2 * (V 4 - 1)) (by omega) (by omega)).u4 (by rw [un_ne (by omega)]; omega)
    · exact h.u1 (by omega) (by omega)
theorem VC_end1 {V U g g' : Nat → Nat} (hc : VC V U) (h3 : V 4 ≤ 3) (hu : U 4 ≤ 3) : VC (end1V g V) (end1V g' U) := by
  intro k h12 h16
  rw [end1V_fr _ _ h3 _ (by omega), end1V_fr _ _ hu _ (by omega)]
  exact hc k h12 h16
theorem VE_ent {V U : Nat → Nat} {x : Nat} (h : VE V U) : VE (entV V x) (entV U x) := by
  unfold entV
  rw [← h.2.1]
  split
  · rename_i h3
    refine ⟨by rw [un_ne (by omega), un_ne (by omega), un_ne (by omega), un_ne (by omega), un_ne (by omega), un_ne (by omega)]; exact h.1, by rw [un_eq, un_eq], fun k hk a b => ?_⟩
    rw [un_ne (by omega), un_ne (by omega), un_ne (by omega)] at a
    rw [un_eq] at b
    by_cases e4 : k = 4
    · rw [e4, un_eq, un_eq]
    · rw [un_ne e4, un_ne e4]
      by_cases e6 : k = 6 + 2 * V 4
      · rw [e6, un_eq, un_eq]
      · rw [un_ne e6, un_ne e6]
        by_cases e5 : k = 5 + 2 * V 4
        · rw [e5, un_eq, un_eq]
        · rw [un_ne e5, un_ne e5]
          exact h.2.2 k hk a (by omega)
  · exact h
theorem VE_end {V U g g' : Nat → Nat} (h : VE V U) (hc : VC V U) (hb : VB V) (hg : ∀ p, p < 6 → g p = g' p) : VE (endV g V) (endV g' U) := by
  have h1 := VE_end1 h hb hg
  unfold endV
  rw [← hc 14 (by decide) (by decide), ← hc 15 (by decide) (by decide)]
  split
  · exact VE_ent h1
  · exact h1
theorem rdc_E {G G' : SG} {f f' V U : Nat → Nat} {d : Nat} (hs : SB G) (hG : GE G G') (h0 : f 0 = f' 0) (h1 : f 1 = f' 1) (hv : VE V U) (hV : VB V ∧ FR V) (b0 : f 0 < G.2.2.2) (b1 : f 1 < 8) (hd : d < 4) : ∀ k, k < 4 → rdc G f V d k = rdc G' f' U d k := by
  intro k hk
  have hpl := hs.2.2.2.1
  unfold rdc
  rw [← hv.2.1]
  by_cases e : V 4 = 0
  · rw [if_pos e, if_pos e, ← h0, ← h1, ← hG.2.2.2 _ b0]
    exact hG.1 _ (cix_lt (by have := hs.2.2.2.2 (f 0) (by omega); omega) b1 hd) k hk
  · have hf := hv.fr e hV.1.f3
    have hp := VB_fp hV.1 e
    have ht := hV.2.top (by omega)
    rw [if_neg e, if_neg e, ← hf.1, ← hf.2]
    exact hG.1 _ (cix_lt (by omega) (by omega) hd) k hk
theorem rdP_E {G G' : SG} {P P' : PG} (hs : SB G) (hP : PB G P) (hG : GE G G') (h : PE P P') : ∀ n, n ≤ 4 → (∀ k, k < 6 → (rdP G P n).1 k = (rdP G' P' n).1 k) ∧ (∀ c, c < 4 → VE ((rdP G P n).2 c) ((rdP G' P' n).2 c)) ∧ (∀ c, c < n → VC ((rdP G P n).2 c) ((rdP G' P' n).2 c))
  | 0, _ => ⟨h.1, h.2.1, fun c hc => absurd hc (by omega)⟩
  | n + 1, hn => by
    obtain ⟨i1, i2, i3⟩ := rdP_E hs hP hG h n (by omega)
    obtain ⟨b0, b1, b2, b3, b4, b5⟩ := rdP_PB hs hP n (by omega)
    have hr := rdc_E (d := n) hs hG (i1 0 (by decide)) (i1 1 (by decide)) (i2 n (by omega)) (b5 n (by omega)) b0 b1 (by omega)
    have hv := VE_brV (i2 n (by omega)) hr
    refine ⟨fun k hk => ?_, fun c hc => ?_, fun c hc => ?_⟩
    · show (if _ then _ else _ : Nat → Nat) k = (if _ then _ else _ : Nat → Nat) k
      rw [← hr 2 (by decide), ← hr 3 (by decide)]
      split
      · by_cases e : k = 3
        · rw [e, un_eq, un_eq]
        · rw [un_ne e, un_ne e]; exact i1 k hk
      · exact i1 k hk
    · show VE (uv _ n _ c) (uv _ n _ c)
      by_cases e : c = n
      · rw [e, uv_eq, uv_eq]; exact hv.1
      · rw [uv_ne e, uv_ne e]; exact i2 c hc
    · show VC (uv _ n _ c) (uv _ n _ c)
      by_cases e : c = n
      · rw [e, uv_eq, uv_eq]; exact hv.2
      · rw [uv_ne e, uv_ne e]; exact i3 c (by omega)
theorem goP_E {P P' : PG} {t : Nat} (hv : ∀ c, c < 4 → VE (P.2 c) (P'.2 c)) (hc : ∀ c, c < 4 → VC (P.2 c) (P'.2 c)) : ∀ n, n ≤ 4 → (∀ c, c < 4 → VE ((goP t P n).2 c) ((goP t P' n).2 c)) ∧ (∀ c, c < 4 → VC ((goP t P n).2 c) ((goP t P' n).2 c))
  | 0, _ => ⟨hv, hc⟩
  | n + 1, hn => by
    obtain ⟨i1, i2⟩ := goP_E hv hc n (by omega)
    have hg := VE_goV (t := t) (i1 n (by omega)) (i2 n (by omega))
    refine ⟨fun c hc => ?_, fun c hc => ?_⟩
    · show VE (uv _ n _ c) (uv _ n _ c)
      by_cases e : c = n
      · rw [e, uv_eq, uv_eq]; exact hg.1
      · rw [uv_ne e, uv_ne e]; exact i1 c hc
    · show VC (uv _ n _ c) (uv _ n _ c)
      by_cases e : c = n
      · rw [e, uv_eq, uv_eq]; exact hg.2
      · rw [uv_ne e, uv_ne e]; exact i2 c hc
theorem hrP_E {P P' : PG} (hv : ∀ c, c < 4 → VE (P.2 c) (P'.2 c)) (hc : ∀ c, c < 4 → VC (P.2 c) (P'.2 c)) : ∀ n, n ≤ 4 → (∀ c, c < 4 → VE ((hrP P n).2 c) ((hrP P' n).2 c)) ∧ (∀ c, c < 4 → VC ((hrP P n).2 c) ((hrP P' n).2 c))
  | 0, _ => ⟨hv, hc⟩
  | n + 1, hn => by
    obtain ⟨i1, i2⟩ := hrP_E hv hc n (by omega)
    refine ⟨fun c hc => ?_, fun c hc => ?_⟩
    · show VE (uv _ n _ c) (uv _ n _ c)
      by_cases e : c = n
      · rw [e, uv_eq, uv_eq]; exact VE_hear (i1 n (by omega))
      · rw [uv_ne e, uv_ne e]; exact i1 c hc
    · show VC (uv _ n _ c) (uv _ n _ c)
      by_cases e : c = n
      · rw [e, uv_eq, uv_eq]; exact VC_hear (i2 n (by omega))
      · rw [uv_ne e, uv_ne e]; exact i2 c hc
theorem enP_E {P P' : PG} {g g' : Nat → Nat} (hg : ∀ p, p < 6 → g p = g' p) (hv : ∀ c, c < 4 → VE (P.2 c) (P'.2 c)) (hc : ∀ c, c < 4 → VC (P.2 c) (P'.2 c)) (hb : ∀ c, c < 4 → VB (P.2 c)) : ∀ n, n ≤ 4 → (∀ c, c < n → VE ((enP g P n).2 c) ((enP g' P' n).2 c)) ∧ (∀ c, n ≤ c → (enP g P n).2 c = P.2 c ∧ (enP g' P' n).2 c = P'.2 c)
  | 0, _ => ⟨fun c hc => absurd hc (by omega), fun c _ => ⟨rfl, rfl⟩⟩
  | n + 1, hn => by
    obtain ⟨i1, i2⟩ := enP_E hg hv hc hb n (by omega)
    obtain ⟨j1, j2⟩ := i2 n (Nat.le_refl _)
    refine ⟨fun c hc9 => ?_, fun c hc9 => ?_⟩
    · show VE (uv _ n _ c) (uv _ n _ c)
      by_cases e : c = n
      · rw [e, uv_eq, uv_eq, j1, j2]; exact VE_end (hv n (by omega)) (hc n (by omega)) (hb n (by omega)) hg
      · rw [uv_ne e, uv_ne e]; exact i1 c (by omega)
    · show uv _ n _ c = _ ∧ uv _ n _ c = _
      rw [uv_ne (by omega), uv_ne (by omega)]
      exact i2 c (by omega)
theorem t1P_E {G G' : SG} {P P' : PG} (hs : SB G) (hP : PB G P) (hG : GE G G') (h : PE P P') : (∀ k, k < 6 → (t1P G P).1 k = (t1P G' P').1 k) ∧ (∀ c, c < 4 → VE ((t1P G P).2 c) ((t1P G' P').2 c)) ∧ (∀ c, c < 4 → VC ((t1P G P).2 c) ((t1P G' P').2 c)) := by
  unfold t1P
  rw [← h.1 2 (by decide)]
  split
  · exact rdP_E hs hP hG h 4 (by decide)
  · rename_i h2
    have := goP_E (t := P.1 2) h.2.1 (h.2.2 h2) 4 (by decide)
    exact ⟨fun k hk => by rw [goP_1, goP_1]; exact h.1 k hk, this.1, this.2⟩
theorem t2P_E {G G' : SG} {P P' : PG} (hs : SB G) (hP : PB G P) (hG : GE G G') (h : PE P P') : (∀ k, k < 6 → (t2P G P).1 k = (t2P G' P').1 k) ∧ (∀ c, c < 4 → VE ((t2P G P).2 c) ((t2P G' P').2 c)) ∧ (∀ c, c < 4 → VC ((t2P G P).2 c) ((t2P G' P').2 c)) := by
  obtain ⟨i1, i2, i3⟩ := t1P_E hs hP hG h
  have := hrP_E i2 i3 4 (by decide)
  refine ⟨fun k hk => ?_, this.1, this.2⟩
  show un (un _ _ _) _ _ k = un (un _ _ _) _ _ k
  rw [i1 4 (by decide), i1 2 (by decide)]
  by_cases e : k = 2
  · rw [e, un_eq, un_eq]
  · rw [un_ne e, un_ne e]
    by_cases e4 : k = 4
    · rw [e4, un_eq, un_eq]
    · rw [un_ne e4, un_ne e4]; exact i1 k hk
theorem un_E {f f' : Nat → Nat} (h : ∀ k, k < 6 → f k = f' k) {j x x' : Nat} (hx : x = x') : ∀ k, k < 6 → un f j x k = un f' j x' k := by
  intro k hk
  subst hx
  by_cases e : k = j
  · rw [e, un_eq, un_eq]
  · rw [un_ne e, un_ne e]; exact h k hk
theorem npP_E {G G' : SG} {P P' : PG} (hG : GE G G') (h1 : ∀ k, k < 6 → P.1 k = P'.1 k) : ∀ k, k < 6 → (npP G P).1 k = (npP G' P').1 k := by
  unfold npP
  rw [← hG.2.2.1, ← h1 0 (by decide), ← h1 5 (by decide)]
  split
  · exact un_E (un_E h1 rfl) rfl
  · exact un_E h1 rfl
theorem npP_2 {G : SG} {P : PG} : (npP G P).1 2 = P.1 2 := by
  unfold npP
  dsimp only
  split
  · rw [un_ne (by decide), un_ne (by decide)]
  · rw [un_ne (by decide)]
theorem tkP_E {G G' : SG} {P P' : PG} (hs : SB G) (hP : PB G P) (hG : GE G G') (h : PE P P') : PE (tkP G P) (tkP G' P') := by
  obtain ⟨i1, i2, i3⟩ := t2P_E hs hP hG h
  obtain ⟨b0, b1, b2, b3, b4, b5⟩ := t2P_PB hs hP
  unfold tkP
  rw [← i1 3 (by decide), ← i1 2 (by decide)]
  split
  · have he := (enP_E (g := G.2.1) (g' := G'.2.1) hG.2.1 i2 i3 (fun c hc => (b5 c hc).1) 4 (by decide)).1
    have hpl := hs.2.2.2.1
    have ho := hs.2.2.2.2 ((t2P G P).1 0) (by omega)
    unfold erP
    rw [← i1 0 (by decide), ← i1 1 (by decide), ← hG.2.2.2 _ b0, ← hG.2.1 _ (by omega)]
    split
    · refine ⟨npP_E hG (un_E (un_E i1 rfl) rfl), he, fun h2 => ?_⟩
      rw [npP_2] at h2
      exact absurd (show un (un (t2P G P).1 2 0) 1 0 2 = 0 by rw [un_ne (by decide), un_eq]) h2
    · refine ⟨un_E (un_E i1 rfl) rfl, he, fun h2 => ?_⟩
      exact absurd (show un (un (t2P G P).1 2 0) 1 ((t2P G P).1 1 + 1) 2 = 0 by rw [un_ne (by decide), un_eq]) h2
  · exact ⟨i1, i2, fun _ => i3⟩
theorem tkN_E {G G' : SG} {P P' : PG} (hs : SB G) (hP : PB G P) (hG : GE G G') (h : PE P P') : ∀ n, PE (tkN G P n) (tkN G' P' n)
  | 0 => h
  | n + 1 => tkP_E hs (tkN_PB hs hP n) hG (tkN_E hs hP hG h n)
