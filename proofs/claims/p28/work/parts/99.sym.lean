/-! two players, the channels of the second told from the last one to the first one -/
def TG (G M : SG) : Prop := M.2 = G.2 ∧ ∀ i, i < 48 → ∀ c, c < 4 → M.1 (4 * i + (3 - c)) = G.1 (4 * i + c)
def TP (P Q : PG) : Prop := Q.1 = P.1 ∧ ∀ c, c < 4 → Q.2 (3 - c) = P.2 c
/-- speeds stand in the cells of channel 0 alone -/
def NSp (G : SG) : Prop := ∀ i, i < 48 → ∀ c, c < 4 → c ≠ 0 → G.1 (4 * i + c) 2 ≠ 7
theorem cix_4 {p r c : Nat} : cix p r c = 4 * (8 * p + r) + c := by unfold cix; omega
theorem TG.cell {G M : SG} (h : TG G M) {p r c : Nat} (hp : p < 6) (hr : r < 8) (hc : c < 4) : M.1 (cix p r (3 - c)) = G.1 (cix p r c) := by
  rw [cix_4, cix_4]
  exact h.2 _ (by omega) c hc
theorem rdc_f {G : SG} {f f' V : Nat → Nat} {d : Nat} (h0 : f' 0 = f 0) (h1 : f' 1 = f 1) : rdc G f' V d = rdc G f V d := by
  unfold rdc
  rw [h0, h1]
theorem rdc_row {G : SG} {f V : Nat → Nat} (h : SB G) (hV : VB V ∧ FR V) (h0 : f 0 < G.2.2.2) (h1 : f 1 < 8) : ∃ i, i < 48 ∧ ∀ (G9 : SG) (d : Nat), G9.2 = G.2 → rdc G9 f V d = G9.1 (4 * i + d) := by
  have hp := h.2.2.2.1
  by_cases e : V 4 = 0
  · refine ⟨8 * G.2.2.1 (f 0) + f 1, by have := h.2.2.2.2 (f 0) (by omega); omega, fun G9 d h9 => ?_⟩
    unfold rdc
    rw [if_pos e, h9, cix_4]
  · have hf := VB_fp hV.1 e
    have ht := hV.2.top (by omega)
    refine ⟨8 * V (5 + 2 * (V 4 - 1)) + V (6 + 2 * (V 4 - 1)), by omega, fun G9 d h9 => ?_⟩
    unfold rdc
    rw [if_neg e, cix_4]
def spS (r f : Nat → Nat) : Nat → Nat := if r 2 = 7 ∧ 1 ≤ r 3 ∧ r 3 ≤ 8 then un f 3 (r 3) else f
theorem spS_n {r f : Nat → Nat} (h : r 2 ≠ 7) : spS r f = f := if_neg (fun z => h z.1)
theorem rdP_v {G : SG} {P : PG} : ∀ n, n ≤ 4 → (∀ k, k ≠ 3 → (rdP G P n).1 k = P.1 k) ∧ ∀ c, (rdP G P n).2 c = if c < n then brV (P.2 c) (rdc G P.1 (P.2 c) c) else P.2 c
  | 0, _ => ⟨fun _ _ => rfl, fun c => by rw [if_neg (by omega)]; rfl⟩
  | n + 1, hn => by
    obtain ⟨i1, i2⟩ := rdP_v (G := G) (P := P) n (by omega)
    have e : (rdP G P n).2 n = P.2 n := by rw [i2 n, if_neg (by omega)]
    refine ⟨fun k hk => ?_, fun c => ?_⟩
    · show (if _ then _ else _ : Nat → Nat) k = _
      split
      · rw [un_ne hk]; exact i1 k hk
      · exact i1 k hk
    · show uv (rdP G P n).2 n (brV ((rdP G P n).2 n) (rdc G (rdP G P n).1 ((rdP G P n).2 n) n)) c = _
      rw [e, rdc_f (i1 0 (by decide)) (i1 1 (by decide))]
      by_cases h : c = n
      · rw [h, uv_eq, if_pos (by omega)]
      · rw [uv_ne h, i2 c]
        by_cases h2 : c < n
        · rw [if_pos h2, if_pos (by omega)]
        · rw [if_neg h2, if_neg (by omega)]
theorem rdP_s {G : SG} {P : PG} {n : Nat} (hn : n ≤ 3) : (rdP G P (n + 1)).1 = spS (rdc G P.1 (P.2 n) n) (rdP G P n).1 := by
  obtain ⟨i1, i2⟩ := rdP_v (G := G) (P := P) n (by omega)
  have e : (rdP G P n).2 n = P.2 n := by rw [i2 n, if_neg (by omega)]
  have e2 : rdc G (rdP G P n).1 ((rdP G P n).2 n) n = rdc G P.1 (P.2 n) n := by rw [e, rdc_f (i1 0 (by decide)) (i1 1 (by decide))]
  rw [← e2]
  rfl
theorem rdP_T {G M : SG} {P Q : PG} (hs : SB G) (hP : PB G P) (hG : TG G M) (hT : TP P Q) (hn : NSp G) : TP (rdP G P 4) (rdP M Q 4) := by
  obtain ⟨b0, b1, b2, b3, b4, b5⟩ := hP
  have key : ∀ c, c < 4 → rdc M Q.1 (Q.2 (3 - c)) (3 - c) = rdc G P.1 (P.2 c) c := fun c hc => by
    rw [hT.2 c hc, hT.1]
    obtain ⟨i, hi, e⟩ := rdc_row hs (b5 c hc) b0 b1
    rw [e M (3 - c) hG.1, e G c rfl]
    exact hG.2 i hi c hc
  have ns : ∀ c, c < 4 → c ≠ 0 → rdc G P.1 (P.2 c) c 2 ≠ 7 := fun c hc h0 => by
    obtain ⟨i, hi, e⟩ := rdc_row hs (b5 c hc) b0 b1
    rw [e G c rfl]
    exact hn i hi c hc h0
  have k0 : rdc M Q.1 (Q.2 3) 3 = rdc G P.1 (P.2 0) 0 := key 0 (by decide)
  have k1 : rdc M Q.1 (Q.2 2) 2 = rdc G P.1 (P.2 1) 1 := key 1 (by decide)
  have k2 : rdc M Q.1 (Q.2 1) 1 = rdc G P.1 (P.2 2) 2 := key 2 (by decide)
  have k3 : rdc M Q.1 (Q.2 0) 0 = rdc G P.1 (P.2 3) 3 := key 3 (by decide)
  have n1 := ns 1 (by decide) (by decide)
  have n2 := ns 2 (by decide) (by decide)
  have n3 := ns 3 (by decide) (by decide)
  have m1 : (rdP M Q 4).1 = spS (rdc M Q.1 (Q.2 3) 3) (spS (rdc M Q.1 (Q.2 2) 2) (spS (rdc M Q.1 (Q.2 1) 1) (spS (rdc M Q.1 (Q.2 0) 0) Q.1))) := by
    rw [rdP_s (n := 3) (by decide), rdP_s (n := 2) (by decide), rdP_s (n := 1) (by decide), rdP_s (n := 0) (by decide)]
    rfl
  have m2 : (rdP G P 4).1 = spS (rdc G P.1 (P.2 3) 3) (spS (rdc G P.1 (P.2 2) 2) (spS (rdc G P.1 (P.2 1) 1) (spS (rdc G P.1 (P.2 0) 0) P.1))) := by
    rw [rdP_s (n := 3) (by decide), rdP_s (n := 2) (by decide), rdP_s (n := 1) (by decide), rdP_s (n := 0) (by decide)]
    rfl
  refine ⟨?_, fun c hc => ?_⟩
  · rw [m1, m2, k0, k1, k2, k3, spS_n (f := Q.1) n3, spS_n (f := Q.1) n2, spS_n (f := Q.1) n1, spS_n n3, spS_n n2, spS_n n1, hT.1]
  · rw [(rdP_v (G := M) (P := Q) 4 (by decide)).2, (rdP_v (G := G) (P := P) 4 (by decide)).2, if_pos (by omega), if_pos hc, key c hc, hT.2 c hc]
theorem goP_v {t : Nat} {P : PG} : ∀ n, ∀ c, (goP t P n).2 c = if c < n then goV (P.2 c) t else P.2 c
  | 0, c => by rw [if_neg (by omega)]; rfl
  | n + 1, c => by
    have ih := goP_v (t := t) (P := P) n
    show uv (goP t P n).2 n (goV ((goP t P n).2 n) t) c = _
    by_cases h : c = n
    · rw [h, uv_eq, ih n, if_neg (by omega), if_pos (by omega)]
    · rw [uv_ne h, ih c]
      by_cases h2 : c < n
      · rw [if_pos h2, if_pos (by omega)]
      · rw [if_neg h2, if_neg (by omega)]
theorem hrP_v {P : PG} : ∀ n, ∀ c, (hrP P n).2 c = if c < n then hearV (P.2 c) else P.2 c
  | 0, c => by rw [if_neg (by omega)]; rfl
  | n + 1, c => by
    have ih := hrP_v (P := P) n
    show uv (hrP P n).2 n (hearV ((hrP P n).2 n)) c = _
    by_cases h : c = n
    · rw [h, uv_eq, ih n, if_neg (by omega), if_pos (by omega)]
    · rw [uv_ne h, ih c]
      by_cases h2 : c < n
      · rw [if_pos h2, if_pos (by omega)]
      · rw [if_neg h2, if_neg (by omega)]
theorem enP_v {g : Nat → Nat} {P : PG} : ∀ n, ∀ c, (enP g P n).2 c = if c < n then endV g (P.2 c) else P.2 c
  | 0, c => by rw [if_neg (by omega)]; rfl
  | n + 1, c => by
    have ih := enP_v (g := g) (P := P) n
    show uv (enP g P n).2 n (endV g ((enP g P n).2 n)) c = _
    by_cases h : c = n
    · rw [h, uv_eq, ih n, if_neg (by omega), if_pos (by omega)]
    · rw [uv_ne h, ih c]
      by_cases h2 : c < n
      · rw [if_pos h2, if_pos (by omega)]
      · rw [if_neg h2, if_neg (by omega)]
theorem goP_T {t : Nat} {P Q : PG} (h : TP P Q) : TP (goP t P 4) (goP t Q 4) :=
  ⟨by rw [goP_1, goP_1]; exact h.1, fun c hc => by rw [goP_v, goP_v, if_pos (by omega), if_pos hc, h.2 c hc]⟩
theorem hrP_T {P Q : PG} (h : TP P Q) : TP (hrP P 4) (hrP Q 4) :=
  ⟨by rw [hrP_1, hrP_1]; exact h.1, fun c hc => by rw [hrP_v, hrP_v, if_pos (by omega), if_pos hc, h.2 c hc]⟩
theorem enP_T {g : Nat → Nat} {P Q : PG} (h : TP P Q) : TP (enP g P 4) (enP g Q 4) :=
  ⟨by rw [enP_1, enP_1]; exact h.1, fun c hc => by rw [enP_v, enP_v, if_pos (by omega), if_pos hc, h.2 c hc]⟩
theorem t1P_T {G M : SG} {P Q : PG} (hs : SB G) (hP : PB G P) (hG : TG G M) (hT : TP P Q) (hn : NSp G) : TP (t1P G P) (t1P M Q) := by
  unfold t1P
  rw [hT.1]
  split
  · exact rdP_T hs hP hG hT hn
  · exact goP_T hT
theorem t2P_T {G M : SG} {P Q : PG} (hs : SB G) (hP : PB G P) (hG : TG G M) (hT : TP P Q) (hn : NSp G) : TP (t2P G P) (t2P M Q) := by
  have h := t1P_T hs hP hG hT hn
  refine ⟨?_, (hrP_T h).2⟩
  show un (un (t1P M Q).1 4 ((t1P M Q).1 4 + 1)) 2 ((t1P M Q).1 2 + 1) = un (un (t1P G P).1 4 ((t1P G P).1 4 + 1)) 2 ((t1P G P).1 2 + 1)
  rw [h.1]
theorem npP_T {G M : SG} {P Q : PG} (hG : M.2 = G.2) (hT : TP P Q) : TP (npP G P) (npP M Q) := by
  refine ⟨?_, hT.2⟩
  unfold npP
  dsimp only
  rw [hG, hT.1]
theorem erP_T {G M : SG} {P Q : PG} (hG : M.2 = G.2) (hT : TP P Q) : TP (erP G P) (erP M Q) := by
  have he := (enP_T (g := G.2.1) hT).2
  unfold erP
  rw [hG, hT.1]
  split
  · exact npP_T hG ⟨rfl, he⟩
  · exact ⟨rfl, he⟩
theorem tkP_T {G M : SG} {P Q : PG} (hs : SB G) (hP : PB G P) (hG : TG G M) (hT : TP P Q) (hn : NSp G) : TP (tkP G P) (tkP M Q) := by
  have h := t2P_T hs hP hG hT hn
  unfold tkP
  rw [h.1]
  split
  · exact erP_T hG.1 h
  · exact h
theorem tkN_T {G M : SG} {P Q : PG} (hs : SB G) (hP : PB G P) (hG : TG G M) (hT : TP P Q) (hn : NSp G) : ∀ n, TP (tkN G P n) (tkN M Q n)
  | 0 => hT
  | n + 1 => tkP_T hs (tkN_PB hs hP n) hG (tkN_T hs hP hG hT hn n) hn
section SYMA
variable {G M : SG} {P Q : PG}
theorem rtK_T (hs : SB G) (hP : PB G P) (hG : TG G M) (hT : TP P Q) (hn : NSp G) : ∀ m k, rtK M Q m k = rtK G P m k
  | 0, _ => rfl
  | m + 1, k => by rw [rtK, rtK, rtK_T hs hP hG hT hn m (k + 1), (tkN_T hs hP hG hT hn k).1, hT.1]
theorem siN_T (hs : SB G) (hP : PB G P) (hG : TG G M) (hT : TP P Q) (hn : NSp G) {c : Nat} (hc : c < 4) : ∀ n, siN M Q (3 - c) n = siN G P c n
  | 0 => rfl
  | n + 1 => by rw [siN, siN, siN_T hs hP hG hT hn hc n, (tkN_T hs hP hG hT hn (n + 1)).2 c hc]
theorem deN_T (hs : SB G) (hP : PB G P) (hG : TG G M) (hT : TP P Q) (hn : NSp G) {c : Nat} (hc : c < 4) : ∀ n, deN M Q (3 - c) n = deN G P c n
  | 0 => rfl
  | n + 1 => by rw [deN, deN, deN_T hs hP hG hT hn hc n, (tkN_T hs hP hG hT hn (n + 1)).2 c hc]
theorem uhK_T (hs : SB G) (hP : PB G P) (hG : TG G M) (hT : TP P Q) (hn : NSp G) {c x : Nat} (hc : c < 4) : ∀ m k, uhK M Q (3 - c) x m k = uhK G P c x m k
  | 0, _ => rfl
  | m + 1, k => by rw [uhK, uhK, uhK_T hs hP hG hT hn hc m (k + 1), (tkN_T hs hP hG hT hn (k + 1)).2 c hc]
theorem stP_T (hT : TP P Q) {c n t : Nat} (hc : c < 4) : TP (stP P c n t) (stP Q (3 - c) n t) := by
  refine ⟨hT.1, fun d hd => ?_⟩
  show uv Q.2 (3 - c) (un (un (Q.2 (3 - c)) 3 n) 2 t) (3 - d) = uv P.2 c (un (un (P.2 c) 3 n) 2 t) d
  by_cases e : d = c
  · rw [e, uv_eq, uv_eq, hT.2 c hc]
  · rw [uv_ne e, uv_ne (by omega), hT.2 d hd]
theorem cnt4_T {f g : Nat → Nat} (h : ∀ c, c < 4 → g (3 - c) = f c) : cnt g 4 = cnt f 4 := by
  have h0 : g 3 = f 0 := h 0 (by decide)
  have h1 : g 2 = f 1 := h 1 (by decide)
  have h2 : g 1 = f 2 := h 2 (by decide)
  have h3 : g 0 = f 3 := h 3 (by decide)
  show 0 + g 0 + g 1 + g 2 + g 3 = 0 + f 0 + f 1 + f 2 + f 3
  omega
theorem cntB_T {f g : Nat → Nat} : ∀ n, (∀ r, r < n → ∀ c, c < 4 → g (4 * r + (3 - c)) = f (4 * r + c)) → cnt g (4 * n) = cnt f (4 * n)
  | 0, _ => rfl
  | n + 1, h => by
    have ih := cntB_T n (fun r hr => h r (by omega))
    have h0 : g (4 * n + 3) = f (4 * n + 0) := h n (by omega) 0 (by decide)
    have h1 : g (4 * n + 2) = f (4 * n + 1) := h n (by omega) 1 (by decide)
    have h2 : g (4 * n + 1) = f (4 * n + 2) := h n (by omega) 2 (by decide)
    have h3 : g (4 * n + 0) = f (4 * n + 3) := h n (by omega) 3 (by decide)
    rw [show 4 * (n + 1) = 4 * n + 0 + 1 + 1 + 1 + 1 by omega]
    show cnt g (4 * n) + g (4 * n + 0) + g (4 * n + 1) + g (4 * n + 2) + g (4 * n + 3) = cnt f (4 * n) + f (4 * n + 0) + f (4 * n + 1) + f (4 * n + 2) + f (4 * n + 3)
    omega
theorem or5 {a x0 x1 x2 x3 : Nat} : a ||| x0 ||| x1 ||| x2 ||| x3 = a ||| x3 ||| x2 ||| x1 ||| x0 := by
  apply Nat.eq_of_testBit_eq
  intro j
  simp only [Nat.testBit_or]
  cases a.testBit j <;> cases x0.testBit j <;> cases x1.testBit j <;> cases x2.testBit j <;> cases x3.testBit j <;> rfl
theorem orNB_T {f g : Nat → Nat} : ∀ n, (∀ r, r < n → ∀ c, c < 4 → g (4 * r + (3 - c)) = f (4 * r + c)) → orN g (4 * n) = orN f (4 * n)
  | 0, _ => rfl
  | n + 1, h => by
    have ih := orNB_T n (fun r hr => h r (by omega))
    have h0 : g (4 * n + 3) = f (4 * n + 0) := h n (by omega) 0 (by decide)
    have h1 : g (4 * n + 2) = f (4 * n + 1) := h n (by omega) 1 (by decide)
    have h2 : g (4 * n + 1) = f (4 * n + 2) := h n (by omega) 2 (by decide)
    have h3 : g (4 * n + 0) = f (4 * n + 3) := h n (by omega) 3 (by decide)
    rw [show 4 * (n + 1) = 4 * n + 0 + 1 + 1 + 1 + 1 by omega]
    show orN g (4 * n) ||| g (4 * n + 0) ||| g (4 * n + 1) ||| g (4 * n + 2) ||| g (4 * n + 3) = orN f (4 * n) ||| f (4 * n + 0) ||| f (4 * n + 1) ||| f (4 * n + 2) ||| f (4 * n + 3)
    rw [ih, h0, h1, h2, h3]
    exact or5
theorem TG.blk (hG : TG G M) {p r c : Nat} (hp : p < 6) (hr : r < 8) (hc : c < 4) : M.1 (32 * p + (4 * r + (3 - c))) = G.1 (32 * p + (4 * r + c)) := by
  have h := hG.2 (8 * p + r) (by omega) c hc
  rw [show 32 * p + (4 * r + (3 - c)) = 4 * (8 * p + r) + (3 - c) by omega, show 32 * p + (4 * r + c) = 4 * (8 * p + r) + c by omega]
  exact h
theorem calledM_T (hs : SB G) (hG : TG G M) {p : Nat} (hp : p < 6) : calledM M p = calledM G p := by
  have hr := (hs.2.1 p hp).2
  unfold calledM
  rw [hG.1]
  refine orNB_T _ (fun r hr9 c hc => ?_)
  unfold maskN
  rw [hG.blk hp (by omega) hc]
theorem rchN_T (hs : SB G) (hG : TG G M) : ∀ n, rchN M n = rchN G n
  | 0 => by
    show (orderM M, 0) = (orderM G, 0)
    unfold orderM
    rw [hG.1]
  | n + 1 => by
    show rchS M (n % 6) (rchN M n) = rchS G (n % 6) (rchN G n)
    rw [rchN_T hs hG n]
    unfold rchS
    rw [calledM_T hs hG (by omega)]
theorem factP_T (hs : SB G) (hG : TG G M) {p w : Nat} (hp : p < 6) : factP M p w = factP G p w := by
  have hr := (hs.2.1 p hp).2
  have e1 : cnt (toneN M p) (4 * G.2.1 p) = cnt (toneN G p) (4 * G.2.1 p) := cntB_T _ (fun r hr9 c hc => by
    unfold toneN
    rw [hG.blk hp (by omega) hc])
  have e2 : cnt (callN M p) (4 * G.2.1 p) = cnt (callN G p) (4 * G.2.1 p) := cntB_T _ (fun r hr9 c hc => by
    unfold callN
    rw [hG.blk hp (by omega) hc])
  have e3 : playM M = playM G := by
    unfold playM
    rw [rchN_T hs hG]
  unfold factP
  rw [hG.1, e1, e2, e3]
end SYMA
/-! the states stay so -/
def TE (X M : ST) : Prop := TG X.1 M.1 ∧ TP X.2 M.2 ∧ NSp X.1
theorem TG_uc {G M : SG} {p r c : Nat} {x : Nat → Nat} (hp : p < 6) (hr : r < 8) (hc : c < 4) (h : TG G M) : TG (uc G.1 (cix p r c) x, G.2) (uc M.1 (cix p r (3 - c)) x, M.2) := by
  refine ⟨h.1, fun i hi d hd => ?_⟩
  show (if 4 * i + (3 - d) = cix p r (3 - c) then x else M.1 (4 * i + (3 - d))) = if 4 * i + d = cix p r c then x else G.1 (4 * i + d)
  rw [cix_4, cix_4]
  by_cases e : 4 * i + d = 4 * (8 * p + r) + c
  · rw [if_pos e, if_pos (by omega)]
  · rw [if_neg e, if_neg (by omega)]
    exact h.2 i hi d hd
theorem NS_uc {G : SG} {p r c : Nat} {x : Nat → Nat} (hc : c < 4) (hx : c ≠ 0 → x 2 ≠ 7) (h : NSp G) : NSp (uc G.1 (cix p r c) x, G.2) := by
  intro i hi d hd h0
  show (if 4 * i + d = cix p r c then x else G.1 (4 * i + d)) 2 ≠ 7
  rw [cix_4]
  split
  · exact hx (by omega)
  · exact h i hi d hd h0
theorem cel_2 {n v f x : Nat} : cel n v f x 2 = f := rfl
theorem TE_note {X M : ST} {p r c n v : Nat} (hp : p < 6) (hr : r < 8) (hc : c < 4) (h : TE X M) : TE (stNote X (cix p r c) n v) (stNote M (cix p r (3 - c)) n v) := by
  refine ⟨?_, h.2.1, NS_uc hc (fun h0 => ?_) h.2.2⟩
  · show TG (uc X.1.1 (cix p r c) (cel n v (X.1.1 (cix p r c) 2) (X.1.1 (cix p r c) 3)), X.1.2) (uc M.1.1 (cix p r (3 - c)) (cel n v (M.1.1 (cix p r (3 - c)) 2) (M.1.1 (cix p r (3 - c)) 3)), M.1.2)
    rw [h.1.cell hp hr hc]
    exact TG_uc hp hr hc h.1
  · rw [cel_2, cix_4]
    exact h.2.2 _ (by omega) c hc h0
theorem TE_eff {X M : ST} {p r c f x : Nat} (hp : p < 6) (hr : r < 8) (hc : c < 4) (hf : c ≠ 0 → f ≠ 7) (h : TE X M) : TE (stEff X (cix p r c) f x) (stEff M (cix p r (3 - c)) f x) := by
  refine ⟨?_, h.2.1, NS_uc hc (fun h0 => ?_) h.2.2⟩
  · show TG (uc X.1.1 (cix p r c) (cel (X.1.1 (cix p r c) 0) (X.1.1 (cix p r c) 1) f x), X.1.2) (uc M.1.1 (cix p r (3 - c)) (cel (M.1.1 (cix p r (3 - c)) 0) (M.1.1 (cix p r (3 - c)) 1) f x), M.1.2)
    rw [h.1.cell hp hr hc]
    exact TG_uc hp hr hc h.1
  · rw [cel_2]
    exact hf h0
theorem TE_rows {X M : ST} {p n : Nat} (h : TE X M) : TE (stRows X p n) (stRows M p n) := by
  refine ⟨⟨?_, h.1.2⟩, h.2.1, h.2.2⟩
  show (un M.1.2.1 p n, M.1.2.2) = (un X.1.2.1 p n, X.1.2.2)
  rw [h.1.1]
theorem TE_ord {X M : ST} {i p : Nat} (h : TE X M) : TE (stOrd X i p) (stOrd M i p) := by
  refine ⟨⟨?_, h.1.2⟩, h.2.1, h.2.2⟩
  show (M.1.2.1, un M.1.2.2.1 i p, max M.1.2.2.2 (i + 1)) = (X.1.2.1, un X.1.2.2.1 i p, max X.1.2.2.2 (i + 1))
  rw [h.1.1]
theorem TE_sho {X M : ST} (h : TE X M) : TE (stSho X) (stSho M) := by
  refine ⟨⟨?_, h.1.2⟩, h.2.1, h.2.2⟩
  show (M.1.2.1, M.1.2.2.1, M.1.2.2.2 - 1) = (X.1.2.1, X.1.2.2.1, X.1.2.2.2 - 1)
  rw [h.1.1]
theorem TE_play {X M : ST} {n : Nat} (hX : XB X) (h : TE X M) : TE (X.1, tkN X.1 X.2 n) (M.1, tkN M.1 M.2 n) := ⟨h.1, tkN_T hX.1 hX.2.1 h.1 h.2.1 h.2.2 n, h.2.2⟩
theorem TE_st {X M : ST} {c n t : Nat} (hc : c < 4) (h : TE X M) : TE (X.1, stP X.2 c n t) (M.1, stP M.2 (3 - c) n t) := ⟨h.1, stP_T h.2.1 hc, h.2.2⟩
/-! bounds -/
theorem SB_uc {G : SG} {i : Nat} {r : Nat → Nat} (h : SB G) (hr : RB r) : SB (uc G.1 i r, G.2) := by
  refine ⟨fun j hj => ?_, h.2⟩
  show RB (if j = i then r else G.1 j)
  split
  · exact hr
  · exact h.1 j hj
theorem B_note {X : ST} {i n v : Nat} (h : XB X) (hi : i < 192) (hn : n ≤ 61) (hv : v ≤ 15) : XB (stNote X i n v) := by
  have b1 := h.1.1 i hi
  unfold RB at b1
  exact ⟨SB_uc h.1 (cel_rb ⟨hn, hv, b1.2.2.1, b1.2.2.2⟩), h.2⟩
theorem B_eff {X : ST} {i n v : Nat} (h : XB X) (hi : i < 192) (hn : n ≤ 7) (hv : v ≤ 9) : XB (stEff X i n v) := by
  have b1 := h.1.1 i hi
  unfold RB at b1
  exact ⟨SB_uc h.1 (cel_rb ⟨b1.1, b1.2.1, hn, hv⟩), h.2⟩
theorem B_rows {X : ST} {p n : Nat} (h : XB X) (h1 : 1 ≤ n) (h8 : n ≤ 8) : XB (stRows X p n) := by
  refine ⟨⟨h.1.1, fun q hq => ?_, h.1.2.2⟩, h.2⟩
  show 1 ≤ un X.1.2.1 p n q ∧ un X.1.2.1 p n q ≤ 8
  by_cases e : q = p
  · rw [e, un_eq]; exact ⟨h1, h8⟩
  · rw [un_ne e]; exact h.1.2.1 q hq
theorem B_ord {X : ST} {i p : Nat} (h : XB X) (h8 : i < 8) (hp : p ≤ 5) : XB (stOrd X i p) := by
  have b1 := h.1.2.2
  have c1 := h.2.1.1
  refine ⟨⟨h.1.1, h.1.2.1, ?_, ?_, fun j hj => ?_⟩, ⟨?_, h.2.1.2⟩, h.2.2⟩
  · show 1 ≤ max X.1.2.2.2 (i + 1); omega
  · show max X.1.2.2.2 (i + 1) ≤ 8; omega
  · show un X.1.2.2.1 i p j ≤ 5
    by_cases e : j = i
    · rw [e, un_eq]; exact hp
    · rw [un_ne e]; exact b1.2.2 j hj
  · show X.2.1 0 < max X.1.2.2.2 (i + 1); omega
theorem B_sho {X : ST} (h : XB X) (h1 : X.1.2.2.2 ≠ 1) (h2 : X.2.1 0 ≠ X.1.2.2.2 - 1) : XB (stSho X) := by
  have b1 := h.1.2.2
  have c1 := h.2.1.1
  refine ⟨⟨h.1.1, h.1.2.1, ?_, ?_, b1.2.2⟩, ⟨?_, h.2.1.2⟩, h.2.2⟩
  · show 1 ≤ X.1.2.2.2 - 1; omega
  · show X.1.2.2.2 - 1 ≤ 8; omega
  · show X.2.1 0 < X.1.2.2.2 - 1; omega
theorem B_play {X : ST} {n : Nat} (h : XB X) (hn : X.2.1 4 + n ≤ 100000) : XB (X.1, tkN X.1 X.2 n) := by
  have h4 := tkN_4 (G := X.1) (P := X.2) n
  have h5 := h.2.2.2
  refine ⟨h.1, tkN_PB h.1 h.2.1 n, ?_, ?_⟩
  · show (tkN X.1 X.2 n).1 4 ≤ 100000; omega
  · show (tkN X.1 X.2 n).1 5 ≤ (tkN X.1 X.2 n).1 4; omega
theorem B_st {X : ST} {c n t : Nat} (h : XB X) (hc : c < 4) (hn : n ≤ 60) (ht : t ≤ 99) : XB (X.1, stP X.2 c n t) := ⟨h.1, stP_PB hc hn ht h.2.1, h.2.2⟩
theorem B_gb {X : ST} (h : XB X) : XB (X.1, gbP X.2) := ⟨h.1, gbP_PB h.1 h.2.1.2.2.2.2.2, Nat.zero_le _, Nat.le_refl _⟩
theorem svO_lt {o n : Nat} (h : o < 4) : svO o n < 4 := by unfold svO; split <;> omega
theorem svN_le {n : Nat} (h : n ≤ 4) : svN n + 1 ≤ 4 := by unfold svN; split <;> omega
theorem V0_VB : VB V0 ∧ FR V0 := ⟨by unfold VB V0; simp, fun j hj => by simp [V0] at hj⟩
theorem B_0 : XB S0 := by
  refine ⟨⟨fun i hi => eC_rb, fun p hp => ?_, ?_, ?_, fun i hi => ?_⟩, ⟨?_, ?_, ?_, ?_, ?_, fun c hc => V0_VB⟩, ?_, ?_⟩
  · show 1 ≤ 4 ∧ 4 ≤ 8; decide
  · show 1 ≤ 1; decide
  · show 1 ≤ 8; decide
  · show 0 ≤ 5; decide
  · show 0 < 1; decide
  · show 0 < 8; decide
  · show 0 < 8; decide
  · show 1 ≤ 3; decide
  · show 3 ≤ 8; decide
  · show 0 ≤ 100000; decide
  · show 0 ≤ 0; decide
theorem TE_0 : TE S0 S0 := by
  refine ⟨⟨rfl, fun i hi c hc => rfl⟩, ⟨rfl, fun c hc => rfl⟩, fun i hi c hc h0 => ?_⟩
  show eC 2 ≠ 7
  decide
/-- both players and their histories -/
def LPq (X : ST) (o n : Nat) (M : ST) (a b : Nat) : Prop := XB X ∧ XB M ∧ TE X M ∧ o < 4 ∧ n ≤ 4 ∧ a < 4 ∧ b ≤ 4
theorem LPq.v {X M : ST} {o n a b : Nat} (h : LPq X o n M a b) {k : Nat} : valF M k = valF X k := by
  unfold valF
  rw [h.2.2.1.1.1, h.2.2.1.2.1.1]
/-! what is sound in one player -/
theorem orN_bit {f : Nat → Nat} {i k : Nat} (hf : (f i).testBit k = true) : ∀ n, i < n → (orN f n).testBit k = true
  | 0, h => absurd h (Nat.not_lt_zero _)
  | n + 1, h => by
    show (orN f n ||| f n).testBit k = true
    rw [Nat.testBit_or]
    by_cases e : i = n
    · rw [← e, hf, Bool.or_true]
    · rw [orN_bit hf n (by omega), Bool.true_or]
theorem rchN_up {G : SG} {k : Nat} (h : (orderM G).testBit k = true) : ∀ n, (rchN G n).1.testBit k = true
  | 0 => h
  | n + 1 => by
    have ih := rchN_up h n
    show (rchS G (n % 6) (rchN G n)).1.testBit k = true
    unfold rchS
    split
    · dsimp only
      rw [Nat.testBit_or, ih, Bool.true_or]
    · exact ih
theorem fact_play {X : ST} (h : XB X) : factP X.1 (X.1.2.2.1 (X.2.1 0)) 4 = 1 := by
  show bP ((playM X.1).testBit (X.1.2.2.1 (X.2.1 0)) = true) = 1
  exact bP_t (rchN_up (orN_bit (f := fun i => 2 ^ X.1.2.2.1 i) (i := X.2.1 0) (by show (2 ^ X.1.2.2.1 (X.2.1 0)).testBit (X.1.2.2.1 (X.2.1 0)) = true; rw [Nat.testBit_two_pow]; exact decide_eq_true rfl) _ h.2.1.1) 36)
/-! a round's end -/
theorem tkP_5 {G : SG} {P : PG} (h : (tkP G P).1 5 ≠ P.1 5) : (tkP G P).1 5 = P.1 5 + 1 ∧ (tkP G P).1 0 = 0 ∧ (tkP G P).1 1 = 0 ∧ (tkP G P).1 2 = 0 := by
  obtain ⟨h4, h5⟩ := t1P_4 (G := G) (P := P)
  have e5 : (t2P G P).1 5 = P.1 5 := by unfold t2P; simp [un_at, h5]
  revert h
  unfold tkP
  split
  · unfold erP
    split
    · unfold npP
      split
      · intro _
        simp [un_at, e5]
      · intro h
        exact absurd (by simp [un_at, e5]) h
    · intro h
      exact absurd (by simp [un_at, e5]) h
  · intro h
    exact absurd e5 h
theorem rtK_ok {G : SG} {P : PG} : ∀ m k, 1 ≤ k → (∀ j, j < k → (tkN G P j).1 5 = P.1 5) → rtK G P m k ≠ 0 → 1 ≤ rtK G P m k ∧ (tkN G P (rtK G P m k)).1 5 = P.1 5 + 1 ∧ (tkN G P (rtK G P m k)).1 0 = 0 ∧ (tkN G P (rtK G P m k)).1 1 = 0 ∧ (tkN G P (rtK G P m k)).1 2 = 0
  | 0, _, _, _, h => absurd rfl h
  | m + 1, k, h1, hk, h => by
    revert h
    rw [rtK]
    by_cases e : (tkN G P k).1 5 = P.1 5
    · rw [if_pos e]
      exact rtK_ok m (k + 1) (by omega) (fun j hj => by
        by_cases e2 : j = k
        · rw [e2]; exact e
        · exact hk j (by omega))
    · rw [if_neg e]
      intro _
      obtain ⟨j, rfl⟩ : ∃ j, k = j + 1 := ⟨k - 1, by omega⟩
      have ej := hk j (by omega)
      have h9 : (tkP G (tkN G P j)).1 5 ≠ (tkN G P j).1 5 := by rw [ej]; exact e
      have := tkP_5 h9
      rw [ej] at this
      exact ⟨h1, this⟩
theorem rtK_le {G : SG} {P : PG} : ∀ m k, rtK G P m k ≤ k + m
  | 0, k => Nat.zero_le _
  | m + 1, k => by
    rw [rtK]
    split
    · have := rtK_le (G := G) (P := P) m (k + 1)
      omega
    · omega
