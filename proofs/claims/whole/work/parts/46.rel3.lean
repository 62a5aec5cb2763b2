/-! agreeing villages: what is asked; the model's ranges -/
theorem smL_cg {f g : Fn} : ∀ {n : Nat}, (∀ j, j < n → f j = g j) → smL f n = smL g n
  | 0, _ => rfl
  | n + 1, h => by rw [smL, smL, smL_cg (fun j hj => h j (by omega)), h n (by omega)]
theorem smL_add (g : Fn) (a : Nat) : ∀ b, smL g (a + b) = smL g a + smL (fun q => g (a + q)) b
  | 0 => by rw [Nat.add_zero]; exact (Int32.add_zero _).symm
  | b + 1 => by
    show smL g (a + b) + g (a + b) = smL g a + (smL (fun q => g (a + q)) b + g (a + b))
    rw [smL_add g a b, Int32.add_assoc]
theorem smL_z {g : Fn} : ∀ {n : Nat}, (∀ j, j < n → g j = 0) → smL g n = 0
  | 0, _ => rfl
  | n + 1, h => by rw [smL, smL_z (fun j hj => h j (by omega)), h n (by omega)]; rfl
theorem sw_R {V U : Vs} (R : RV V U) : ∀ n, n ≤ 8 → smL (fun q => flat U (33 + q)) (84 * n) = swL V n
  | 0, _ => rfl
  | n + 1, hn => by
    have e : smL (fun q => (fun q => flat U (33 + q)) (84 * n + q)) 84 = smL (U n) 84 := smL_cg (fun j hj => by
      show flat U (33 + (84 * n + j)) = U n j
      rw [show 33 + (84 * n + j) = 33 + 84 * n + j by omega, fl_w hj])
    rw [show 84 * (n + 1) = 84 * n + 84 by omega, smL_add, sw_R R n (by omega), e, swL]
    by_cases hp : V 10 n = 1
    · rw [if_pos hp, R.row (by omega) hp]
    · rw [if_neg hp, smL_z (fun j hj => R.zw (by omega) hp hj), Int32.add_zero]
theorem mu_R {V U : Vs} (R : RV V U) {j : Nat} (hj : j < 7) : muS U j = nuS V j := by
  unfold muS nuS
  rw [cnN_R R (Nat.le_refl _), show (672 : Nat) = 84 * 8 from rfl, sw_R R 8 (Nat.le_refl _)]
  by_cases h0 : j = 0
  · rw [if_pos h0, if_pos h0]
  · rw [if_neg h0, if_neg h0]
    by_cases h6 : j = 6
    · rw [if_pos h6, if_pos h6]
    · rw [if_neg h6, if_neg h6, R.p9 (by omega)]
theorem ns_R {V U : Vs} (R : RV V U) {k j : Nat} (hk : k < 8) (hp : V 10 k = 1) : nsS U k j = nsS V k j := by
  unfold nsS
  rw [R.row hk hp, R.p11 hk hp, R.p12 hk hp, R.p8]
theorem ag_cg {V U : Vs} {a b : Nat} (h1 : U a = V a) (h2 : U b = V b) : ∀ n, agN U a b n = agN V a b n
  | 0 => rfl
  | n + 1 => by rw [agN, agN, ag_cg h1 h2 n, h1, h2]
theorem un_cg {V U : Vs} {a b : Nat} (h1 : U a = V a) (h2 : U b = V b) : ∀ n, unN U a b n = unN V a b n
  | 0 => rfl
  | n + 1 => by
    rw [unN, unN, un_cg h1 h2 n]
    unfold unT
    rw [h1, h2]
theorem cu_R {V U : Vs} (R : RV V U) {m w : Nat} : ∀ n, n ≤ 8 → cuN U m w n = cuN V m w n
  | 0, _ => rfl
  | n + 1, hn => by
    rw [cuN, cuN, cu_R R n (by omega), R.p10 (by omega)]
    by_cases hp : V 10 n = 1
    · rw [R.row (by omega) hp]
    · rw [if_neg (fun z => hp z.1), if_neg (fun z => hp z.1)]
theorem cm_R {V U : Vs} (R : RV V U) {m : Nat} : cmS U m = cmS V m := by
  unfold cmS
  rw [wfL_cg (fun w _ => congrArg nI (cu_R R 8 (Nat.le_refl _)))]
theorem bs_R {V U : Vs} (R : RV V U) {h : Nat} (hh : h < 8) (hph : V 10 h = 1) : ∀ n, n ≤ 8 → bsL U h n = bsL V h n ∧ ∀ y, bsL V h n = some y → V 10 y = 1
  | 0, _ => ⟨rfl, fun _ z => by cases z⟩
  | n + 1, hn => by
    obtain ⟨i1, i2⟩ := bs_R R hh hph n (by omega)
    by_cases hp : V 10 n = 1
    · by_cases hq : n = h
      · rw [bsL_sk (Or.inr hq), bsL_sk (Or.inr hq)]; exact ⟨i1, i2⟩
      · have u : U 10 n = 1 := by rw [R.p10 (by omega)]; exact hp
        cases hy : bsL V h n with
        | none =>
          rw [bsL_n hp hq hy, bsL_n u hq (i1.trans hy)]
          exact ⟨rfl, fun y z => by cases z; exact hp⟩
        | some z =>
          have hz := i2 z hy
          have hz8 := bsL_in hy
          have e1 : unN U n h 6 = unN V n h 6 := un_cg (R.row (by omega) hp) (R.row hh hph) 6
          have e2 : unN U z h 6 = unN V z h 6 := un_cg (R.row (by omega) hz) (R.row hh hph) 6
          by_cases h4 : unN V n h 6 ≤ unN V z h 6
          · rw [bsL_k hp hq hy h4, bsL_k u hq (i1.trans hy) (by rw [e1, e2]; exact h4)]
            exact ⟨rfl, fun y q => by cases q; exact hz⟩
          · rw [bsL_u hp hq hy h4, bsL_u u hq (i1.trans hy) (by rw [e1, e2]; exact h4)]
            exact ⟨rfl, fun y q => by cases q; exact hp⟩
    · rw [bsL_sk (Or.inl hp), bsL_sk (Or.inl (by rw [R.p10 (by omega)]; exact hp))]
      exact ⟨i1, i2⟩
theorem im_R {V U : Vs} (R : RV V U) {k1 k2 m j : Nat} (h1 : k1 < 8) (h2 : k2 < 8) (p1 : V 10 k1 = 1) (p2 : V 10 k2 = 1) : imS U k1 k2 m j = imS V k1 k2 m j := by
  have e := (mt1_R R (m := m) h1 h2 p1 p2).2
  have Rm := mtV_R R (m := m) h1 h2 p1 p2
  have e10 : mtV V k1 k2 m 10 = V 10 := mtV_r (by omega) (by omega) (by decide) (by decide)
  unfold imS
  rw [e, ag_cg (Rm.row h1 (by rw [e10]; exact p1)) (Rm.row h2 (by rw [e10]; exact p2)) 6]
/-- the agreement, counted by words and by meanings -/
def awX (V : Vs) (a b n : Nat) : Nat → Nat
  | 0 => 0
  | w + 1 => awX V a b n w + (if wfS (V a) n = some w ∧ wfS (V b) n = some w then 1 else 0)
theorem awX_e {V : Vs} {a b n : Nat} : ∀ W, awX V a b n W = if ∃ w, w < W ∧ wfS (V a) n = some w ∧ wfS (V b) n = some w then 1 else 0
  | 0 => by
    rw [if_neg (by rintro ⟨w, h, -⟩; omega)]
    rfl
  | W + 1 => by
    rw [awX, awX_e W]
    by_cases h : wfS (V a) n = some W ∧ wfS (V b) n = some W
    · rw [if_pos h, if_pos (show ∃ w, w < W + 1 ∧ wfS (V a) n = some w ∧ wfS (V b) n = some w from ⟨W, by omega, h⟩), if_neg]
      rintro ⟨w, h1, h2, -⟩
      rw [h.1] at h2
      cases h2
      omega
    · rw [if_neg h]
      by_cases g : ∃ w, w < W ∧ wfS (V a) n = some w ∧ wfS (V b) n = some w
      · rw [if_pos g, if_pos]
        obtain ⟨w, h1, h2⟩ := g
        exact ⟨w, by omega, h2⟩
      · rw [if_neg g, if_neg]
        rintro ⟨w, h1, h2⟩
        by_cases e : w = W
        · subst e; exact h h2
        · exact g ⟨w, by omega, h2⟩
theorem aw_s {V : Vs} {a b : Nat} : ∀ W, awN V a b W = awX V a b 0 W + awX V a b 1 W + awX V a b 2 W + awX V a b 3 W + awX V a b 4 W + awX V a b 5 W
  | 0 => rfl
  | W + 1 => by
    have e : awI V a b W 6 = 0 + (if wfS (V a) 0 = some W ∧ wfS (V b) 0 = some W then 1 else 0) + (if wfS (V a) 1 = some W ∧ wfS (V b) 1 = some W then 1 else 0) + (if wfS (V a) 2 = some W ∧ wfS (V b) 2 = some W then 1 else 0) + (if wfS (V a) 3 = some W ∧ wfS (V b) 3 = some W then 1 else 0) + (if wfS (V a) 4 = some W ∧ wfS (V b) 4 = some W then 1 else 0) + (if wfS (V a) 5 = some W ∧ wfS (V b) 5 = some W then 1 else 0) := rfl
    rw [awN, aw_s W, e, awX, awX, awX, awX, awX, awX]
    omega
theorem aw_t {V : Vs} {a b n : Nat} : awX V a b n 14 = if wfS (V a) n ≠ none ∧ wfS (V a) n = wfS (V b) n then 1 else 0 := by
  rw [awX_e]
  by_cases g : ∃ w, w < 14 ∧ wfS (V a) n = some w ∧ wfS (V b) n = some w
  · rw [if_pos g]
    obtain ⟨w, -, h1, h2⟩ := g
    rw [if_pos]
    rw [h1, h2]
    exact ⟨by simp, rfl⟩
  · rw [if_neg g, if_neg]
    rintro ⟨h1, h2⟩
    cases h : wfS (V a) n with
    | none => exact h1 h
    | some w => exact g ⟨w, wfS_in h, h, by rw [← h2]; exact h⟩
theorem aw_e {V : Vs} {a b : Nat} : awN V a b 14 = agN V a b 6 := by
  rw [aw_s, aw_t, aw_t, aw_t, aw_t, aw_t, aw_t]
  have e : agN V a b 6 = 0 + (if wfS (V a) 0 ≠ none ∧ wfS (V a) 0 = wfS (V b) 0 then 1 else 0) + (if wfS (V a) 1 ≠ none ∧ wfS (V a) 1 = wfS (V b) 1 then 1 else 0) + (if wfS (V a) 2 ≠ none ∧ wfS (V a) 2 = wfS (V b) 2 then 1 else 0) + (if wfS (V a) 3 ≠ none ∧ wfS (V a) 3 = wfS (V b) 3 then 1 else 0) + (if wfS (V a) 4 ≠ none ∧ wfS (V a) 4 = wfS (V b) 4 then 1 else 0) + (if wfS (V a) 5 ≠ none ∧ wfS (V a) 5 = wfS (V b) 5 then 1 else 0) := rfl
  rw [e, Nat.zero_add]
/-- the digest -/
theorem dgA_R {V U : Vs} (R : RV V U) {h : Int64} : ∀ n, n ≤ 7 → dmA U h n = dgA V h n
  | 0, _ => rfl
  | n + 1, hn => by rw [dmA, dgA, dgA_R R n (by omega), mu_R R (by omega)]
theorem dgB_R {V U : Vs} (R : RV V U) {h : Int64} : ∀ n, dgB U h n = dgB V h n
  | 0 => rfl
  | n + 1 => by rw [dgB, dgB, dgB_R R n, R.p8]
theorem dgS1_R {V U : Vs} (R : RV V U) {k : Nat} (hk : k < 8) (hp : V 10 k = 1) {h : Int64} : ∀ n, dgS1 U k h n = dgS1 V k h n
  | 0 => rfl
  | n + 1 => by rw [dgS1, dgS1, dgS1_R R hk hp n, ns_R R hk hp]
theorem dgS2_R {V U : Vs} (R : RV V U) {k : Nat} (hk : k < 8) (hp : V 10 k = 1) {h : Int64} : ∀ n, dgS2 U k h n = dgS2 V k h n
  | 0 => rfl
  | n + 1 => by rw [dgS2, dgS2, dgS2_R R hk hp n, R.row hk hp]
theorem dgC_R {V U : Vs} (R : RV V U) {h : Int64} : ∀ n, n ≤ 8 → dgC U h n = dgC V h n
  | 0, _ => rfl
  | n + 1, hn => by
    rw [dgC, dgC, dgC_R R n (by omega), dgS, dgS, R.p10 (by omega)]
    by_cases hp : V 10 n = 1
    · rw [if_pos hp, if_pos hp, dgS1_R R (by omega) hp, dgS2_R R (by omega) hp]
    · rw [if_neg hp, if_neg hp]
theorem dgD_R {V U : Vs} (R : RV V U) {h : Int64} : ∀ n, dgD U h n = dgD V h n
  | 0 => rfl
  | n + 1 => by rw [dgD, dgD, dgD_R R n, cm_R R]
theorem dgP_R {V U : Vs} (R : RV V U) {k : Nat} (hk : k < 8) (hp : V 10 k = 1) {h : Int64} : ∀ t, k + t < 8 → dgP U k h t = dgP V k h t
  | 0, _ => rfl
  | t + 1, ht => by
    rw [dgP, dgP, dgP_R R hk hp t (by omega), R.p10 (by omega)]
    by_cases h2 : V 10 (k + 1 + t) = 1
    · rw [if_pos h2, if_pos h2, ag_cg (R.row hk hp) (R.row (by omega) h2), un_cg (R.row hk hp) (R.row (by omega) h2)]
    · rw [if_neg h2, if_neg h2]
theorem dgE_R {V U : Vs} (R : RV V U) {h : Int64} : ∀ n, n ≤ 8 → dgE U h n = dgE V h n
  | 0, _ => rfl
  | n + 1, hn => by
    rw [dgE, dgE, dgE_R R n (by omega), dgQ, dgQ, R.p10 (by omega)]
    by_cases hp : V 10 n = 1
    · rw [if_pos hp, if_pos hp, dgP_R R (by omega) hp _ (by omega)]
    · rw [if_neg hp, if_neg hp]
theorem dg_R {V U : Vs} (R : RV V U) : dmV U = dgV V (usC V 6) := by
  unfold dmV dgV
  rw [dgA_R R 7 (Nat.le_refl _), dgB_R R, dgC_R R 8 (Nat.le_refl _), dgD_R R, dgE_R (us_R R 6) 8 (Nat.le_refl _)]
/-- the model's ranges are kept -/
def IU (U : Vs) : Prop := rgW U ∧ sok U
theorem rg_up {U : Vs} {r j : Nat} {x : Int32} (hr : 9 ≤ r) (h : rgW U) : rgW (up2 U r j x) := by
  refine ⟨fun t ht q hq => ?_, ?_⟩
  · rw [up2_r (show t ≠ r by omega)]; exact h.1 t ht q hq
  · rw [up2_r (show 8 ≠ r by omega)]; exact h.2
theorem sk_up {U : Vs} {r j : Nat} {x : Int32} (hr : ¬ (r = 9 ∧ j = 0)) (h : sok U) : sok (up2 U r j x) := by
  obtain ⟨q, hq, e⟩ := h
  exact ⟨q, hq, by rw [up2_n (by omega)]; exact e⟩
theorem iu_up {U : Vs} {r j : Nat} {x : Int32} (hr : 9 ≤ r) (h2 : ¬ (r = 9 ∧ j = 0)) (h : IU U) : IU (up2 U r j x) := ⟨rg_up hr h.1, sk_up h2 h.2⟩
theorem rg_of {U U2 : Vs} (h : rgW U) (h8 : U2 8 = U 8) (hc : ∀ t, t < 8 → ∀ j, j < 84 → (∃ x, U2 t j = clS x) ∨ U2 t j = U t j) : rgW U2 := by
  refine ⟨fun t ht j hj => ?_, by rw [h8]; exact h.2⟩
  rcases hc t ht j hj with ⟨x, e⟩ | e
  · rw [e, cl_cl]
  · rw [e]; exact h.1 t ht j hj
theorem rg_pr {U : Vs} {k m w : Nat} {a x : Int32} (hk : k < 8) (h : rgW U) : rgW (prS U k m w a x) := by
  refine rg_of h (prS_r (by omega)) (fun t _ j _ => ?_)
  unfold prS prL
  by_cases h1 : t = k ∧ j = 14 * m + w
  · rw [if_pos h1]; exact Or.inl ⟨_, rfl⟩
  · rw [if_neg h1]
    by_cases h2 : t = k ∧ 14 * m ≤ j ∧ j < 14 * m + 14
    · rw [if_pos h2]; exact Or.inl ⟨_, rfl⟩
    · rw [if_neg h2]; exact Or.inr rfl
theorem rg_fm {U : Vs} {k m w : Nat} {x : Int32} (hk : k < 8) (h : rgW U) : rgW (fmS U k m w x) := by
  refine rg_of h (fmS_r (by omega)) (fun t _ j _ => ?_)
  unfold fmS fmL
  by_cases h1 : t = k ∧ j % 14 = w ∧ j / 14 < 6 ∧ j / 14 ≠ m
  · rw [if_pos h1]; exact Or.inl ⟨_, rfl⟩
  · rw [if_neg h1]; exact Or.inr rfl
theorem rg_w {U : Vs} {k q : Nat} {x : Int32} (hk : k < 8) (hx : clS x = x) (h : rgW U) : rgW (up2 U k q x) := by
  refine rg_of h (up2_r (by omega)) (fun t _ j _ => ?_)
  by_cases h1 : t = k ∧ j = q
  · rw [h1.1, h1.2, up2_s]; exact Or.inl ⟨x, hx.symm⟩
  · rw [up2_n h1]; exact Or.inr rfl
theorem rg_ch {U : Vs} {k m w : Nat} {d : Int32} (hk : k < 8) (h : rgW U) : rgW (chS U k m w d) := rg_w hk (cl_cl _) h
theorem rg_dr {U : Vs} (h : rgW U) : rgW (drV U) := rg_up (Nat.le_refl _) h
theorem rg_mt {U : Vs} {k1 k2 m : Nat} (h1 : k1 < 8) (h2 : k2 < 8) (h : rgW U) : rgW (mtV U k1 k2 m) := by
  have a : rgW (wdN U k1 m).1 := by
    unfold wdN
    split
    · exact rg_dr h
    · exact h
  have b : rgW (mt1 U k1 k2 m).1 := by
    dsimp only [mt1]
    generalize (wdN U k1 m).1 = A at a
    unfold hdN
    split
    · exact rg_dr a
    · exact a
  unfold mtV
  generalize (mt1 U k1 k2 m).1 = A at b
  have c : rgW (mtC A k1 k2) := rg_up (by decide) (rg_up (by decide) (rg_up (by decide) b))
  unfold mtF
  split
  · exact rg_fm h2 (rg_pr h2 (rg_pr h1 (rg_up (by decide) c)))
  · exact rg_ch h2 (rg_ch h2 (rg_ch h1 c))
theorem iu_mt {U : Vs} {k1 k2 m : Nat} (h1 : k1 < 8) (h2 : k2 < 8) (h : IU U) : IU (mtV U k1 k2 m) := ⟨rg_mt h1 h2 h.1, mtV_ok h1 h2 h.2⟩
theorem iu_ch {U : Vs} {c : Nat} (hc : cnN (U 10) 8 = c) (h2 : 2 ≤ c) (h : IU U) : ∀ n, IU (chL U c n)
  | 0 => h
  | n + 1 => by
    have i := iu_ch hc h2 h n
    have f := (chL_f hc h2 h.2 n).2 10 (by decide) (by decide) (by decide)
    obtain ⟨⟨f1, -⟩, ⟨f5, -⟩, -⟩ := ch_f (W := chL U c n) (by rw [f]; exact hc) h2
    rw [chL, chT]
    exact iu_mt f1 f5 ⟨rg_dr (rg_dr (rg_dr i.1)), drV_ok⟩
theorem by90 {W : Vs} : ∀ n, n ≤ 8 → byL W n 9 0 = W 9 0
  | 0, _ => rfl
  | n + 1, hn => by
    rw [byL]
    unfold byK
    split
    · rw [up2_n (by omega), blS_q (by omega) (by decide) (by decide), by90 n (by omega)]
    · exact by90 n (by omega)
theorem iu_yr {U : Vs} (h : IU U) : ∀ n, IU (yrL U n)
  | 0 => h
  | n + 1 => by
    refine ⟨yrL_rg h.1 (n + 1), ?_⟩
    obtain ⟨q, hq, e⟩ := (iu_yr h n).2
    refine ⟨q, hq, ?_⟩
    show yrS (yrL U n) 9 0 = nI q
    unfold yrS
    rw [by90 8 (Nat.le_refl _), agL_10 (by decide), up2_n (by omega), e]
theorem iu_go {U : Vs} {q : Nat} (hq : q < 8) (h : IU U) : IU (goU U q) := by
  have g : IU (up2 (up2 (up2 U 10 q 0) 11 q 0) 12 q 0) := iu_up (by decide) (by omega) (iu_up (by decide) (by omega) (iu_up (by decide) (by omega) h))
  have e : ∀ r, r ≠ q → goU U q r = up2 (up2 (up2 U 10 q 0) 11 q 0) 12 q 0 r := fun r hr => funext fun j => if_neg (fun z => hr z.1)
  refine ⟨rg_of g.1 (e 8 (by omega)) (fun t _ j _ => ?_), ?_⟩
  · unfold goU zwL
    by_cases h1 : t = q ∧ j < 84
    · rw [if_pos h1]; exact Or.inl ⟨0, by decide⟩
    · rw [if_neg h1]; exact Or.inr rfl
  · obtain ⟨p, hp, e2⟩ := g.2
    exact ⟨p, hp, by rw [e 9 (by omega)]; exact e2⟩
theorem iu_gv {n : Nat} {tx : Fn} : ∀ (L : List (Nat × Nat × Nat × Int32)) (a : Nat) (U : Vs), HL n tx L a → IU U → IU (gvS U L).1
  | [], _, _, h, _ => h.elim
  | (k, m, w, v) :: L, a, U, h, hU => by
    obtain ⟨e, H, hc⟩ := h
    by_cases hp : U 10 k = 1
    · rw [gvS_t hp]
      have i : IU (up2 U k (14 * m + w) v) := ⟨rg_w H.h3 H.h9 hU.1, sk_up (by have := H.h3; omega) hU.2⟩
      rcases hc with ⟨-, rfl⟩ | ⟨-, -, h3⟩
      · exact i
      · exact iu_gv L (e + 1) _ h3 i
    · rw [gvS_f hp]; exact hU
