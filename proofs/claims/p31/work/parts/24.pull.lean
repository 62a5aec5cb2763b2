/-! lemmas of the village, as whole has them -/
theorem cl_lo {v : Int32} (h : ¬ 0 ≤ v) : clS v = 0 := by
  unfold clS
  have h1 : v < 0 := Int32.not_le.mp h
  have h2 : v < 99 := Int32.lt_trans h1 (by decide)
  rw [if_pos h2, if_neg (fun z => h (Int32.le_of_lt z))]
theorem cl_mid {v : Int32} (h : 0 ≤ v) (h2 : v ≤ 99) : clS v = v := by
  unfold clS
  by_cases e : v < 99
  · rw [if_pos e]
    by_cases e2 : 0 < v
    · rw [if_pos e2]
    · rw [if_neg e2]; exact Int32.le_antisymm h (Int32.not_lt.mp e2)
  · rw [if_neg e, if_pos (by decide)]; exact Int32.le_antisymm (Int32.not_lt.mp e) h2
theorem cl_hi {v : Int32} (h2 : ¬ v ≤ 99) : clS v = 99 := by
  unfold clS
  have e : ¬ v < 99 := fun z => h2 (Int32.le_of_lt z)
  rw [if_neg e, if_pos (by decide)]
theorem cl_rg (x : Int32) : 0 ≤ clS x ∧ clS x ≤ 99 := by
  by_cases h : 0 ≤ x
  · by_cases h2 : x ≤ 99
    · rw [cl_mid h h2]; exact ⟨h, h2⟩
    · rw [cl_hi h2]; exact ⟨by decide, by decide⟩
  · rw [cl_lo h]; exact ⟨by decide, by decide⟩
theorem cl_cl (x : Int32) : clS (clS x) = clS x := cl_mid (cl_rg x).1 (cl_rg x).2
theorem cl_n (x : Int32) : ∃ a, a ≤ 99 ∧ clS x = nI a := by
  have h := cl_rg x
  rcases pk_ix (clS x) (n := 100) (by decide) with h1 | h1 | ⟨a, h1, h2⟩
  · exact absurd h1 (Int32.not_lt.mpr h.1)
  · exact absurd (Int32.le_trans h1 h.2) (by decide)
  · exact ⟨a, by omega, h2⟩
theorem cl_nI {a : Nat} (h : a ≤ 99) : clS (nI a) = nI a := cl_mid (nI_pos' (by omega)) (nI_le (b := 99) h (by decide))
/-- weights and share are in their ranges -/
def rgW (U : Vs) : Prop := (∀ t, t < 8 → ∀ j, j < 84 → clS (U t j) = U t j) ∧ ∃ b, b ≤ 100 ∧ U 8 3 = nI b
theorem rg_sh {U : Vs} (h : rgW U) {t j : Nat} (ht : t < 8) (hj : j < 84) : clS (U t j * U 8 3 / 100) = U t j * U 8 3 / 100 := by
  obtain ⟨h1, b, hb, e⟩ := h
  obtain ⟨a, ha, e2⟩ := cl_n (U t j)
  rw [h1 t ht j hj] at e2
  have hab : a * b ≤ 99 * 100 := Nat.mul_le_mul ha hb
  rw [e, e2, pk_mul, show (100 : Int32) = nI 100 from rfl, pk_div (by omega) (by decide) (by decide)]
  exact cl_nI (by omega)
theorem blS_q {U : Vs} {c r : Nat} {t : Option Nat} {sh : Int32} (h : r ≠ c) (h1 : r ≠ 11) (h2 : r ≠ 12) : blS U c t sh r = U r := by
  funext j
  unfold blS blL
  rw [if_neg (fun z => h1 z.1), if_neg (fun z => h2 z.1), if_neg (fun z => h z.1)]
theorem byK_rg {W : Vs} {i : Nat} (hi : i < 8) (h : rgW W) : rgW (byK W i) := by
  unfold byK
  by_cases hc : W 10 i = 1 ∧ ¬ W 11 i ≤ W 8 2
  · rw [if_pos hc]
    refine ⟨fun t ht j hj => ?_, ?_⟩
    · rw [up2_r (show t ≠ 9 by omega)]
      unfold blS blL
      rw [if_neg (by omega), if_neg (by omega)]
      by_cases h3 : t = i ∧ j < 84
      · rw [if_pos h3, cl_cl]
      · rw [if_neg h3]; exact h.1 t ht j hj
    · rw [up2_r (show (8 : Nat) ≠ 9 by decide), blS_q (by omega) (by decide) (by decide)]
      exact h.2
  · rw [if_neg hc]; exact h
theorem agL_rg {W : Vs} {i : Nat} (h : rgW W) : rgW (agL W i) := by
  refine ⟨fun t ht j hj => ?_, ?_⟩
  · rw [agL_10 (show t ≠ 11 by omega)]; exact h.1 t ht j hj
  · rw [agL_10 (show (8 : Nat) ≠ 11 by decide)]; exact h.2
theorem byL_rg {W : Vs} (h : rgW W) : ∀ n, n ≤ 8 → rgW (byL W n)
  | 0, _ => h
  | n + 1, hn => byK_rg (by omega) (byL_rg h n (by omega))
theorem yrL_rg {U : Vs} (h : rgW U) : ∀ n, rgW (yrL U n)
  | 0 => h
  | n + 1 => by
    have g := yrL_rg h n
    show rgW (yrS (yrL U n))
    unfold yrS
    refine byL_rg (agL_rg ⟨fun t ht j hj => ?_, ?_⟩) 8 (Nat.le_refl _)
    · rw [up2_r (show t ≠ 9 by omega)]; exact g.1 t ht j hj
    · rw [up2_r (show (8 : Nat) ≠ 9 by decide)]; exact g.2
def inS (r j : Nat) : Prop := r < 9 ∨ (r = 9 ∧ j < 5) ∨ ((r = 10 ∨ r = 11 ∨ r = 12) ∧ j < 8)
theorem cp_in {V W : Vs} {r j : Nat} (h : inS r j) : cpV V W r j = W r j := by
  rcases h with h | ⟨rfl, h⟩ | ⟨h, hj⟩
  · by_cases e8 : r = 8
    · subst e8; rw [cpV_8]
    · rw [cpV_w (by omega)]
  · exact cpV_9 h
  · exact cpV_k h hj
theorem smL_cg {f g : Fn} : ∀ {n : Nat}, (∀ j, j < n → f j = g j) → smL f n = smL g n
  | 0, _ => rfl
  | n + 1, h => by rw [smL, smL, smL_cg (fun j hj => h j (by omega)), h n (by omega)]
theorem smL_add (g : Fn) (a : Nat) : ∀ b, smL g (a + b) = smL g a + smL (fun q => g (a + q)) b
  | 0 => by rw [Nat.add_zero]; exact (Int32.add_zero _).symm
  | b + 1 => by
    show smL g (a + b) + g (a + b) = smL g a + (smL (fun q => g (a + q)) b + g (a + b))
    rw [smL_add g a b, Int32.add_assoc]
theorem smL_z {g : Fn} : ∀ {n : Nat}, (∀ j, j < n → g j = 0) → smL g n = 0
  | 0, _ => rfl
  | n + 1, h => by rw [smL, smL_z (fun j hj => h j (by omega)), h n (by omega)]; rfl
/-- the agreement, counted by words and by meanings -/
def awX (V : Vs) (a b n : Nat) : Nat → Nat
  | 0 => 0
  | w + 1 => awX V a b n w + (if wfS (V a) n = some w ∧ wfS (V b) n = some w then 1 else 0)
theorem awX_e {V : Vs} {a b n : Nat} : ∀ W, awX V a b n W = if ∃ w, w < W ∧ wfS (V a) n = some w ∧ wfS (V b) n = some w then 1 else 0
  | 0 => by
    rw [if_neg (by rintro ⟨w, h, -⟩; omega)]
    rfl
  | W + 1 => by
    rw [awX, awX_e W]
    by_cases h : wfS (V a) n = some W ∧ wfS (V b) n = some W
    · rw [if_pos h, if_pos (show ∃ w, w < W + 1 ∧ wfS (V a) n = some w ∧ wfS (V b) n = some w from ⟨W, by omega, h⟩), if_neg]
      rintro ⟨w, h1, h2, -⟩
      rw [h.1] at h2
      cases h2
      omega
    · rw [if_neg h]
      by_cases g : ∃ w, w < W ∧ wfS (V a) n = some w ∧ wfS (V b) n = some w
      · rw [if_pos g, if_pos]
        obtain ⟨w, h1, h2⟩ := g
        exact ⟨w, by omega, h2⟩
      · rw [if_neg g, if_neg]
        rintro ⟨w, h1, h2⟩
        by_cases e : w = W
        · subst e; exact h h2
        · exact g ⟨w, by omega, h2⟩
theorem aw_s {V : Vs} {a b : Nat} : ∀ W, awN V a b W = awX V a b 0 W + awX V a b 1 W + awX V a b 2 W + awX V a b 3 W + awX V a b 4 W + awX V a b 5 W
  | 0 => rfl
  | W + 1 => by
    have e : awI V a b W 6 = 0 + (if wfS (V a) 0 = some W ∧ wfS (V b) 0 = some W then 1 else 0) + (if wfS (V a) 1 = some W ∧ wfS (V b) 1 = some W then 1 else 0) + (if wfS (V a) 2 = some W ∧ wfS (V b) 2 = some W then 1 else 0) + (if wfS (V a) 3 = some W ∧ wfS (V b) 3 = some W then 1 else 0) + (if wfS (V a) 4 = some W ∧ wfS (V b) 4 = some W then 1 else 0) + (if wfS (V a) 5 = some W ∧ wfS (V b) 5 = some W then 1 else 0) := rfl
    rw [awN, aw_s W, e, awX, awX, awX, awX, awX, awX]
    omega
theorem aw_t {V : Vs} {a b n : Nat} : awX V a b n 14 = if wfS (V a) n ≠ none ∧ wfS (V a) n = wfS (V b) n then 1 else 0 := by
  rw [awX_e]
  by_cases g : ∃ w, w < 14 ∧ wfS (V a) n = some w ∧ wfS (V b) n = some w
  · rw [if_pos g]
    obtain ⟨w, -, h1, h2⟩ := g
    rw [if_pos]
    rw [h1, h2]
    exact ⟨by simp, rfl⟩
  · rw [if_neg g, if_neg]
    rintro ⟨h1, h2⟩
    cases h : wfS (V a) n with
    | none => exact h1 h
    | some w => exact g ⟨w, wfS_in h, h, by rw [← h2]; exact h⟩
theorem aw_e {V : Vs} {a b : Nat} : awN V a b 14 = agN V a b 6 := by
  rw [aw_s, aw_t, aw_t, aw_t, aw_t, aw_t, aw_t]
  have e : agN V a b 6 = 0 + (if wfS (V a) 0 ≠ none ∧ wfS (V a) 0 = wfS (V b) 0 then 1 else 0) + (if wfS (V a) 1 ≠ none ∧ wfS (V a) 1 = wfS (V b) 1 then 1 else 0) + (if wfS (V a) 2 ≠ none ∧ wfS (V a) 2 = wfS (V b) 2 then 1 else 0) + (if wfS (V a) 3 ≠ none ∧ wfS (V a) 3 = wfS (V b) 3 then 1 else 0) + (if wfS (V a) 4 ≠ none ∧ wfS (V a) 4 = wfS (V b) 4 then 1 else 0) + (if wfS (V a) 5 ≠ none ∧ wfS (V a) 5 = wfS (V b) 5 then 1 else 0) := rfl
  rw [e, Nat.zero_add]
/-- the model's ranges are kept -/
def IU (U : Vs) : Prop := rgW U ∧ sok U
theorem rg_up {U : Vs} {r j : Nat} {x : Int32} (hr : 9 ≤ r) (h : rgW U) : rgW (up2 U r j x) := by
  refine ⟨fun t ht q hq => ?_, ?_⟩
  · rw [up2_r (show t ≠ r by omega)]; exact h.1 t ht q hq
  · rw [up2_r (show 8 ≠ r by omega)]; exact h.2
theorem sk_up {U : Vs} {r j : Nat} {x : Int32} (hr : ¬ (r = 9 ∧ j = 0)) (h : sok U) : sok (up2 U r j x) := by
  obtain ⟨q, hq, e⟩ := h
  exact ⟨q, hq, by rw [up2_n (by omega)]; exact e⟩
theorem iu_up {U : Vs} {r j : Nat} {x : Int32} (hr : 9 ≤ r) (h2 : ¬ (r = 9 ∧ j = 0)) (h : IU U) : IU (up2 U r j x) := ⟨rg_up hr h.1, sk_up h2 h.2⟩
theorem rg_of {U U2 : Vs} (h : rgW U) (h8 : U2 8 = U 8) (hc : ∀ t, t < 8 → ∀ j, j < 84 → (∃ x, U2 t j = clS x) ∨ U2 t j = U t j) : rgW U2 := by
  refine ⟨fun t ht j hj => ?_, by rw [h8]; exact h.2⟩
  rcases hc t ht j hj with ⟨x, e⟩ | e
  · rw [e, cl_cl]
  · rw [e]; exact h.1 t ht j hj
theorem rg_pr {U : Vs} {k m w : Nat} {a x : Int32} (hk : k < 8) (h : rgW U) : rgW (prS U k m w a x) := by
  refine rg_of h (prS_r (by omega)) (fun t _ j _ => ?_)
  unfold prS prL
  by_cases h1 : t = k ∧ j = 14 * m + w
  · rw [if_pos h1]; exact Or.inl ⟨_, rfl⟩
  · rw [if_neg h1]
    by_cases h2 : t = k ∧ 14 * m ≤ j ∧ j < 14 * m + 14
    · rw [if_pos h2]; exact Or.inl ⟨_, rfl⟩
    · rw [if_neg h2]; exact Or.inr rfl
theorem rg_fm {U : Vs} {k m w : Nat} {x : Int32} (hk : k < 8) (h : rgW U) : rgW (fmS U k m w x) := by
  refine rg_of h (fmS_r (by omega)) (fun t _ j _ => ?_)
  unfold fmS fmL
  by_cases h1 : t = k ∧ j % 14 = w ∧ j / 14 < 6 ∧ j / 14 ≠ m
  · rw [if_pos h1]; exact Or.inl ⟨_, rfl⟩
  · rw [if_neg h1]; exact Or.inr rfl
theorem rg_w {U : Vs} {k q : Nat} {x : Int32} (hk : k < 8) (hx : clS x = x) (h : rgW U) : rgW (up2 U k q x) := by
  refine rg_of h (up2_r (by omega)) (fun t _ j _ => ?_)
  by_cases h1 : t = k ∧ j = q
  · rw [h1.1, h1.2, up2_s]; exact Or.inl ⟨x, hx.symm⟩
  · rw [up2_n h1]; exact Or.inr rfl
theorem rg_ch {U : Vs} {k m w : Nat} {d : Int32} (hk : k < 8) (h : rgW U) : rgW (chS U k m w d) := rg_w hk (cl_cl _) h
theorem rg_dr {U : Vs} (h : rgW U) : rgW (drV U) := rg_up (Nat.le_refl _) h
theorem rg_mt {U : Vs} {k1 k2 m : Nat} (h1 : k1 < 8) (h2 : k2 < 8) (h : rgW U) : rgW (mtV U k1 k2 m) := by
  have a : rgW (wdN U k1 m).1 := by
    unfold wdN
    split
    · exact rg_dr h
    · exact h
  have b : rgW (mt1 U k1 k2 m).1 := by
    dsimp only [mt1]
    generalize (wdN U k1 m).1 = A at a
    unfold hdN
    split
    · exact rg_dr a
    · exact a
  unfold mtV
  generalize (mt1 U k1 k2 m).1 = A at b
  have c : rgW (mtC A k1 k2) := rg_up (by decide) (rg_up (by decide) (rg_up (by decide) b))
  unfold mtF
  split
  · exact rg_fm h2 (rg_pr h2 (rg_pr h1 (rg_up (by decide) c)))
  · exact rg_ch h2 (rg_ch h2 (rg_ch h1 c))
theorem iu_mt {U : Vs} {k1 k2 m : Nat} (h1 : k1 < 8) (h2 : k2 < 8) (h : IU U) : IU (mtV U k1 k2 m) := ⟨rg_mt h1 h2 h.1, mtV_ok h1 h2 h.2⟩
theorem by90 {W : Vs} : ∀ n, n ≤ 8 → byL W n 9 0 = W 9 0
  | 0, _ => rfl
  | n + 1, hn => by
    rw [byL]
    unfold byK
    split
    · rw [up2_n (by omega), blS_q (by omega) (by decide) (by decide), by90 n (by omega)]
    · exact by90 n (by omega)
theorem iu_yr {U : Vs} (h : IU U) : ∀ n, IU (yrL U n)
  | 0 => h
  | n + 1 => by
    refine ⟨yrL_rg h.1 (n + 1), ?_⟩
    obtain ⟨q, hq, e⟩ := (iu_yr h n).2
    refine ⟨q, hq, ?_⟩
    show yrS (yrL U n) 9 0 = nI q
    unfold yrS
    rw [by90 8 (Nat.le_refl _), agL_10 (by decide), up2_n (by omega), e]
