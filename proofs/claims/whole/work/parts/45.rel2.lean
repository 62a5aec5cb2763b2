/-! agreeing villages: chats, years, coming and going, what is learnt -/
theorem cnN_R {V U : Vs} (R : RV V U) {n : Nat} (hn : n ≤ 8) : cnN (U 10) n = cnN (V 10) n := cnN_cg (fun j hj => R.p10 (by omega))
theorem cxN_cg {P Q : Fn} {lo : Int32} : ∀ {n : Nat}, (∀ j, j < n → P j = Q j) → cxN P lo n = cxN Q lo n
  | 0, _ => rfl
  | n + 1, h => by rw [cxN, cxN, cxN_cg (fun j hj => h j (by omega)), h n (by omega)]
theorem cx_u {P : Fn} {lo : Int32} {a b p : Nat} (a1 : P a = 1) (a2 : ¬ nI a = lo) (a3 : cxN P lo a = p) (b1 : P b = 1) (b2 : ¬ nI b = lo) (b3 : cxN P lo b = p) : a = b := by
  by_cases h : a < b
  · have := cxN_s h a1 a2; omega
  · by_cases h2 : b < a
    · have := cxN_s h2 b1 b2; omega
    · omega
theorem c12_R {V U : Vs} (R : RV V U) {c : Nat} (hc : cnN (V 10) 8 = c) (h2 : 2 ≤ c) : c1S U c = c1S V c ∧ c2S U c = c2S V c ∧ cmN U = cmN V := by
  have f := ch_f hc h2
  have g := ch_f (W := U) (by rw [cnN_R R (Nat.le_refl _)]; exact hc) h2
  obtain ⟨⟨f1, f2, f3, f4⟩, ⟨f5, f6, f7, f8⟩, -⟩ := f
  obtain ⟨⟨g1, g2, g3, g4⟩, ⟨g5, g6, g7, g8⟩, -⟩ := g
  have e1 : c1S U c = c1S V c := by
    rw [R.p10 g1] at g2
    rw [cxN_cg (fun j hj => R.p10 (show j < 8 by omega)), dvN_R R] at g4
    exact cx_u g2 g3 g4 f2 f3 f4
  have R1 := RV_dr R
  refine ⟨e1, ?_, dvN_R (RV_dr R1)⟩
  rw [R.p10 g5] at g6
  rw [e1] at g7
  rw [e1, cxN_cg (fun j hj => R.p10 (show j < 8 by omega)), dvN_R R1] at g8
  exact cx_u g6 g7 g8 f6 f7 f8
theorem chT_R {V U : Vs} (R : RV V U) {c : Nat} (hc : cnN (V 10) 8 = c) (h2 : 2 ≤ c) : RV (chT V c) (chT U c) := by
  obtain ⟨e1, e2, e3⟩ := c12_R R hc h2
  obtain ⟨⟨f1, f2, -⟩, ⟨f5, f6, -⟩, -⟩ := ch_f hc h2
  unfold chT
  rw [e1, e2, e3]
  exact mtV_R (RV_dr (RV_dr (RV_dr R))) f1 f5 (by rw [drV_r (by decide), drV_r (by decide), drV_r (by decide)]; exact f2) (by rw [drV_r (by decide), drV_r (by decide), drV_r (by decide)]; exact f6)
theorem chL_R {V U : Vs} (R : RV V U) {c : Nat} (hc : cnN (V 10) 8 = c) (h2 : 2 ≤ c) (hs : sok V) : ∀ n, RV (chL V c n) (chL U c n)
  | 0 => R
  | n + 1 => chT_R (chL_R R hc h2 hs n) (by rw [(chL_f hc h2 hs n).2 10 (by decide) (by decide) (by decide)]; exact hc) h2
/-- years -/
theorem agL_R {V U : Vs} (R : RV V U) (i : Nat) : RV (agL V i) (agL U i) := by
  have e : ∀ (W : Vs) (r : Nat), r ≠ 11 → agL W i r = W r := fun W r h => agL_10 h
  refine RV_mk (fun j hj => ?_) (fun j => ?_) (fun k hk => ?_) (fun k hk hp => ?_) (fun k hk hp => ?_)
  · rw [e V 9 (by decide), e U 9 (by decide)]; exact R.p9 hj
  · rw [e V 8 (by decide), e U 8 (by decide)]; exact R.p8
  · rw [e V 10 (by decide), e U 10 (by decide)]; exact R.p10 hk
  · rw [e V 10 (by decide)] at hp
    refine ⟨?_, ?_, ?_⟩
    · unfold agL
      rw [R.p10 hk, R.p11 hk hp]
    · rw [e V 12 (by decide), e U 12 (by decide)]; exact R.p12 hk hp
    · rw [e V k (by omega), e U k (by omega)]; exact R.row hk hp
  · rw [e V 10 (by decide)] at hp
    refine ⟨?_, ?_, fun j => ⟨fun hj => ?_, fun hj => ?_⟩⟩
    · unfold agL
      rw [R.p10 hk, if_neg (fun z => hp z.2.2)]
      exact R.z11 hk hp
    · rw [e U 12 (by decide)]; exact R.z12 hk hp
    · rw [e U k (by omega)]; exact R.zw hk hp hj
    · rw [e U k (by omega), e V k (by omega)]; exact R.zo hk hj
theorem teS_p {V : Vs} {c : Nat} : ∀ {n y : Nat}, teS V c n = some y → V 10 y = 1
  | 0, y, h => by simp [teS] at h
  | n + 1, y, h => by
    by_cases hc : n = c ∨ ¬ V 10 n = 1 ∨ ¬ V 11 n ≤ V 8 2
    · rw [teS_sk hc] at h
      exact teS_p h
    · have h1 : ¬ n = c := fun z => hc (Or.inl z)
      have h2 : V 10 n = 1 := Classical.byContradiction (fun z => hc (Or.inr (Or.inl z)))
      have h3 : V 11 n ≤ V 8 2 := Classical.byContradiction (fun z => hc (Or.inr (Or.inr z)))
      cases hy : teS V c n with
      | none =>
        rw [teS_n h1 h2 h3 hy] at h
        cases h
        exact h2
      | some z =>
        by_cases h4 : V 11 z ≤ V 11 n
        · rw [teS_k h1 h2 h3 hy h4] at h
          cases h
          exact teS_p hy
        · rw [teS_u h1 h2 h3 hy h4] at h
          cases h
          exact h2
theorem teS_R {V U : Vs} (R : RV V U) {c : Nat} : ∀ n, n ≤ 8 → teS U c n = teS V c n
  | 0, _ => rfl
  | n + 1, hn => by
    have ih := teS_R R (c := c) n (by omega)
    by_cases h2 : V 10 n = 1
    · by_cases hc : n = c ∨ ¬ V 10 n = 1 ∨ ¬ V 11 n ≤ V 8 2
      · rw [teS_sk hc, teS_sk (by rw [R.p10 (by omega), R.p11 (by omega) h2, R.p8]; exact hc), ih]
      · have h1 : ¬ n = c := fun z => hc (Or.inl z)
        have h3 : V 11 n ≤ V 8 2 := Classical.byContradiction (fun z => hc (Or.inr (Or.inr z)))
        have u2 : U 10 n = 1 := by rw [R.p10 (by omega)]; exact h2
        have u3 : U 11 n ≤ U 8 2 := by rw [R.p11 (by omega) h2, R.p8]; exact h3
        cases hy : teS V c n with
        | none => rw [teS_n h1 h2 h3 hy, teS_n h1 u2 u3 (ih.trans hy)]
        | some z =>
          have hz := teS_p hy
          have hz8 := (teS_in hy).1
          by_cases h4 : V 11 z ≤ V 11 n
          · rw [teS_k h1 h2 h3 hy h4, teS_k h1 u2 u3 (ih.trans hy) (by rw [R.p11 (by omega) h2, R.p11 (by omega) hz]; exact h4)]
          · rw [teS_u h1 h2 h3 hy h4, teS_u h1 u2 u3 (ih.trans hy) (by rw [R.p11 (by omega) h2, R.p11 (by omega) hz]; exact h4)]
    · rw [teS_sk (Or.inr (Or.inl h2)), teS_sk (Or.inr (Or.inl (by rw [R.p10 (by omega)]; exact h2))), ih]
theorem bl_R {V U : Vs} (R : RV V U) {i : Nat} {t : Option Nat} {sh : Int32} (hi : i < 8) (hp : V 10 i = 1) (ht : ∀ y, t = some y → y < 8 ∧ V 10 y = 1) : RV (blS V i t sh) (blS U i t sh) := by
  refine RV_k R hi hp (fun r j h1 h2 => ?_) (fun r j h1 h2 => ?_) (funext fun j => ?_) ?_ ?_
  · unfold blS blL
    rw [if_neg (by omega), if_neg (by omega), if_neg (by omega)]
  · unfold blS blL
    rw [if_neg (by omega), if_neg (by omega), if_neg (by omega)]
  · unfold blS blL
    rw [R.row hi hp]
    cases t with
    | none => rfl
    | some y =>
      have := ht y rfl
      dsimp only
      rw [R.row this.1 this.2]
  · unfold blS blL
    rw [if_pos ⟨rfl, rfl⟩, if_pos ⟨rfl, rfl⟩]
  · unfold blS blL
    rw [if_neg (by omega), if_pos ⟨rfl, rfl⟩, if_neg (by omega), if_pos ⟨rfl, rfl⟩]
theorem byK_R {V U : Vs} (R : RV V U) {i : Nat} (hi : i < 8) : RV (byK V i) (byK U i) := by
  by_cases hc : V 10 i = 1 ∧ ¬ V 11 i ≤ V 8 2
  · have uc : U 10 i = 1 ∧ ¬ U 11 i ≤ U 8 2 := by rw [R.p10 hi, R.p11 hi hc.1, R.p8]; exact hc
    rw [byK_t hc rfl, byK_t uc rfl, teS_R R 8 (Nat.le_refl _), R.p8]
    have b := bl_R R (sh := V 8 3) hi hc.1 (t := teS V i 8) (fun y hy => ⟨(teS_in hy).1, teS_p hy⟩)
    exact RV_9 b (by rw [b.p9 (by decide)])
  · rw [byK_f hc, byK_f (fun z => hc ?_)]
    · exact R
    · have h1 : V 10 i = 1 := by rw [← R.p10 hi]; exact z.1
      rw [R.p10 hi, R.p11 hi h1, R.p8] at z
      exact z
theorem byL_R {V U : Vs} (R : RV V U) : ∀ n, n ≤ 8 → RV (byL V n) (byL U n)
  | 0, _ => R
  | n + 1, hn => byK_R (byL_R R n (by omega)) (by omega)
theorem yrS_R {V U : Vs} (R : RV V U) : RV (yrS V) (yrS U) := byL_R (agL_R (RV_9 R (by rw [R.p9 (by decide)])) 8) 8 (Nat.le_refl _)
theorem yrL_R {V U : Vs} (R : RV V U) : ∀ n, RV (yrL V n) (yrL U n)
  | 0 => R
  | n + 1 => yrS_R (yrL_R R n)
/-- coming and going -/
theorem come_R {V U : Vs} (R : RV V U) {q : Nat} (hq : q < 8) (hno : ¬ V 10 q = 1) : RV (blS (up2 V 10 q 1) q none 0) (up2 U 10 q 1) := by
  have e : ∀ r j, r ≠ q → ¬ ((r = 11 ∨ r = 12) ∧ j = q) → blS (up2 V 10 q 1) q none 0 r j = up2 V 10 q 1 r j := by
    intro r j h1 h2
    unfold blS blL
    rw [if_neg (by omega), if_neg (by omega), if_neg (by omega)]
  refine RV_mk (fun j hj => ?_) (fun j => ?_) (fun k hk => ?_) (fun k hk hp => ?_) (fun k hk hp => ?_)
  · rw [e 9 j (by omega) (by omega), up2_r (by decide), up2_r (by decide)]; exact R.p9 hj
  · rw [e 8 j (by omega) (by omega), up2_r (by decide), up2_r (by decide)]; exact R.p8
  · rw [e 10 k (by omega) (by omega)]
    by_cases h : k = q
    · subst h; rw [up2_s, up2_s]
    · rw [up2_n (by omega), up2_n (by omega)]; exact R.p10 hk
  · rw [e 10 k (by omega) (by omega)] at hp
    by_cases h : k = q
    · subst h
      refine ⟨?_, ?_, funext fun j => ?_⟩
      · rw [up2_r (by decide), R.z11 hk hno]
        unfold blS blL
        rw [if_pos ⟨rfl, rfl⟩]
      · rw [up2_r (by decide), R.z12 hk hno]
        unfold blS blL
        rw [if_neg (by omega), if_pos ⟨rfl, rfl⟩]
      · rw [up2_r (by omega)]
        unfold blS blL
        rw [if_neg (by omega), if_neg (by omega)]
        by_cases hj : j < 84
        · rw [if_pos ⟨rfl, hj⟩, R.zw hk hno hj]; exact (show (0 : Int32) = clS 0 by decide)
        · rw [if_neg (fun z => hj z.2), up2_r (by omega), R.zo hk hj]
    · rw [up2_n (by omega)] at hp
      refine ⟨?_, ?_, funext fun j => ?_⟩
      · rw [e 11 k (by omega) (by omega), up2_r (by decide), up2_r (by decide)]; exact R.p11 hk hp
      · rw [e 12 k (by omega) (by omega), up2_r (by decide), up2_r (by decide)]; exact R.p12 hk hp
      · rw [e k j h (by omega), up2_r (by omega), up2_r (by omega)]; exact congrFun (R.row hk hp) j
  · rw [e 10 k (by omega) (by omega)] at hp
    have h : k ≠ q := fun z => hp (by rw [z, up2_s])
    rw [up2_n (by omega)] at hp
    refine ⟨?_, ?_, fun j => ⟨fun hj => ?_, fun hj => ?_⟩⟩
    · rw [up2_r (by decide)]; exact R.z11 hk hp
    · rw [up2_r (by decide)]; exact R.z12 hk hp
    · rw [up2_r (by omega)]; exact R.zw hk hp hj
    · rw [e k j h (by omega), up2_r (by omega), up2_r (by omega)]; exact R.zo hk hj
theorem go_R {V U : Vs} (R : RV V U) {q : Nat} (hq : q < 8) : RV (up2 V 10 q 0) (goU U q) := by
  have e : ∀ r j, r ≠ q → ¬ ((r = 10 ∨ r = 11 ∨ r = 12) ∧ j = q) → goU U q r j = U r j := by
    intro r j h1 h2
    unfold goU zwL
    rw [if_neg (by omega), up2_n (by omega), up2_n (by omega), up2_n (by omega)]
  have e10 : goU U q 10 q = 0 := by
    unfold goU zwL
    rw [if_neg (by omega), up2_r (by decide), up2_r (by decide), up2_s]
  have e11 : goU U q 11 q = 0 := by
    unfold goU zwL
    rw [if_neg (by omega), up2_r (by decide), up2_s]
  have e12 : goU U q 12 q = 0 := by
    unfold goU zwL
    rw [if_neg (by omega), up2_s]
  have ew : ∀ j, j < 84 → goU U q q j = 0 := by
    intro j hj
    unfold goU zwL
    rw [if_pos ⟨rfl, hj⟩]
  have eo : ∀ j, ¬ j < 84 → goU U q q j = U q j := by
    intro j hj
    unfold goU zwL
    rw [if_neg (fun z => hj z.2), up2_r (by omega), up2_r (by omega), up2_r (by omega)]
  refine RV_mk (fun j hj => ?_) (fun j => ?_) (fun k hk => ?_) (fun k hk hp => ?_) (fun k hk hp => ?_)
  · rw [e 9 j (by omega) (by omega), up2_r (by decide)]; exact R.p9 hj
  · rw [e 8 j (by omega) (by omega), up2_r (by decide)]; exact R.p8
  · by_cases h : k = q
    · subst h; rw [e10, up2_s]
    · rw [e 10 k (by omega) (by omega), up2_n (by omega)]; exact R.p10 hk
  · have h : k ≠ q := fun z => by rw [z, up2_s] at hp; exact absurd hp (by decide)
    rw [up2_n (by omega)] at hp
    refine ⟨?_, ?_, funext fun j => ?_⟩
    · rw [e 11 k (by omega) (by omega), up2_r (by decide)]; exact R.p11 hk hp
    · rw [e 12 k (by omega) (by omega), up2_r (by decide)]; exact R.p12 hk hp
    · rw [e k j h (by omega), up2_r (by omega)]; exact congrFun (R.row hk hp) j
  · by_cases h : k = q
    · subst h
      exact ⟨e11, e12, fun j => ⟨fun hj => ew j hj, fun hj => by rw [eo j hj, up2_r (by omega)]; exact R.zo hk hj⟩⟩
    · rw [up2_n (by omega)] at hp
      refine ⟨?_, ?_, fun j => ⟨fun hj => ?_, fun hj => ?_⟩⟩
      · rw [e 11 k (by omega) (by omega)]; exact R.z11 hk hp
      · rw [e 12 k (by omega) (by omega)]; exact R.z12 hk hp
      · rw [e k j h (by omega)]; exact R.zw hk hp hj
      · rw [e k j h (by omega), up2_r (by omega)]; exact R.zo hk hj
theorem cp_in {V W : Vs} {r j : Nat} (h : inS r j) : cpV V W r j = W r j := by
  rcases h with h | ⟨rfl, h⟩ | ⟨h, hj⟩
  · by_cases e8 : r = 8
    · subst e8; rw [cpV_8]
    · rw [cpV_w (by omega)]
  · exact cpV_9 h
  · exact cpV_k h hj
theorem cp_R {V W U : Vs} (R : RV W U) : RV (cpV V W) U := RV_cg (fun _ _ h => cp_in h) R
theorem us_R {V U : Vs} (R : RV V U) (n : Nat) : RV (usC V n) U := RV_cg (fun r j h => by rw [usC_r (by unfold inS at h; omega)]) R
theorem usR_R {V U : Vs} (R : RV V U) {m n : Nat} : RV (usR V m n) U := RV_cg (fun r j h => by rw [usR_r (by unfold inS at h; omega)]) R
theorem gv_R {n : Nat} {tx : Fn} : ∀ (L : List (Nat × Nat × Nat × Int32)) (a : Nat) (V U : Vs), HL n tx L a → RV V U → RV (gvS V L).1 (gvS U L).1 ∧ (gvS U L).2 = (gvS V L).2
  | [], _, _, _, h, _ => h.elim
  | (k, m, w, v) :: L, a, V, U, h, R => by
    obtain ⟨e, H, hc⟩ := h
    by_cases hp : V 10 k = 1
    · rw [gvS_t hp, gvS_t (by rw [R.p10 H.h3]; exact hp)]
      have R2 := RV_w R (j := 14 * m + w) (x := v) H.h3 hp
      rcases hc with ⟨-, rfl⟩ | ⟨-, -, h3⟩
      · exact ⟨R2, rfl⟩
      · have i := gv_R L (e + 1) _ _ h3 R2
        exact ⟨i.1, by dsimp only; rw [i.2]⟩
    · rw [gvS_f hp, gvS_f (by rw [R.p10 H.h3]; exact hp)]
      exact ⟨R, rfl⟩
