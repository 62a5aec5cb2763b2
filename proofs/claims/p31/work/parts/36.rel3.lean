/-! years -/
def agQ (Q : Fn) (n : Nat) : Fn := fun j => if 9 ≤ j ∧ j < 9 + n ∧ ¬ Q j < 0 then Q j + 1 else Q j
theorem agQ_0 {Q : Fn} : agQ Q 0 = Q := by
  funext j
  unfold agQ
  rw [if_neg (by omega)]
theorem agQ_n {Q : Fn} {n j : Nat} (h : j < 9 ∨ 9 + n ≤ j) : agQ Q n j = Q j := by
  unfold agQ
  rw [if_neg (by omega)]
theorem agQ_s {Q : Fn} {n : Nat} : upd (agQ Q n) (9 + n) (agQ Q n (9 + n) + (if Q (9 + n) < 0 then 0 else 1)) = agQ Q (n + 1) := by
  funext j
  by_cases e : j = 9 + n
  · subst e
    rw [pk_us, agQ_n (Or.inr (Nat.le_refl _))]
    unfold agQ
    by_cases h : Q (9 + n) < 0
    · rw [if_pos h, if_neg (fun z => z.2.2 h), Int32.add_zero]
    · rw [if_neg h, if_pos ⟨by omega, by omega, h⟩]
  · rw [pk_un e]
    unfold agQ
    by_cases h : 9 ≤ j ∧ j < 9 + n ∧ ¬ Q j < 0
    · rw [if_pos h, if_pos ⟨h.1, by omega, h.2.2⟩]
    · rw [if_neg h, if_neg (fun z => h ⟨z.1, by omega, z.2.2⟩)]
theorem LR_ag {V : Vs} {Q : Fn} {R : Nat → Fn} {c y : Int32} (H : LR V Q R 99 c y) : LR (agL (up2 V 9 4 (V 9 4 + 1)) 8) (agQ Q 4) R 100 c (y + 1) := by
  have H0 := H
  obtain ⟨⟨r, s⟩, ⟨h1, h2⟩, ⟨q0, q1, q2, q3, q4⟩, q5, hs, hn⟩ := H
  have e : ∀ q, q ≠ 11 → agL (up2 V 9 4 (V 9 4 + 1)) 8 q = up2 V 9 4 (V 9 4 + 1) q := fun q hq => agL_10 hq
  refine ⟨⟨agL_rg (rg_up (by decide) r), ?_⟩, ⟨?_, ?_⟩, ⟨?_, ?_, ?_, ?_, ?_⟩, fun j hj => ?_, fun k hk => ?_, fun k h4 h8 => ?_⟩
  · obtain ⟨q, hq, eq⟩ := s
    exact ⟨q, hq, by rw [e 9 (by decide), up2_n (by omega)]; exact eq⟩
  · rw [e 8 (by decide), up2_r (by decide)]; exact h1
  · rw [e 8 (by decide), up2_r (by decide)]; exact h2
  · rw [agQ_n (Or.inl (by decide)), e 9 (by decide), up2_n (by omega)]; exact q0
  · rw [agQ_n (Or.inl (by decide)), e 9 (by decide), up2_n (by omega)]; exact q1
  · rw [agQ_n (Or.inl (by decide)), e 9 (by decide), up2_n (by omega)]; exact q2
  · rw [agQ_n (Or.inl (by decide)), e 9 (by decide), up2_n (by omega)]; exact q3
  · rw [agQ_n (Or.inl (by decide)), e 9 (by decide), up2_s, ← Int32.add_assoc, q4]
  · rw [agQ_n (Or.inl (by omega)), e 8 (by decide), up2_r (by decide)]; exact q5 j hj
  · by_cases hp : V 10 k = 1
    · obtain ⟨⟨a, ha, ea⟩, b2, b3, b4⟩ := (hs k hk).is hp
      have e11 : agL (up2 V 9 4 (V 9 4 + 1)) 8 11 k = V 11 k + 1 := by
        unfold agL
        rw [if_pos ⟨rfl, by omega, by rw [up2_r (by decide)]; exact hp⟩, up2_r (by decide)]
      refine Or.inl ⟨by rw [e 10 (by decide), up2_r (by decide)]; exact hp, ⟨a + 1, by omega, by rw [e11, ea, nI_1]⟩, ?_, ?_, ?_⟩
      · rw [e11]
        unfold agQ
        rw [if_pos ⟨by omega, by omega, by rw [b2, ea]; exact nI_pos (by omega)⟩, b2]
      · rw [agQ_n (Or.inr (by omega)), e 12 (by decide), up2_r (by decide)]; exact b3
      · rw [e k (by omega), up2_r (by omega)]; exact b4
    · obtain ⟨b1, b2⟩ := (hs k hk).no hp
      refine Or.inr ⟨by rw [e 10 (by decide), up2_r (by decide)]; exact hp, ?_, b2⟩
      unfold agQ
      rw [if_neg (fun z => z.2.2 (by rw [b1]; decide))]
      exact b1
  · rw [e 10 (by decide), up2_r (by decide)]; exact hn k h4 h8
abbrev isTe (W : Vs) (c lo hi : Nat) (o : Option Nat) : Prop := isT (fun i => i ≠ c ∧ W 10 i = 1 ∧ W 11 i ≤ W 8 2) (fun i => (W 11 i).toInt) lo hi o
theorem teS_T {W : Vs} {c : Nat} : ∀ n, isTe W c 0 n (teS W c n)
  | 0 => isT_0
  | n + 1 => by
    have ih := teS_T (W := W) (c := c) n
    by_cases h : n = c ∨ ¬ W 10 n = 1 ∨ ¬ W 11 n ≤ W 8 2
    · rw [teS_sk h]
      exact isT_usk (fun z => h.elim z.1 (fun y => y.elim (fun x => x z.2.1) (fun x => x z.2.2))) ih
    · have g1 : ¬ n = c := fun z => h (Or.inl z)
      have g2 : W 10 n = 1 := by
        by_cases z : W 10 n = 1
        · exact z
        · exact absurd (Or.inr (Or.inl z)) h
      have g3 : W 11 n ≤ W 8 2 := by
        by_cases z : W 11 n ≤ W 8 2
        · exact z
        · exact absurd (Or.inr (Or.inr z)) h
      cases ho : teS W c n with
      | none =>
        rw [ho] at ih
        rw [teS_n g1 g2 g3 ho]
        exact isT_utk ⟨g1, g2, g3⟩ (Nat.zero_le _) (fun b z => by cases z) ih
      | some b =>
        rw [ho] at ih
        by_cases hb : W 11 b ≤ W 11 n
        · rw [teS_k g1 g2 g3 ho hb]
          exact isT_ukp (Int32.le_iff_toInt_le.mp hb) ih
        · rw [teS_u g1 g2 g3 ho hb]
          refine isT_utk ⟨g1, g2, g3⟩ (Nat.zero_le _) (fun b2 z => ?_) ih
          cases z
          exact Int32.lt_iff_toInt_lt.mp (Int32.not_le.mp hb)
theorem te_e {W : Vs} {Q : Fn} {R : Nat → Fn} {A k : Nat} {c y : Int32} {o : Option Nat} (H : LR W Q R A c y) (h : isTe W k 0 4 o) : o = teS W k 8 := by
  have g : ∀ j, 4 ≤ j → j < 8 → ¬ (j ≠ k ∧ W 10 j = 1 ∧ W 11 j ≤ W 8 2) := fun j h4 h8 z => H.hi h4 h8 z.2.1
  exact isT_uq (isT_usk (g 7 (by decide) (by decide)) (isT_usk (g 6 (by decide) (by decide)) (isT_usk (g 5 (by decide) (by decide)) (isT_usk (g 4 (by decide) (by decide)) h)))) (teS_T 8)
def tyV (R : Nat → Fn) (t : Option Nat) (sh : Int32) (j : Nat) : Int32 := match t with
  | none => 0
  | some i => R i j * sh / 100
def tyF (R : Nat → Fn) (k : Nat) (t : Option Nat) (sh : Int32) (n : Nat) : Fn := fun j => if j < n then tyV R t sh j else R k j
theorem tyF_0 {R : Nat → Fn} {k : Nat} {t : Option Nat} {sh : Int32} : tyF R k t sh 0 = R k := by
  funext j
  unfold tyF
  rw [if_neg (by omega)]
theorem tyF_s {R : Nat → Fn} {k n : Nat} {t : Option Nat} {sh : Int32} : upd (tyF R k t sh n) n (tyV R t sh n) = tyF R k t sh (n + 1) := by
  funext j
  unfold tyF
  by_cases e : j = n
  · subst e
    rw [pk_us, if_pos (by omega)]
  · rw [pk_un e]
    by_cases h : j < n
    · rw [if_pos h, if_pos (by omega)]
    · rw [if_neg h, if_neg (by omega)]
theorem LR_by {W : Vs} {Q : Fn} {R : Nat → Fn} {k : Nat} {c y : Int32} {g : Fn} (H : LR W Q R 100 c y) (hk : k < 4) (hc : W 10 k = 1 ∧ ¬ W 11 k ≤ W 8 2) (hg : ∀ j, j < 60 → g j = tyV R (teS W k 8) (Q 8) j) : LR (byK W k) (upd (upd Q (9 + k) 0) (13 + k) 0) (upR R k g) 100 (c + 1) y := by
  have q8 : Q 8 = W 8 3 := H.q5 (j := 3) (by decide)
  have e : ∀ r, r ≠ k → r ≠ 11 → r ≠ 12 → r ≠ 9 → byK W k r = W r := fun r h1 h2 h3 h4 => by
    rw [byK_t hc rfl, up2_r h4, blS_q h1 h2 h3]
  have e9 : ∀ j, byK W k 9 j = if j = 3 then W 9 3 + 1 else W 9 j := fun j => by
    rw [byK_t hc rfl]
    by_cases h : j = 3
    · subst h; rw [up2_s, if_pos rfl, blS_q (by omega) (by decide) (by decide)]
    · rw [up2_n (by omega), if_neg h, blS_q (by omega) (by decide) (by decide)]
  have e11 : ∀ j, byK W k 11 j = if j = k then 0 else W 11 j := fun j => by
    rw [byK_t hc rfl, up2_r (by decide)]
    unfold blS blL
    by_cases h : j = k
    · rw [if_pos ⟨rfl, h⟩, if_pos h]
    · rw [if_neg (fun z => h z.2), if_neg (by omega), if_neg (by omega), if_neg h]
  have e12 : ∀ j, byK W k 12 j = if j = k then 0 else W 12 j := fun j => by
    rw [byK_t hc rfl, up2_r (by decide)]
    unfold blS blL
    by_cases h : j = k
    · rw [if_neg (by omega), if_pos ⟨rfl, h⟩, if_pos h]
    · rw [if_neg (by omega), if_neg (fun z => h z.2), if_neg (by omega), if_neg h]
  have ek : ∀ j, j < 84 → byK W k k j = clS (match teS W k 8 with | none => 0 | some t => W t j * W 8 3 / 100) := fun j hj => by
    rw [byK_t hc rfl, up2_r (by omega)]
    unfold blS blL
    rw [if_neg (by omega), if_neg (by omega), if_pos ⟨rfl, hj⟩]
    cases teS W k 8 <;> rfl
  refine LR_k hk H ⟨byK_rg (by omega) H.1.1, ?_⟩ (e 8 (by omega) (by decide) (by decide) (by decide)) (fun j hj => by rw [e9, if_neg hj]) ?_ (fun i hi hne => ⟨by rw [e 10 (by omega) (by decide) (by decide) (by decide)], by rw [e11, if_neg hne], by rw [e12, if_neg hne], e i hne (by omega) (by omega) (by omega)⟩) (fun j hj => by rw [pk_un (by omega), pk_un (by omega)]) (fun i hi hne => ⟨by rw [pk_un (by omega), pk_un (by omega)], by rw [pk_un (by omega), pk_un (by omega)]⟩) (fun i _ hne => upR_n hne) (Or.inl ⟨by rw [e 10 (by omega) (by decide) (by decide) (by decide)]; exact hc.1, ⟨0, Nat.zero_le _, by rw [e11, if_pos rfl]; rfl⟩, by rw [pk_un (by omega), pk_us, e11, if_pos rfl], by rw [pk_us, e12, if_pos rfl], ?_⟩)
  · obtain ⟨q, hq, eq⟩ := H.1.2
    exact ⟨q, hq, by rw [e9, if_neg (by decide)]; exact eq⟩
  · rw [e9, if_pos rfl, ← Int32.add_assoc, H.2.2.1.2.2.2.1]
  · rw [upR_s]
    cases ho : teS W k 8 with
    | none =>
      rw [ho] at hg ek
      refine ⟨fun m w hm hw => ?_, fun m w hm h1 h2 => ?_⟩
      · rw [hg _ (by omega), ek _ (by omega)]; exact cl_0.symm
      · rw [ek _ (by omega)]; exact cl_0
    | some t =>
      rw [ho] at hg ek
      have hT := teS_T (W := W) (c := k) 8
      rw [ho] at hT
      obtain ⟨-, t8, ⟨t1, t2, t3⟩, -⟩ := hT
      have t4 : t < 4 := by
        by_cases z : t < 4
        · exact z
        · exact absurd t2 (H.hi (by omega) t8)
      have hr := H.row t4 t2
      refine ⟨fun m w hm hw => ?_, fun m w hm h1 h2 => ?_⟩
      · rw [hg _ (by omega), ek _ (by omega)]
        show R t (10 * m + w) * Q 8 / 100 = clS (W t (14 * m + w) * W 8 3 / 100)
        rw [rg_sh H.1.1 t8 (by omega), hr.1 m w hm hw, q8]
      · rw [ek _ (by omega)]
        show clS (W t (14 * m + w) * W 8 3 / 100) = 0
        rw [hr.2 m w hm h1 h2, Int32.zero_mul]
        decide
/-- those who had their turn are not too old -/
def okA (W : Vs) (n : Nat) : Prop := ∀ j, j < n → W 10 j = 1 → W 11 j ≤ W 8 2
theorem okA_0 {W : Vs} : okA W 0 := fun j h => absurd h (Nat.not_lt_zero _)
theorem okA_s {W : Vs} {k : Nat} (hk : k < 8) (h8 : ∃ l, l ≤ 99 ∧ W 8 2 = nI l) (h : okA W k) : okA (byK W k) (k + 1) := by
  by_cases hc : W 10 k = 1 ∧ ¬ W 11 k ≤ W 8 2
  · have e : ∀ r, r ≠ k → r ≠ 11 → r ≠ 12 → r ≠ 9 → byK W k r = W r := fun r h1 h2 h3 h4 => by
      rw [byK_t hc rfl, up2_r h4, blS_q h1 h2 h3]
    intro j hj hp
    rw [e 10 (by omega) (by decide) (by decide) (by decide)] at hp
    rw [e 8 (by omega) (by decide) (by decide) (by decide), byK_t hc rfl, up2_r (by decide)]
    unfold blS blL
    by_cases ej : j = k
    · rw [if_pos ⟨rfl, ej⟩]
      obtain ⟨l, h1, h2⟩ := h8
      rw [h2]; exact nI_pos' (by omega)
    · rw [if_neg (fun z => ej z.2), if_neg (by omega), if_neg (by omega)]
      exact h j (by omega) hp
  · rw [byK_f hc]
    intro j hj hp
    by_cases ej : j = k
    · subst ej
      by_cases z : W 11 j ≤ W 8 2
      · exact z
      · exact absurd ⟨hp, z⟩ hc
    · exact h j (by omega) hp
theorem LR_99 {W : Vs} {Q : Fn} {R : Nat → Fn} {c y : Int32} (H : LR W Q R 100 c y) (h : okA W 4) : LR W Q R 99 c y := by
  obtain ⟨hI, ⟨h1, l, hl, el⟩, q0, q5, hs, hn⟩ := H
  refine ⟨hI, ⟨h1, l, hl, el⟩, q0, q5, fun k hk => ?_, hn⟩
  rcases hs k hk with ⟨a1, ⟨a, ha, ea⟩, a3, a4, a5⟩ | ⟨a1, a2, a3⟩
  · refine Or.inl ⟨a1, ⟨a, ?_, ea⟩, a3, a4, a5⟩
    have := h k hk a1
    rw [ea, el, nI_leI (by omega) (by omega)] at this
    omega
  · exact Or.inr ⟨a1, a2, a3⟩
/-- the speakers from 4 on are not there: nobody follows them -/
theorem byL_48 {W : Vs} {Q : Fn} {R : Nat → Fn} {A : Nat} {X : Vs} {c y : Int32} (h : byL X 4 = W) (H : LR W Q R A c y) : byL X 8 = W := by
  have s : ∀ k, 4 ≤ k → k < 8 → byL X k = W → byL X (k + 1) = W := fun k h4 h8 e => by
    rw [byL, e]
    exact byK_f (fun z => H.hi h4 h8 z.1)
  exact s 7 (by decide) (by decide) (s 6 (by decide) (by decide) (s 5 (by decide) (by decide) (s 4 (by decide) (by decide) h)))
theorem LR_fin {V : Vs} {Q : Fn} {R : Nat → Fn} {A : Nat} {c y : Int32} (H : LR V Q R A c y) : LR V (upd (upd Q 3 (Q 3 + c)) 4 (Q 4 + y)) R A 0 0 := by
  obtain ⟨hI, h8, ⟨q0, q1, q2, q3, q4⟩, q5, hs, hn⟩ := H
  refine ⟨hI, h8, ⟨?_, ?_, ?_, ?_, ?_⟩, fun j hj => by rw [pk_un (by omega), pk_un (by omega)]; exact q5 j hj, fun k hk => SR_cg rfl rfl rfl rfl (by rw [pk_un (by omega), pk_un (by omega)]) (by rw [pk_un (by omega), pk_un (by omega)]) (fun _ _ => rfl) (hs k hk), hn⟩
  · rw [pk_un (by omega), pk_un (by omega)]; exact q0
  · rw [pk_un (by omega), pk_un (by omega)]; exact q1
  · rw [pk_un (by omega), pk_un (by omega)]; exact q2
  · rw [pk_un (by omega), pk_us, Int32.add_zero]; exact q3
  · rw [pk_us, Int32.add_zero]; exact q4
