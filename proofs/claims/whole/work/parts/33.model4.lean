/-! the model's chats and years -/
def scT (W : Vs) (c : Nat) (sw : Fn) : Fn := upd (upd sw 2 (nI (mt1 (drV (drV (drV W))) (c1S W c) (c2S W c) (cmN W)).2.1)) 3 (nI (mt1 (drV (drV (drV W))) (c1S W c) (c2S W c) (cmN W)).2.2)
def scC (U : Vs) (c : Nat) (sc : Fn) : Nat → Fn
  | 0 => sc
  | n + 1 => scT (chL U c n) c (scC U c sc n)
theorem wd9 {V : Vs} {k m : Nat} : (wdN V k m).1 9 2 = V 9 2 := by
  unfold wdN
  split
  · show drV V 9 2 = V 9 2
    unfold drV; rw [up2_n (by omega)]
  · rfl
theorem hd9 {V : Vs} {k m : Nat} : (hdN V k m).1 9 2 = V 9 2 := by
  unfold hdN
  split
  · show drV V 9 2 = V 9 2
    unfold drV; rw [up2_n (by omega)]
  · rfl
theorem mtC9 {V : Vs} {k1 k2 : Nat} : mtC V k1 k2 9 2 = V 9 2 := by
  unfold mtC mck mc1
  rw [up2_n (by omega), up2_n (by omega), up2_n (by omega)]
theorem mtV9 {V : Vs} {k1 k2 m : Nat} (hk1 : k1 < 8) (hk2 : k2 < 8) : mtV V k1 k2 m 9 2 = V 9 2 + (if (mt1 V k1 k2 m).2.2 = m then 1 else 0) := by
  have e : (mt1 V k1 k2 m).1 9 2 = V 9 2 := by
    dsimp only [mt1]
    rw [hd9, wd9]
  unfold mtV mtF
  by_cases h : (mt1 V k1 k2 m).2.2 = m
  · rw [if_pos h, if_pos h]
    unfold mtS
    rw [fmS_r (show 9 ≠ k2 by omega), prS_r (show 9 ≠ k2 by omega), prS_r (show 9 ≠ k1 by omega)]
    unfold mtG
    rw [up2_s, mtC9, e]
  · rw [if_neg h, if_neg h]
    unfold mtN
    rw [chS_r (show 9 ≠ k2 by omega), chS_r (show 9 ≠ k2 by omega), chS_r (show 9 ≠ k1 by omega), mtC9, e, Int32.add_zero]
theorem gd_t {c : Prop} [Decidable c] (h : c) (x y : Int32) : x - y + 1 = x + (if c then 1 else 0) - y := by
  rw [if_pos h, Int32.sub_eq_add_neg, Int32.sub_eq_add_neg, Int32.add_assoc, Int32.add_assoc, Int32.add_comm (-y)]
theorem gd_f {c : Prop} [Decidable c] (h : ¬ c) (x y : Int32) : x - y + 0 = x + (if c then 1 else 0) - y := by
  rw [if_neg h, Int32.add_zero, Int32.add_zero]
theorem drV9 {V : Vs} : drV V 9 2 = V 9 2 := by
  unfold drV
  rw [up2_n (by omega)]
theorem cl_n (x : Int32) : ∃ a, a ≤ 99 ∧ clS x = nI a := by
  have h := cl_rg x
  rcases pk_ix (clS x) (n := 100) (by decide) with h1 | h1 | ⟨a, h1, h2⟩
  · exact absurd h1 (Int32.not_lt.mpr h.1)
  · exact absurd (Int32.le_trans h1 h.2) (by decide)
  · exact ⟨a, by omega, h2⟩
theorem cl_nI {a : Nat} (h : a ≤ 99) : clS (nI a) = nI a := cl_mid (nI_pos' (by omega)) (nI_le (b := 99) h (by decide))
/-- weights and share are in their ranges -/
def rgW (U : Vs) : Prop := (∀ t, t < 8 → ∀ j, j < 84 → clS (U t j) = U t j) ∧ ∃ b, b ≤ 100 ∧ U 8 3 = nI b
theorem rg_sh {U : Vs} (h : rgW U) {t j : Nat} (ht : t < 8) (hj : j < 84) : clS (U t j * U 8 3 / 100) = U t j * U 8 3 / 100 := by
  obtain ⟨h1, b, hb, e⟩ := h
  obtain ⟨a, ha, e2⟩ := cl_n (U t j)
  rw [h1 t ht j hj] at e2
  have hab : a * b ≤ 99 * 100 := Nat.mul_le_mul ha hb
  rw [e, e2, pk_mul, show (100 : Int32) = nI 100 from rfl, pk_div (by omega) (by decide) (by decide)]
  exact cl_nI (by omega)
/-- a share of the teacher's weights, one after the other -/
def bvT (U : Vs) (t : Option Nat) (sh : Int32) (j : Nat) : Int32 := match t with
  | none => 0 * sh / 100
  | some t => U t j * sh / 100
def bmL (U : Vs) (c : Nat) (t : Option Nat) (sh : Int32) (i : Nat) : Vs := fun r j => if r = c ∧ j < i then bvT U t sh j else U r j
theorem bmL_0 {U : Vs} {c : Nat} {t : Option Nat} {sh : Int32} : bmL U c t sh 0 = U := by
  funext r j
  unfold bmL
  rw [if_neg (by omega)]
theorem bmL_r {U : Vs} {c i r : Nat} {t : Option Nat} {sh : Int32} (h : r ≠ c) : bmL U c t sh i r = U r := by
  funext j
  unfold bmL
  rw [if_neg (fun z => h z.1)]
theorem bmL_s {U : Vs} {c i : Nat} {t : Option Nat} {sh x : Int32} (h : x = bvT U t sh i) : up2 (bmL U c t sh i) c i x = bmL U c t sh (i + 1) := by
  funext r j
  by_cases h1 : r = c ∧ j = i
  · obtain ⟨rfl, rfl⟩ := h1
    rw [up2_s, h]
    unfold bmL
    rw [if_pos (show r = r ∧ j < j + 1 by omega)]
  · rw [up2_n h1]
    unfold bmL
    by_cases h2 : r = c ∧ j < i
    · rw [if_pos h2, if_pos (show r = c ∧ j < i + 1 by omega)]
    · rw [if_neg h2, if_neg (show ¬ (r = c ∧ j < i + 1) by omega)]
theorem bm_bl {U : Vs} {c : Nat} {t : Option Nat} {sh : Int32} (hc : c < 8) (h : ∀ j, j < 84 → bvT U t sh j = clS (match t with | none => 0 | some t => U t j * sh / 100)) : up2 (up2 (bmL U c t sh 84) 11 c 0) 12 c 0 = blS U c t sh := by
  funext r j
  unfold blS blL
  by_cases h1 : r = 11 ∧ j = c
  · rw [if_pos h1, up2_n (by omega), h1.1, h1.2, up2_s]
  · rw [if_neg h1]
    by_cases h2 : r = 12 ∧ j = c
    · rw [if_pos h2, h2.1, h2.2, up2_s]
    · rw [if_neg h2, up2_n h2, up2_n h1]
      unfold bmL
      by_cases h3 : r = c ∧ j < 84
      · rw [if_pos h3, if_pos h3, h j h3.2]; cases t <;> rfl
      · rw [if_neg h3, if_neg h3]
theorem bm_n {U : Vs} {sh : Int32} (j : Nat) : bvT U none sh j = clS 0 := by
  show 0 * sh / 100 = clS 0
  rw [Int32.zero_mul]; rfl
theorem blS_q {U : Vs} {c r : Nat} {t : Option Nat} {sh : Int32} (h : r ≠ c) (h1 : r ≠ 11) (h2 : r ≠ 12) : blS U c t sh r = U r := by
  funext j
  unfold blS blL
  rw [if_neg (fun z => h1 z.1), if_neg (fun z => h2 z.1), if_neg (fun z => h z.1)]
theorem byK_rg {W : Vs} {i : Nat} (hi : i < 8) (h : rgW W) : rgW (byK W i) := by
  unfold byK
  by_cases hc : W 10 i = 1 ∧ ¬ W 11 i ≤ W 8 2
  · rw [if_pos hc]
    refine ⟨fun t ht j hj => ?_, ?_⟩
    · rw [up2_r (show t ≠ 9 by omega)]
      unfold blS blL
      rw [if_neg (by omega), if_neg (by omega)]
      by_cases h3 : t = i ∧ j < 84
      · rw [if_pos h3, cl_cl]
      · rw [if_neg h3]; exact h.1 t ht j hj
    · rw [up2_r (show (8 : Nat) ≠ 9 by decide), blS_q (by omega) (by decide) (by decide)]
      exact h.2
  · rw [if_neg hc]; exact h
theorem agL_rg {W : Vs} {i : Nat} (h : rgW W) : rgW (agL W i) := by
  refine ⟨fun t ht j hj => ?_, ?_⟩
  · rw [agL_10 (show t ≠ 11 by omega)]; exact h.1 t ht j hj
  · rw [agL_10 (show (8 : Nat) ≠ 11 by decide)]; exact h.2
theorem byL_rg {W : Vs} (h : rgW W) : ∀ n, n ≤ 8 → rgW (byL W n)
  | 0, _ => h
  | n + 1, hn => byK_rg (by omega) (byL_rg h n (by omega))
theorem teS_cg {V W : Vs} {c : Nat} (h10 : V 10 = W 10) (h11 : V 11 = W 11) (h8 : V 8 = W 8) : ∀ n, teS V c n = teS W c n
  | 0 => rfl
  | n + 1 => by rw [teS, teS, teS_cg h10 h11 h8 n, h10, h11, h8]
theorem bl_up {W : Vs} {c : Nat} {t : Option Nat} {sh y : Int32} (hc : c < 8) (ht : ∀ q, t = some q → q < 8) : blS (up2 W 9 4 y) c t sh = up2 (blS W c t sh) 9 4 y := by
  funext r j
  by_cases h9 : r = 9 ∧ j = 4
  · obtain ⟨rfl, rfl⟩ := h9
    rw [up2_s, blS_q (by omega) (by decide) (by decide), up2_s]
  · rw [up2_n h9]
    unfold blS blL
    cases t with
    | none => dsimp only; rw [up2_n h9]
    | some q =>
      have := ht q rfl
      dsimp only
      rw [up2_n h9, up2_n (show ¬ (q = 9 ∧ j = 4) by omega)]
theorem byK_up {W : Vs} {i : Nat} {y : Int32} (hi : i < 8) : byK (up2 W 9 4 y) i = up2 (byK W i) 9 4 y := by
  unfold byK
  have e10 : up2 W 9 4 y 10 = W 10 := up2_r (by decide)
  have e11 : up2 W 9 4 y 11 = W 11 := up2_r (by decide)
  have e8 : up2 W 9 4 y 8 = W 8 := up2_r (by decide)
  rw [e10, e11, e8, teS_cg e10 e11 e8 8]
  by_cases hc : W 10 i = 1 ∧ ¬ W 11 i ≤ W 8 2
  · rw [if_pos hc, if_pos hc, bl_up hi (fun q h => (teS_in h).1), up2_up (Or.inr (by decide)), up2_n (by omega)]
  · rw [if_neg hc, if_neg hc]
theorem byL_up {W : Vs} {y : Int32} : ∀ n, n ≤ 8 → byL (up2 W 9 4 y) n = up2 (byL W n) 9 4 y
  | 0, _ => rfl
  | n + 1, hn => by rw [byL, byL, byL_up n (by omega), byK_up (by omega)]
theorem agL_up {W : Vs} {y : Int32} {i : Nat} : agL (up2 W 9 4 y) i = up2 (agL W i) 9 4 y := by
  funext r j
  by_cases h9 : r = 9 ∧ j = 4
  · obtain ⟨rfl, rfl⟩ := h9
    rw [up2_s, agL_10 (by decide), up2_s]
  · rw [up2_n h9]
    unfold agL
    rw [up2_n h9, up2_r (show (10 : Nat) ≠ 9 by decide)]
theorem byK_94 {W : Vs} {i : Nat} (hi : i < 8) : byK W i 9 4 = W 9 4 := by
  unfold byK
  by_cases hc : W 10 i = 1 ∧ ¬ W 11 i ≤ W 8 2
  · rw [if_pos hc, up2_n (by omega), blS_q (by omega) (by decide) (by decide)]
  · rw [if_neg hc]
theorem byL_94 {W : Vs} : ∀ n, n ≤ 8 → byL W n 9 4 = W 9 4
  | 0, _ => rfl
  | n + 1, hn => by rw [byL, byK_94 (by omega), byL_94 n (by omega)]
theorem yr_e {U : Vs} : up2 (byL (agL U 8) 8) 9 4 (byL (agL U 8) 8 9 4 + 1) = yrS U := by
  unfold yrS
  rw [agL_up, byL_up 8 (Nat.le_refl _), byL_94 8 (Nat.le_refl _), agL_10 (by decide)]
theorem ag_s {U : Vs} {i : Nat} : up2 (agL U i) 11 i (agL U i 11 i + xfl (agL U i 10 i)) = agL U (i + 1) := by
  rw [agL_10 (show (10 : Nat) ≠ 11 by decide)]
  unfold xfl
  by_cases h : U 10 i = 1
  · rw [if_pos h]; exact agL_t h
  · rw [if_neg h, ← agL_f h, Int32.add_zero]
    funext r j
    by_cases h2 : r = 11 ∧ j = i
    · obtain ⟨rfl, rfl⟩ := h2; rw [up2_s]
    · rw [up2_n h2]
theorem byK_10 {W : Vs} {i : Nat} (hi : i < 8) : byK W i 10 = W 10 := by
  unfold byK
  by_cases hc : W 10 i = 1 ∧ ¬ W 11 i ≤ W 8 2
  · rw [if_pos hc, up2_r (by decide), blS_q (by omega) (by decide) (by decide)]
  · rw [if_neg hc]
set_option maxRecDepth 100000 in
set_option maxHeartbeats 1000000 in
theorem c_X5_whyNotMet_ok {l : Launch} {E : xEnv} {B N : Nat} {σ : Sg} {M : Nat} {U : Vs} {kp ho tx sc : Fn} {k1 : Nat} (hk1 : k1 < 8) (hp1 : U 10 k1 = 1){k2 : Nat} (hk2 : k2 < 8) (hp2 : U 10 k2 = 1) {m : Nat} (hm : m < 6) (hne : k1 ≠ k2) : xM l yX5_whyNotMet cX5_whyNotMet 4 (some .int) 2 43 0 0 E B [.ref M, .int (nI k1), .int (nI k2), .int (nI m)] N (mput E σ M U kp ho tx sc) N (mput E σ M U kp ho tx sc) (some (.int 0)) := by
  refine xM_of [some (.ref _), some (.int _), some (.int _), some (.int _)] (by decide +kernel) (Nat.le_of_ble_eq_true rfl) rfl (fun k0 C Z => ?_)
  refine x_aload_n C dX5_whyNotMet_0 rfl ?_
  refine x_iload_n C dX5_whyNotMet_1 rfl ?_
  refine x_callV C (c_X5_isSpeaker_k hk1) kv_X5_isSpeaker kl_X5_45 dX5_whyNotMet_2 mput_0 rfl rfl rfl rfl (Nat.le_of_ble_eq_true rfl) (Nat.le_of_ble_eq_true rfl) (Nat.le_of_ble_eq_true rfl) (Nat.le_of_ble_eq_true rfl) (Nat.le_of_ble_eq_true rfl) ?_
  refine x_beq C 23 dX5_whyNotMet_5 (by decide) (fun h => absurd hp1 h) (fun _ => ?_)
  refine x_aload_n C dX5_whyNotMet_8 rfl ?_
  refine x_iload_n C dX5_whyNotMet_9 rfl ?_
  refine x_callV C (c_X5_isSpeaker_k hk2) kv_X5_isSpeaker kl_X5_45 dX5_whyNotMet_10 mput_0 rfl rfl rfl rfl (Nat.le_of_ble_eq_true rfl) (Nat.le_of_ble_eq_true rfl) (Nat.le_of_ble_eq_true rfl) (Nat.le_of_ble_eq_true rfl) (Nat.le_of_ble_eq_true rfl) ?_
  refine x_beq C 23 dX5_whyNotMet_13 (by decide) (fun h => absurd hp2 h) (fun _ => ?_)
  refine x_iload_n C dX5_whyNotMet_16 rfl ?_
  refine x_callS C (c_X5_isMeaning _) ks_X5_isMeaning kl_X5_80 dX5_whyNotMet_17 rfl rfl rfl rfl (Nat.le_of_ble_eq_true rfl) (Nat.le_of_ble_eq_true rfl) (Nat.le_of_ble_eq_true rfl) (Nat.le_of_ble_eq_true rfl) (Nat.le_of_ble_eq_true rfl) ?_
  refine x_bne C 27 dX5_whyNotMet_20 (by decide) (fun _ => ?_) (fun h => absurd (bd_in (c := 6) hm (by decide)) h)
  refine x_iload_n C dX5_whyNotMet_27 rfl ?_
  refine x_iload_n C dX5_whyNotMet_28 rfl ?_
  refine x_ic_ne C 37 dX5_whyNotMet_29 (by decide) (fun _ => ?_) (fun h => absurd h (nI_neL (by omega) (by omega) hne))
  refine x_iconst (v := 0) C dX5_whyNotMet_37 (by decide) ?_
  exact x_zret C Z dX5_whyNotMet_38 rfl (Nat.le_of_ble_eq_true rfl) (Nat.le_of_ble_eq_true rfl) rfl rfl rfl
set_option maxRecDepth 100000 in
set_option maxHeartbeats 1000000 in
theorem c_X5_whyNotMet_same {l : Launch} {E : xEnv} {B N : Nat} {σ : Sg} {M : Nat} {U : Vs} {kp ho tx sc : Fn} {k1 : Nat} (hk1 : k1 < 8) (hp1 : U 10 k1 = 1) {m : Nat} (hm : m < 6) : xM l yX5_whyNotMet cX5_whyNotMet 4 (some .int) 2 43 0 0 E B [.ref M, .int (nI k1), .int (nI k1), .int (nI m)] N (mput E σ M U kp ho tx sc) N (mput E σ M U kp ho tx sc) (some (.int (-3))) := by
  refine xM_of [some (.ref _), some (.int _), some (.int _), some (.int _)] (by decide +kernel) (Nat.le_of_ble_eq_true rfl) rfl (fun k0 C Z => ?_)
  refine x_aload_n C dX5_whyNotMet_0 rfl ?_
  refine x_iload_n C dX5_whyNotMet_1 rfl ?_
  refine x_callV C (c_X5_isSpeaker_k hk1) kv_X5_isSpeaker kl_X5_45 dX5_whyNotMet_2 mput_0 rfl rfl rfl rfl (Nat.le_of_ble_eq_true rfl) (Nat.le_of_ble_eq_true rfl) (Nat.le_of_ble_eq_true rfl) (Nat.le_of_ble_eq_true rfl) (Nat.le_of_ble_eq_true rfl) ?_
  refine x_beq C 23 dX5_whyNotMet_5 (by decide) (fun h => absurd hp1 h) (fun _ => ?_)
  refine x_aload_n C dX5_whyNotMet_8 rfl ?_
  refine x_iload_n C dX5_whyNotMet_9 rfl ?_
  refine x_callV C (c_X5_isSpeaker_k hk1) kv_X5_isSpeaker kl_X5_45 dX5_whyNotMet_10 mput_0 rfl rfl rfl rfl (Nat.le_of_ble_eq_true rfl) (Nat.le_of_ble_eq_true rfl) (Nat.le_of_ble_eq_true rfl) (Nat.le_of_ble_eq_true rfl) (Nat.le_of_ble_eq_true rfl) ?_
  refine x_beq C 23 dX5_whyNotMet_13 (by decide) (fun h => absurd hp1 h) (fun _ => ?_)
  refine x_iload_n C dX5_whyNotMet_16 rfl ?_
  refine x_callS C (c_X5_isMeaning _) ks_X5_isMeaning kl_X5_80 dX5_whyNotMet_17 rfl rfl rfl rfl (Nat.le_of_ble_eq_true rfl) (Nat.le_of_ble_eq_true rfl) (Nat.le_of_ble_eq_true rfl) (Nat.le_of_ble_eq_true rfl) (Nat.le_of_ble_eq_true rfl) ?_
  refine x_bne C 27 dX5_whyNotMet_20 (by decide) (fun _ => ?_) (fun h => absurd (bd_in (c := 6) hm (by decide)) h)
  refine x_iload_n C dX5_whyNotMet_27 rfl ?_
  refine x_iload_n C dX5_whyNotMet_28 rfl ?_
  refine x_ic_ne C 37 dX5_whyNotMet_29 (by decide) (fun h => absurd rfl h) (fun _ => ?_)
  refine x_bipush (v := (-3)) C dX5_whyNotMet_32 (by decide) ?_
  refine x_goto C 38 dX5_whyNotMet_34 (by decide) ?_
  exact x_zret C Z dX5_whyNotMet_38 rfl (Nat.le_of_ble_eq_true rfl) (Nat.le_of_ble_eq_true rfl) rfl rfl rfl
set_option maxRecDepth 100000 in
set_option maxHeartbeats 1000000 in
theorem c_X5_whyNotMet_n1 {l : Launch} {E : xEnv} {B N : Nat} {σ : Sg} {M : Nat} {U : Vs} {kp ho tx sc : Fn} {x : Int32} (hno : ¬ ∃ k, k < 8 ∧ x = nI k ∧ U 10 k = 1) {y m : Int32} : xM l yX5_whyNotMet cX5_whyNotMet 4 (some .int) 2 43 0 0 E B [.ref M, .int x, .int y, .int m] N (mput E σ M U kp ho tx sc) N (mput E σ M U kp ho tx sc) (some (.int (-1))) := by
  refine xM_of [some (.ref _), some (.int _), some (.int _), some (.int _)] (by decide +kernel) (Nat.le_of_ble_eq_true rfl) rfl (fun k0 C Z => ?_)
  refine x_aload_n C dX5_whyNotMet_0 rfl ?_
  refine x_iload_n C dX5_whyNotMet_1 rfl ?_
  refine x_callV C (c_X5_isSpeaker_no hno) kv_X5_isSpeaker kl_X5_45 dX5_whyNotMet_2 mput_0 rfl rfl rfl rfl (Nat.le_of_ble_eq_true rfl) (Nat.le_of_ble_eq_true rfl) (Nat.le_of_ble_eq_true rfl) (Nat.le_of_ble_eq_true rfl) (Nat.le_of_ble_eq_true rfl) ?_
  refine x_if_eq C 23 dX5_whyNotMet_5 (by decide) (fun _ => ?_) (fun h => absurd rfl h)
  refine x_iconst (v := (-1)) C dX5_whyNotMet_23 (by decide) ?_
  refine x_goto C 38 dX5_whyNotMet_24 (by decide) ?_
  exact x_zret C Z dX5_whyNotMet_38 rfl (Nat.le_of_ble_eq_true rfl) (Nat.le_of_ble_eq_true rfl) rfl rfl rfl
set_option maxRecDepth 100000 in
set_option maxHeartbeats 1000000 in
theorem c_X5_whyNotMet_n2 {l : Launch} {E : xEnv} {B N : Nat} {σ : Sg} {M : Nat} {U : Vs} {kp ho tx sc : Fn} {k1 : Nat} (hk1 : k1 < 8) (hp1 : U 10 k1 = 1){y : Int32} (hny : ¬ ∃ k, k < 8 ∧ y = nI k ∧ U 10 k = 1) {m : Int32} : xM l yX5_whyNotMet cX5_whyNotMet 4 (some .int) 2 43 0 0 E B [.ref M, .int (nI k1), .int y, .int m] N (mput E σ M U kp ho tx sc) N (mput E σ M U kp ho tx sc) (some (.int (-1))) := by
  refine xM_of [some (.ref _), some (.int _), some (.int _), some (.int _)] (by decide +kernel) (Nat.le_of_ble_eq_true rfl) rfl (fun k0 C Z => ?_)
  refine x_aload_n C dX5_whyNotMet_0 rfl ?_
  refine x_iload_n C dX5_whyNotMet_1 rfl ?_
  refine x_callV C (c_X5_isSpeaker_k hk1) kv_X5_isSpeaker kl_X5_45 dX5_whyNotMet_2 mput_0 rfl rfl rfl rfl (Nat.le_of_ble_eq_true rfl) (Nat.le_of_ble_eq_true rfl) (Nat.le_of_ble_eq_true rfl) (Nat.le_of_ble_eq_true rfl) (Nat.le_of_ble_eq_true rfl) ?_
  refine x_beq C 23 dX5_whyNotMet_5 (by decide) (fun h => absurd hp1 h) (fun _ => ?_)
  refine x_aload_n C dX5_whyNotMet_8 rfl ?_
  refine x_iload_n C dX5_whyNotMet_9 rfl ?_
  refine x_callV C (c_X5_isSpeaker_no hny) kv_X5_isSpeaker kl_X5_45 dX5_whyNotMet_10 mput_0 rfl rfl rfl rfl (Nat.le_of_ble_eq_true rfl) (Nat.le_of_ble_eq_true rfl) (Nat.le_of_ble_eq_true rfl) (Nat.le_of_ble_eq_true rfl) (Nat.le_of_ble_eq_true rfl) ?_
  refine x_if_eq C 23 dX5_whyNotMet_13 (by decide) (fun _ => ?_) (fun h => absurd rfl h)
  refine x_iconst (v := (-1)) C dX5_whyNotMet_23 (by decide) ?_
  refine x_goto C 38 dX5_whyNotMet_24 (by decide) ?_
  exact x_zret C Z dX5_whyNotMet_38 rfl (Nat.le_of_ble_eq_true rfl) (Nat.le_of_ble_eq_true rfl) rfl rfl rfl
set_option maxRecDepth 100000 in
set_option maxHeartbeats 1000000 in
theorem c_X5_whyNotMet_n3 {l : Launch} {E : xEnv} {B N : Nat} {σ : Sg} {M : Nat} {U : Vs} {kp ho tx sc : Fn} {k1 : Nat} (hk1 : k1 < 8) (hp1 : U 10 k1 = 1){k2 : Nat} (hk2 : k2 < 8) (hp2 : U 10 k2 = 1) {m : Int32} (hb : ¬ (0 ≤ m ∧ m < 6)) : xM l yX5_whyNotMet cX5_whyNotMet 4 (some .int) 2 43 0 0 E B [.ref M, .int (nI k1), .int (nI k2), .int m] N (mput E σ M U kp ho tx sc) N (mput E σ M U kp ho tx sc) (some (.int (-1))) := by
  refine xM_of [some (.ref _), some (.int _), some (.int _), some (.int _)] (by decide +kernel) (Nat.le_of_ble_eq_true rfl) rfl (fun k0 C Z => ?_)
  refine x_aload_n C dX5_whyNotMet_0 rfl ?_
  refine x_iload_n C dX5_whyNotMet_1 rfl ?_
  refine x_callV C (c_X5_isSpeaker_k hk1) kv_X5_isSpeaker kl_X5_45 dX5_whyNotMet_2 mput_0 rfl rfl rfl rfl (Nat.le_of_ble_eq_true rfl) (Nat.le_of_ble_eq_true rfl) (Nat.le_of_ble_eq_true rfl) (Nat.le_of_ble_eq_true rfl) (Nat.le_of_ble_eq_true rfl) ?_
  refine x_beq C 23 dX5_whyNotMet_5 (by decide) (fun h => absurd hp1 h) (fun _ => ?_)
  refine x_aload_n C dX5_whyNotMet_8 rfl ?_
  refine x_iload_n C dX5_whyNotMet_9 rfl ?_
  refine x_callV C (c_X5_isSpeaker_k hk2) kv_X5_isSpeaker kl_X5_45 dX5_whyNotMet_10 mput_0 rfl rfl rfl rfl (Nat.le_of_ble_eq_true rfl) (Nat.le_of_ble_eq_true rfl) (Nat.le_of_ble_eq_true rfl) (Nat.le_of_ble_eq_true rfl) (Nat.le_of_ble_eq_true rfl) ?_
  refine x_beq C 23 dX5_whyNotMet_13 (by decide) (fun h => absurd hp2 h) (fun _ => ?_)
  refine x_iload_n C dX5_whyNotMet_16 rfl ?_
  refine x_callS C (c_X5_isMeaning _) ks_X5_isMeaning kl_X5_80 dX5_whyNotMet_17 rfl rfl rfl rfl (Nat.le_of_ble_eq_true rfl) (Nat.le_of_ble_eq_true rfl) (Nat.le_of_ble_eq_true rfl) (Nat.le_of_ble_eq_true rfl) (Nat.le_of_ble_eq_true rfl) ?_
  refine x_bne C 27 dX5_whyNotMet_20 (by decide) (fun h => absurd h hb) (fun _ => ?_)
  refine x_iconst (v := (-1)) C dX5_whyNotMet_23 (by decide) ?_
  refine x_goto C 38 dX5_whyNotMet_24 (by decide) ?_
  exact x_zret C Z dX5_whyNotMet_38 rfl (Nat.le_of_ble_eq_true rfl) (Nat.le_of_ble_eq_true rfl) rfl rfl rfl
set_option maxRecDepth 100000 in
set_option maxHeartbeats 1000000 in
theorem c_X5_whyNotChat_ok {l : Launch} {E : xEnv} {B N : Nat} {σ : Sg} {M : Nat} {U : Vs} {kp ho tx sc : Fn} {q : Nat} (h1 : 1 ≤ q) (h2 : q ≤ 200) (hc : 2 ≤ cnN (U 10) 8) : xM l yX5_whyNotChat cX5_whyNotChat 2 (some .int) 3 65 0 0 E B [.ref M, .int (nI q)] N (mput E σ M U kp ho tx sc) N (mput E σ M U kp ho tx sc) (some (.int 0)) := by
  refine xM_of [some (.ref _), some (.int _)] (by decide +kernel) (Nat.le_of_ble_eq_true rfl) rfl (fun k0 C Z => ?_)
  refine x_iload_n C dX5_whyNotChat_0 rfl ?_
  refine x_iconst (v := 1) C dX5_whyNotChat_1 (by decide) ?_
  refine x_sipush (v := 200) C dX5_whyNotChat_2 (by decide) ?_
  refine x_callS C (c_X5_within _ _ _) ks_X5_within kl_X5_30 dX5_whyNotChat_5 rfl rfl rfl rfl (Nat.le_of_ble_eq_true rfl) (Nat.le_of_ble_eq_true rfl) (Nat.le_of_ble_eq_true rfl) (Nat.le_of_ble_eq_true rfl) (Nat.le_of_ble_eq_true rfl) ?_
  refine x_bne C 16 dX5_whyNotChat_8 (by decide) (fun _ => ?_) (fun h => absurd ⟨nI_le (a := 1) h1 (by omega), nI_le (b := 200) h2 (by omega)⟩ h)
  refine x_aload_n C dX5_whyNotChat_16 rfl ?_
  refine x_callV C c_X5_speakers kv_X5_speakers kl_X5_92 dX5_whyNotChat_17 mput_0 rfl rfl rfl rfl (Nat.le_of_ble_eq_true rfl) (Nat.le_of_ble_eq_true rfl) (Nat.le_of_ble_eq_true rfl) (Nat.le_of_ble_eq_true rfl) (Nat.le_of_ble_eq_true rfl) ?_
  refine x_iconst (v := 2) C dX5_whyNotChat_20 (by decide) ?_
  refine x_ic_ge C 29 dX5_whyNotChat_21 (by decide) (fun _ => ?_) (fun h => absurd (nI_le (a := 2) hc (by have := cnN_le (P := U 10) 8; omega)) h)
  refine x_iconst (v := 0) C dX5_whyNotChat_29 (by decide) ?_
  exact x_zret C Z dX5_whyNotChat_30 rfl (Nat.le_of_ble_eq_true rfl) (Nat.le_of_ble_eq_true rfl) rfl rfl rfl
set_option maxRecDepth 100000 in
set_option maxHeartbeats 1000000 in
theorem c_X5_whyNotChat_few {l : Launch} {E : xEnv} {B N : Nat} {σ : Sg} {M : Nat} {U : Vs} {kp ho tx sc : Fn} {q : Nat} (h1 : 1 ≤ q) (h2 : q ≤ 200) (hc : ¬ 2 ≤ cnN (U 10) 8) : xM l yX5_whyNotChat cX5_whyNotChat 2 (some .int) 3 65 0 0 E B [.ref M, .int (nI q)] N (mput E σ M U kp ho tx sc) N (mput E σ M U kp ho tx sc) (some (.int (-3))) := by
  refine xM_of [some (.ref _), some (.int _)] (by decide +kernel) (Nat.le_of_ble_eq_true rfl) rfl (fun k0 C Z => ?_)
  refine x_iload_n C dX5_whyNotChat_0 rfl ?_
  refine x_iconst (v := 1) C dX5_whyNotChat_1 (by decide) ?_
  refine x_sipush (v := 200) C dX5_whyNotChat_2 (by decide) ?_
  refine x_callS C (c_X5_within _ _ _) ks_X5_within kl_X5_30 dX5_whyNotChat_5 rfl rfl rfl rfl (Nat.le_of_ble_eq_true rfl) (Nat.le_of_ble_eq_true rfl) (Nat.le_of_ble_eq_true rfl) (Nat.le_of_ble_eq_true rfl) (Nat.le_of_ble_eq_true rfl) ?_
  refine x_bne C 16 dX5_whyNotChat_8 (by decide) (fun _ => ?_) (fun h => absurd ⟨nI_le (a := 1) h1 (by omega), nI_le (b := 200) h2 (by omega)⟩ h)
  refine x_aload_n C dX5_whyNotChat_16 rfl ?_
  refine x_callV C c_X5_speakers kv_X5_speakers kl_X5_92 dX5_whyNotChat_17 mput_0 rfl rfl rfl rfl (Nat.le_of_ble_eq_true rfl) (Nat.le_of_ble_eq_true rfl) (Nat.le_of_ble_eq_true rfl) (Nat.le_of_ble_eq_true rfl) (Nat.le_of_ble_eq_true rfl) ?_
  refine x_iconst (v := 2) C dX5_whyNotChat_20 (by decide) ?_
  refine x_ic_ge C 29 dX5_whyNotChat_21 (by decide) (fun h => absurd h (nI_ge (b := 2) (by omega) (by omega))) (fun _ => ?_)
  refine x_bipush (v := (-3)) C dX5_whyNotChat_24 (by decide) ?_
  refine x_goto C 30 dX5_whyNotChat_26 (by decide) ?_
  exact x_zret C Z dX5_whyNotChat_30 rfl (Nat.le_of_ble_eq_true rfl) (Nat.le_of_ble_eq_true rfl) rfl rfl rfl
set_option maxRecDepth 100000 in
set_option maxHeartbeats 1000000 in
theorem c_X5_whyNotChat_bad {l : Launch} {E : xEnv} {B N : Nat} {σ : Sg} {M : Nat} {U : Vs} {kp ho tx sc : Fn} {x : Int32} (hb : ¬ (1 ≤ x ∧ x ≤ 200)) : xM l yX5_whyNotChat cX5_whyNotChat 2 (some .int) 3 65 0 0 E B [.ref M, .int x] N (mput E σ M U kp ho tx sc) N (mput E σ M U kp ho tx sc) (some (.int (-2))) := by
  refine xM_of [some (.ref _), some (.int _)] (by decide +kernel) (Nat.le_of_ble_eq_true rfl) rfl (fun k0 C Z => ?_)
  refine x_iload_n C dX5_whyNotChat_0 rfl ?_
  refine x_iconst (v := 1) C dX5_whyNotChat_1 (by decide) ?_
  refine x_sipush (v := 200) C dX5_whyNotChat_2 (by decide) ?_
  refine x_callS C (c_X5_within _ _ _) ks_X5_within kl_X5_30 dX5_whyNotChat_5 rfl rfl rfl rfl (Nat.le_of_ble_eq_true rfl) (Nat.le_of_ble_eq_true rfl) (Nat.le_of_ble_eq_true rfl) (Nat.le_of_ble_eq_true rfl) (Nat.le_of_ble_eq_true rfl) ?_
  refine x_bne C 16 dX5_whyNotChat_8 (by decide) (fun h => absurd h hb) (fun _ => ?_)
  refine x_bipush (v := (-2)) C dX5_whyNotChat_11 (by decide) ?_
  refine x_goto C 30 dX5_whyNotChat_13 (by decide) ?_
  exact x_zret C Z dX5_whyNotChat_30 rfl (Nat.le_of_ble_eq_true rfl) (Nat.le_of_ble_eq_true rfl) rfl rfl rfl
set_option maxRecDepth 100000 in
set_option maxHeartbeats 1000000 in
theorem c_X5_chats {l : Launch} {E : xEnv} {B N : Nat} {σ : Sg} {M : Nat} {U : Vs} {kp ho tx sc : Fn} {n c : Nat} (hn : n < 2 ^ 31) (hc : cnN (U 10) 8 = c) (h2 : 2 ≤ c) (hs : sok U) : xM l yX5_chats cX5_chats 8 (some .int) 5 118 0 0 E B [.ref M, .int (nI n)] N (mput E σ M U kp ho tx sc) N (mput E σ M (chL U c n) kp ho tx (scC U c sc n)) (some (.int (chL U c n 9 2 - U 9 2))) := by
  refine xM_of [some (.ref _), some (.int _), none, none, none, none, none, none] (by decide +kernel) (Nat.le_of_ble_eq_true rfl) rfl (fun k0 C Z => ?_)
  have hc8 : c ≤ 8 := hc ▸ cnN_le 8
  have hl : ∀ i, i ≤ n → xX k0 N 0 0 (mput E σ M (chL U c i) kp ho tx (scC U c sc i)) 10 [some (.ref M), some (.int (nI n)), some (.int (nI c)), some (.int (chL U c i 9 2 - U 9 2)), some (.int (nI i)), none, none, none] [] := by
    refine x_for n ?_ ?_
    · refine x_iload C dX5_chats_10 rfl ?_
      refine x_iload_n C dX5_chats_12 rfl ?_
      refine x_ic_ge C 79 dX5_chats_13 (by decide) (fun _ => ?_) (fun h => absurd (nI_le (Nat.le_refl _) hn) h)
      refine x_iload_n C dX5_chats_79 rfl ?_
      exact x_zret C Z dX5_chats_80 rfl (Nat.le_of_ble_eq_true rfl) (Nat.le_of_ble_eq_true rfl) rfl rfl rfl
    · intro i hi ih
      have hi2 : i < n := hi
      obtain ⟨f1, f2⟩ := chL_f hc h2 hs i
      have hc2 : cnN (chL U c i 10) 8 = c := by rw [f2 10 (by decide) (by decide) (by decide)]; exact hc
      have ih2 : xX k0 N 0 0 (mput E σ M (chT (chL U c i) c) kp ho tx (scT (chL U c i) c (scC U c sc i))) 10 [some (.ref M), some (.int (nI n)), some (.int (nI c)), some (.int (drV (drV (drV (chL U c i))) 9 2 + (if (mt1 (drV (drV (drV (chL U c i)))) (c1S (chL U c i) c) (c2S (chL U c i) c) (cmN (chL U c i))).2.2 = cmN (chL U c i) then 1 else 0) - U 9 2)), some (.int (nI (i + 1))), none, none, none] [] := by
        have g := ch_f hc2 h2
        rw [← mtV9 g.1.1 g.2.1.1]
        exact ih
      clear ih f2
      generalize chL U c i = W at f1 hc2 ih2 ⊢
      generalize scC U c sc i = sw at ih2 ⊢
      obtain ⟨⟨a1, a2, a3, a4⟩, ⟨b1, b2, b3, b4⟩, m1⟩ := ch_f hc2 h2
      rw [drV9, drV9, drV9] at ih2
      refine x_iload C dX5_chats_10 rfl ?_
      refine x_iload_n C dX5_chats_12 rfl ?_
      refine x_ic_ge C 79 dX5_chats_13 (by decide) (fun h => absurd h (nI_ge hi2 hn)) (fun _ => ?_)
      refine x_aload_n C dX5_chats_16 rfl ?_
      refine x_aload_n C dX5_chats_17 rfl ?_
      refine x_iload_n C dX5_chats_18 rfl ?_
      refine x_callV C (c_X5_draws f1 (n := c) (by omega) (by omega)) kv_X5_draws kl_X5_64 dX5_chats_19 mput_0 rfl rfl rfl rfl (Nat.le_of_ble_eq_true rfl) (Nat.le_of_ble_eq_true rfl) (Nat.le_of_ble_eq_true rfl) (Nat.le_of_ble_eq_true rfl) (Nat.le_of_ble_eq_true rfl) ?_
      refine x_bipush (v := (-6)) C dX5_chats_22 (by decide) ?_
      refine x_callV C (c_X5_speakerAt (U := drV W) (q := c1S W c) (p := dvN W c) a1 (by rw [drV_r (by decide)]; exact a2) (nI_ne6 (by omega)) (by rw [drV_r (by decide), cx_m6 _ (by omega)]; exact a4)) kv_X5_speakerAt kl_X5_96 dX5_chats_24 mput_0 rfl rfl rfl rfl (Nat.le_of_ble_eq_true rfl) (Nat.le_of_ble_eq_true rfl) (Nat.le_of_ble_eq_true rfl) (Nat.le_of_ble_eq_true rfl) (Nat.le_of_ble_eq_true rfl) ?_
      refine x_istore C dX5_chats_27 (by decide) rfl ?_
      refine x_aload_n C dX5_chats_29 rfl ?_
      refine x_aload_n C dX5_chats_30 rfl ?_
      refine x_iload_n C dX5_chats_31 rfl ?_
      refine x_iconst (v := 1) C dX5_chats_32 (by decide) ?_
      refine x_isub C dX5_chats_33 ?_
      rw [show nI c - 1 = nI (c - 1) from pk_sub (b := 1) (by omega)]
      refine x_callV C (c_X5_draws drV_ok (n := c - 1) (by omega) (by omega)) kv_X5_draws kl_X5_64 dX5_chats_34 mput_0 rfl rfl rfl rfl (Nat.le_of_ble_eq_true rfl) (Nat.le_of_ble_eq_true rfl) (Nat.le_of_ble_eq_true rfl) (Nat.le_of_ble_eq_true rfl) (Nat.le_of_ble_eq_true rfl) ?_
      refine x_iload C dX5_chats_37 rfl ?_
      refine x_callV C (c_X5_speakerAt (U := drV (drV W)) (q := c2S W c) (p := dvN (drV W) (c - 1)) b1 (by rw [drV_r (by decide), drV_r (by decide)]; exact b2) b3 (by rw [drV_r (by decide), drV_r (by decide)]; exact b4)) kv_X5_speakerAt kl_X5_96 dX5_chats_39 mput_0 rfl rfl rfl rfl (Nat.le_of_ble_eq_true rfl) (Nat.le_of_ble_eq_true rfl) (Nat.le_of_ble_eq_true rfl) (Nat.le_of_ble_eq_true rfl) (Nat.le_of_ble_eq_true rfl) ?_
      refine x_istore C dX5_chats_42 (by decide) rfl ?_
      refine x_aload_n C dX5_chats_44 rfl ?_
      refine x_bipush (v := 6) C dX5_chats_45 (by decide) ?_
      refine x_callV C (c_X5_draws drV_ok (n := 6) (by decide) (by decide)) kv_X5_draws kl_X5_64 dX5_chats_47 mput_0 rfl rfl rfl rfl (Nat.le_of_ble_eq_true rfl) (Nat.le_of_ble_eq_true rfl) (Nat.le_of_ble_eq_true rfl) (Nat.le_of_ble_eq_true rfl) (Nat.le_of_ble_eq_true rfl) ?_
      refine x_istore C dX5_chats_50 (by decide) rfl ?_
      refine x_iload_n C dX5_chats_52 rfl ?_
      refine x_aload_n C dX5_chats_53 rfl ?_
      refine x_iload C dX5_chats_54 rfl ?_
      refine x_iload C dX5_chats_56 rfl ?_
      refine x_iload C dX5_chats_58 rfl ?_
      refine x_callV C (c_X5_meets (U := drV (drV (drV W))) (k1 := c1S W c) (k2 := c2S W c) (m := cmN W) a1 b1 m1 drV_ok) kv_X5_meets kl_X5_89 dX5_chats_60 mput_0 rfl rfl rfl rfl (Nat.le_of_ble_eq_true rfl) (Nat.le_of_ble_eq_true rfl) (Nat.le_of_ble_eq_true rfl) (Nat.le_of_ble_eq_true rfl) (Nat.le_of_ble_eq_true rfl) ?_
      refine x_beq C 70 dX5_chats_63 (by decide) (fun h63 => ?_) (fun h63 => ?_)
      · refine x_iconst (v := 0) C dX5_chats_70 (by decide) ?_
        refine x_iadd C dX5_chats_71 ?_
        refine x_istore_n C dX5_chats_72 (by decide) rfl ?_
        refine x_iinc C dX5_chats_73 rfl (nI_inc _) (by decide) rfl ?_
        refine x_goto C 10 dX5_chats_76 (by decide) ?_
        refine xX.cl ih2 rfl (And.intro rfl (And.intro rfl (And.intro rfl (And.intro (congrArg (fun z => some (some (Value.int z))) (gd_f h63 _ _)) (And.intro rfl trivial))))) rfl
      · refine x_iconst (v := 1) C dX5_chats_66 (by decide) ?_
        refine x_goto C 71 dX5_chats_67 (by decide) ?_
        refine x_iadd C dX5_chats_71 ?_
        refine x_istore_n C dX5_chats_72 (by decide) rfl ?_
        refine x_iinc C dX5_chats_73 rfl (nI_inc _) (by decide) rfl ?_
        refine x_goto C 10 dX5_chats_76 (by decide) ?_
        refine xX.cl ih2 rfl (And.intro rfl (And.intro rfl (And.intro rfl (And.intro (congrArg (fun z => some (some (Value.int z))) (gd_t h63 _ _)) (And.intro rfl trivial))))) rfl
  refine x_aload_n C dX5_chats_0 rfl ?_
  refine x_callV C c_X5_speakers kv_X5_speakers kl_X5_92 dX5_chats_1 mput_0 rfl rfl rfl rfl (Nat.le_of_ble_eq_true rfl) (Nat.le_of_ble_eq_true rfl) (Nat.le_of_ble_eq_true rfl) (Nat.le_of_ble_eq_true rfl) (Nat.le_of_ble_eq_true rfl) ?_
  refine x_istore_n C dX5_chats_4 (by decide) rfl ?_
  refine x_iconst (v := 0) C dX5_chats_5 (by decide) ?_
  refine x_istore_n C dX5_chats_6 (by decide) rfl ?_
  refine x_iconst (v := 0) C dX5_chats_7 (by decide) ?_
  refine x_istore C dX5_chats_8 (by decide) rfl ?_
  refine xX.cl (hl 0 (by omega)) rfl (And.intro rfl (And.intro rfl (And.intro (congrArg (fun z => some (some (Value.int z))) (congrArg nI hc)) (And.intro (congrArg (fun z => some (some (Value.int z))) (Int32.sub_self _).symm) (And.intro rfl trivial))))) rfl
