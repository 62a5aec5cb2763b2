/-! the model's single steps -/
theorem le_s {x : Int32} {n : Nat} (hn : n + 1 < 2 ^ 31) : x ≤ nI n ↔ x < nI (n + 1) := by
  rw [Int32.le_iff_toInt_le, Int32.lt_iff_toInt_lt, nI_toInt (by omega), nI_toInt hn]
  omega
theorem wi_s {x : Int32} {n : Nat} (hn : n + 1 < 2 ^ 31) : xb (0 ≤ x ∧ x ≤ nI n) = xb (0 ≤ x ∧ x < nI (n + 1)) := by
  unfold xb
  by_cases h : x ≤ nI n
  · have h2 := (le_s hn).mp h
    simp only [h, h2]
  · have h2 : ¬ x < nI (n + 1) := fun z => h ((le_s hn).mpr z)
    simp only [h, h2]
theorem ix_p0 (s : Nat) : (9 : Int32) + 3 * nI s + 0 = nI (9 + 3 * s) := by
  rw [show (3 : Int32) = nI 3 from rfl, pk_mul, show (9 : Int32) = nI 9 from rfl, nI_add, show (0 : Int32) = nI 0 from rfl, nI_add]; rfl
theorem ix_p1 (s : Nat) : (9 : Int32) + 3 * nI s + 1 = nI (9 + 3 * s + 1) := by
  rw [show (3 : Int32) = nI 3 from rfl, pk_mul, show (9 : Int32) = nI 9 from rfl, nI_add, show (1 : Int32) = nI 1 from rfl, nI_add]
theorem ix_p2 (s : Nat) : (9 : Int32) + 3 * nI s + 2 = nI (9 + 3 * s + 2) := by
  rw [show (3 : Int32) = nI 3 from rfl, pk_mul, show (9 : Int32) = nI 9 from rfl, nI_add, show (2 : Int32) = nI 2 from rfl, nI_add]
theorem ix_w (s m w : Nat) : (33 : Int32) + 84 * nI s + 14 * nI m + nI w = nI (33 + 84 * s + (14 * m + w)) := by
  rw [show (84 : Int32) = nI 84 from rfl, pk_mul, show (33 : Int32) = nI 33 from rfl, nI_add, show (14 : Int32) = nI 14 from rfl, pk_mul, nI_add, nI_add, show 33 + 84 * s + 14 * m + w = 33 + 84 * s + (14 * m + w) by omega]
theorem ix_k (s j : Nat) : (33 : Int32) + 84 * nI s + nI j = nI (33 + 84 * s + j) := by
  rw [show (84 : Int32) = nI 84 from rfl, pk_mul, show (33 : Int32) = nI 33 from rfl, nI_add, nI_add]
theorem ix_8 (j : Nat) : (5 : Int32) + nI j = nI (5 + j) := by
  rw [show (5 : Int32) = nI 5 from rfl, nI_add]
theorem cl_lo {v : Int32} (h : ¬ 0 ≤ v) : clS v = 0 := by
  unfold clS
  have h1 : v < 0 := Int32.not_le.mp h
  have h2 : v < 99 := Int32.lt_trans h1 (by decide)
  rw [if_pos h2, if_neg (fun z => h (Int32.le_of_lt z))]
theorem cl_mid {v : Int32} (h : 0 ≤ v) (h2 : v ≤ 99) : clS v = v := by
  unfold clS
  by_cases e : v < 99
  · rw [if_pos e]
    by_cases e2 : 0 < v
    · rw [if_pos e2]
    · rw [if_neg e2]; exact Int32.le_antisymm h (Int32.not_lt.mp e2)
  · rw [if_neg e, if_pos (by decide)]; exact Int32.le_antisymm (Int32.not_lt.mp e) h2
theorem cl_hi {v : Int32} (h2 : ¬ v ≤ 99) : clS v = 99 := by
  unfold clS
  have e : ¬ v < 99 := fun z => h2 (Int32.le_of_lt z)
  rw [if_neg e, if_pos (by decide)]
theorem ln_lo {a g : Int32} (h : ¬ 1 ≤ g - a / 20) : lnS a g = 1 := by
  unfold lnS
  rw [if_neg (fun z => h (Int32.le_of_lt z))]
theorem ln_hi {a g : Int32} (h : 1 ≤ g - a / 20) : lnS a g = g - a / 20 := by
  unfold lnS
  by_cases e : 1 < g - a / 20
  · rw [if_pos e]
  · rw [if_neg e]; exact Int32.le_antisymm h (Int32.not_lt.mp e)
set_option maxRecDepth 100000 in
set_option maxHeartbeats 1000000 in
theorem c_X5_within {l : Launch} {E : xEnv} {B N : Nat} {σ : Sg} {M : Nat} {U : Vs} {kp ho tx sc : Fn} (x y v : Int32) : xM l yX5_within cX5_within 3 (some .boolean) 0 0 0 0 E B [.int x, .int y, .int v] N (mput E σ M U kp ho tx sc) N (mput E σ M U kp ho tx sc) (some (.int (xb (y ≤ x ∧ x ≤ v)))) := by
  refine xM_of [some (.int _), some (.int _), some (.int _)] (by decide +kernel) (Nat.le_of_ble_eq_true rfl) rfl (fun k0 C Z => ?_)
  refine x_iload_n C dX5_within_0 rfl ?_
  refine x_iload_n C dX5_within_1 rfl ?_
  refine x_ic_lt C 14 dX5_within_2 (by decide) (fun h2 => ?_) (fun h2 => ?_)
  · refine x_iconst (v := 0) C dX5_within_14 (by decide) ?_
    exact x_zret C Z dX5_within_15 rfl (Nat.le_of_ble_eq_true rfl) (Nat.le_of_ble_eq_true rfl) rfl rfl (b_f (fun z => absurd h2 (Int32.not_lt.mpr z.1))).symm
  · refine x_iload_n C dX5_within_5 rfl ?_
    refine x_iload_n C dX5_within_6 rfl ?_
    refine x_ic_gt C 14 dX5_within_7 (by decide) (fun h7 => ?_) (fun h7 => ?_)
    · refine x_iconst (v := 0) C dX5_within_14 (by decide) ?_
      exact x_zret C Z dX5_within_15 rfl (Nat.le_of_ble_eq_true rfl) (Nat.le_of_ble_eq_true rfl) rfl rfl (b_f (fun z => absurd h7 (Int32.not_lt.mpr z.2))).symm
    · refine x_iconst (v := 1) C dX5_within_10 (by decide) ?_
      refine x_goto C 15 dX5_within_11 (by decide) ?_
      exact x_zret C Z dX5_within_15 rfl (Nat.le_of_ble_eq_true rfl) (Nat.le_of_ble_eq_true rfl) rfl rfl (b_t ⟨Int32.not_lt.mp h2, Int32.not_lt.mp h7⟩).symm
set_option maxRecDepth 100000 in
set_option maxHeartbeats 1000000 in
theorem c_X5_isMeaning {l : Launch} {E : xEnv} {B N : Nat} {σ : Sg} {M : Nat} {U : Vs} {kp ho tx sc : Fn} (x : Int32) : xM l yX5_isMeaning cX5_isMeaning 1 (some .boolean) 1 22 0 0 E B [.int x] N (mput E σ M U kp ho tx sc) N (mput E σ M U kp ho tx sc) (some (.int (xb (0 ≤ x ∧ x < 6)))) := by
  refine xM_of [some (.int _)] (by decide +kernel) (Nat.le_of_ble_eq_true rfl) rfl (fun k0 C Z => ?_)
  refine x_iload_n C dX5_isMeaning_0 rfl ?_
  refine x_iconst (v := 0) C dX5_isMeaning_1 (by decide) ?_
  refine x_iconst (v := 5) C dX5_isMeaning_2 (by decide) ?_
  refine x_callS C (c_X5_within _ _ _) ks_X5_within kl_X5_30 dX5_isMeaning_3 rfl rfl rfl rfl (Nat.le_of_ble_eq_true rfl) (Nat.le_of_ble_eq_true rfl) (Nat.le_of_ble_eq_true rfl) (Nat.le_of_ble_eq_true rfl) (Nat.le_of_ble_eq_true rfl) ?_
  exact x_zret C Z dX5_isMeaning_6 (by unfold xb; split <;> rfl) (Nat.le_of_ble_eq_true rfl) (Nat.le_of_ble_eq_true rfl) rfl rfl (wi_s (n := 5) (by decide))
set_option maxRecDepth 100000 in
set_option maxHeartbeats 1000000 in
theorem c_X5_isWord {l : Launch} {E : xEnv} {B N : Nat} {σ : Sg} {M : Nat} {U : Vs} {kp ho tx sc : Fn} (x : Int32) : xM l yX5_isWord cX5_isWord 1 (some .boolean) 1 22 0 0 E B [.int x] N (mput E σ M U kp ho tx sc) N (mput E σ M U kp ho tx sc) (some (.int (xb (0 ≤ x ∧ x < 14)))) := by
  refine xM_of [some (.int _)] (by decide +kernel) (Nat.le_of_ble_eq_true rfl) rfl (fun k0 C Z => ?_)
  refine x_iload_n C dX5_isWord_0 rfl ?_
  refine x_iconst (v := 0) C dX5_isWord_1 (by decide) ?_
  refine x_bipush (v := 13) C dX5_isWord_2 (by decide) ?_
  refine x_callS C (c_X5_within _ _ _) ks_X5_within kl_X5_30 dX5_isWord_4 rfl rfl rfl rfl (Nat.le_of_ble_eq_true rfl) (Nat.le_of_ble_eq_true rfl) (Nat.le_of_ble_eq_true rfl) (Nat.le_of_ble_eq_true rfl) (Nat.le_of_ble_eq_true rfl) ?_
  exact x_zret C Z dX5_isWord_7 (by unfold xb; split <;> rfl) (Nat.le_of_ble_eq_true rfl) (Nat.le_of_ble_eq_true rfl) rfl rfl (wi_s (n := 13) (by decide))
set_option maxRecDepth 100000 in
set_option maxHeartbeats 1000000 in
theorem c_X5_isSetting {l : Launch} {E : xEnv} {B N : Nat} {σ : Sg} {M : Nat} {U : Vs} {kp ho tx sc : Fn} (x : Int32) : xM l yX5_isSetting cX5_isSetting 1 (some .boolean) 1 22 0 0 E B [.int x] N (mput E σ M U kp ho tx sc) N (mput E σ M U kp ho tx sc) (some (.int (xb (0 ≤ x ∧ x < 4)))) := by
  refine xM_of [some (.int _)] (by decide +kernel) (Nat.le_of_ble_eq_true rfl) rfl (fun k0 C Z => ?_)
  refine x_iload_n C dX5_isSetting_0 rfl ?_
  refine x_iconst (v := 0) C dX5_isSetting_1 (by decide) ?_
  refine x_iconst (v := 3) C dX5_isSetting_2 (by decide) ?_
  refine x_callS C (c_X5_within _ _ _) ks_X5_within kl_X5_30 dX5_isSetting_3 rfl rfl rfl rfl (Nat.le_of_ble_eq_true rfl) (Nat.le_of_ble_eq_true rfl) (Nat.le_of_ble_eq_true rfl) (Nat.le_of_ble_eq_true rfl) (Nat.le_of_ble_eq_true rfl) ?_
  exact x_zret C Z dX5_isSetting_6 (by unfold xb; split <;> rfl) (Nat.le_of_ble_eq_true rfl) (Nat.le_of_ble_eq_true rfl) rfl rfl (wi_s (n := 3) (by decide))
set_option maxRecDepth 100000 in
set_option maxHeartbeats 1000000 in
theorem c_X5_part0 {l : Launch} {E : xEnv} {B N : Nat} {σ : Sg} {M : Nat} {U : Vs} {kp ho tx sc : Fn} {s : Nat} (hs : s < 8) : xM l yX5_part cX5_part 3 (some .int) 0 0 0 0 E B [.ref M, .int (nI s), .int 0] N (mput E σ M U kp ho tx sc) N (mput E σ M U kp ho tx sc) (some (.int (xfl (U 10 s)))) := by
  refine xM_of [some (.ref _), some (.int _), some (.int _)] (by decide +kernel) (Nat.le_of_ble_eq_true rfl) rfl (fun k0 C Z => ?_)
  refine x_aload_n C dX5_part_0 rfl ?_
  refine x_get C kf_X5_7 mput_0 rfl dX5_part_1 ?_
  refine x_bipush (v := 9) C dX5_part_4 (by decide) ?_
  refine x_iconst (v := 3) C dX5_part_6 (by decide) ?_
  refine x_iload_n C dX5_part_7 rfl ?_
  refine x_imul C dX5_part_8 ?_
  refine x_iadd C dX5_part_9 ?_
  refine x_iload_n C dX5_part_10 rfl ?_
  refine x_iadd C dX5_part_11 ?_
  refine x_iald2 C mput_1 (ix_p0 s) (by omega) (by decide) dX5_part_12 ?_
  exact x_zret C Z dX5_part_13 rfl (Nat.le_of_ble_eq_true rfl) (Nat.le_of_ble_eq_true rfl) rfl rfl (fl_10 hs)
set_option maxRecDepth 100000 in
set_option maxHeartbeats 1000000 in
theorem c_X5_setPart0 {l : Launch} {E : xEnv} {B N : Nat} {σ : Sg} {M : Nat} {U : Vs} {kp ho tx sc : Fn} {s : Nat} (hs : s < 8) (x : Int32) (y : Int32) (hx : x = xfl y) : xM l yX5_setPart cX5_setPart 4 none 0 0 0 0 E B [.ref M, .int (nI s), .int 0, .int x] N (mput E σ M U kp ho tx sc) N (mput E σ M (up2 U 10 s y) kp ho tx sc) none := by
  refine xM_of [some (.ref _), some (.int _), some (.int _), some (.int _)] (by decide +kernel) (Nat.le_of_ble_eq_true rfl) rfl (fun k0 C Z => ?_)
  refine x_aload_n C dX5_setPart_0 rfl ?_
  refine x_get C kf_X5_7 mput_0 rfl dX5_setPart_1 ?_
  refine x_bipush (v := 9) C dX5_setPart_4 (by decide) ?_
  refine x_iconst (v := 3) C dX5_setPart_6 (by decide) ?_
  refine x_iload_n C dX5_setPart_7 rfl ?_
  refine x_imul C dX5_setPart_8 ?_
  refine x_iadd C dX5_setPart_9 ?_
  refine x_iload_n C dX5_setPart_10 rfl ?_
  refine x_iadd C dX5_setPart_11 ?_
  refine x_iload_n C dX5_setPart_12 rfl ?_
  refine x_iast2 C mput_1 (ix_p0 s) (by omega) (by decide) (flu_10 hs _ _ hx) (mput_st _) dX5_setPart_13 ?_
  exact x_vret C Z dX5_setPart_14 (Nat.le_of_ble_eq_true rfl) (Nat.le_of_ble_eq_true rfl) rfl rfl
set_option maxRecDepth 100000 in
set_option maxHeartbeats 1000000 in
theorem c_X5_part1 {l : Launch} {E : xEnv} {B N : Nat} {σ : Sg} {M : Nat} {U : Vs} {kp ho tx sc : Fn} {s : Nat} (hs : s < 8) : xM l yX5_part cX5_part 3 (some .int) 0 0 0 0 E B [.ref M, .int (nI s), .int 1] N (mput E σ M U kp ho tx sc) N (mput E σ M U kp ho tx sc) (some (.int (U 11 s))) := by
  refine xM_of [some (.ref _), some (.int _), some (.int _)] (by decide +kernel) (Nat.le_of_ble_eq_true rfl) rfl (fun k0 C Z => ?_)
  refine x_aload_n C dX5_part_0 rfl ?_
  refine x_get C kf_X5_7 mput_0 rfl dX5_part_1 ?_
  refine x_bipush (v := 9) C dX5_part_4 (by decide) ?_
  refine x_iconst (v := 3) C dX5_part_6 (by decide) ?_
  refine x_iload_n C dX5_part_7 rfl ?_
  refine x_imul C dX5_part_8 ?_
  refine x_iadd C dX5_part_9 ?_
  refine x_iload_n C dX5_part_10 rfl ?_
  refine x_iadd C dX5_part_11 ?_
  refine x_iald2 C mput_1 (ix_p1 s) (by omega) (by decide) dX5_part_12 ?_
  exact x_zret C Z dX5_part_13 rfl (Nat.le_of_ble_eq_true rfl) (Nat.le_of_ble_eq_true rfl) rfl rfl (fl_11 hs)
set_option maxRecDepth 100000 in
set_option maxHeartbeats 1000000 in
theorem c_X5_setPart1 {l : Launch} {E : xEnv} {B N : Nat} {σ : Sg} {M : Nat} {U : Vs} {kp ho tx sc : Fn} {s : Nat} (hs : s < 8) (x : Int32) : xM l yX5_setPart cX5_setPart 4 none 0 0 0 0 E B [.ref M, .int (nI s), .int 1, .int x] N (mput E σ M U kp ho tx sc) N (mput E σ M (up2 U 11 s x) kp ho tx sc) none := by
  refine xM_of [some (.ref _), some (.int _), some (.int _), some (.int _)] (by decide +kernel) (Nat.le_of_ble_eq_true rfl) rfl (fun k0 C Z => ?_)
  refine x_aload_n C dX5_setPart_0 rfl ?_
  refine x_get C kf_X5_7 mput_0 rfl dX5_setPart_1 ?_
  refine x_bipush (v := 9) C dX5_setPart_4 (by decide) ?_
  refine x_iconst (v := 3) C dX5_setPart_6 (by decide) ?_
  refine x_iload_n C dX5_setPart_7 rfl ?_
  refine x_imul C dX5_setPart_8 ?_
  refine x_iadd C dX5_setPart_9 ?_
  refine x_iload_n C dX5_setPart_10 rfl ?_
  refine x_iadd C dX5_setPart_11 ?_
  refine x_iload_n C dX5_setPart_12 rfl ?_
  refine x_iast2 C mput_1 (ix_p1 s) (by omega) (by decide) (flu_11 hs _) (mput_st _) dX5_setPart_13 ?_
  exact x_vret C Z dX5_setPart_14 (Nat.le_of_ble_eq_true rfl) (Nat.le_of_ble_eq_true rfl) rfl rfl
set_option maxRecDepth 100000 in
set_option maxHeartbeats 1000000 in
theorem c_X5_part2 {l : Launch} {E : xEnv} {B N : Nat} {σ : Sg} {M : Nat} {U : Vs} {kp ho tx sc : Fn} {s : Nat} (hs : s < 8) : xM l yX5_part cX5_part 3 (some .int) 0 0 0 0 E B [.ref M, .int (nI s), .int 2] N (mput E σ M U kp ho tx sc) N (mput E σ M U kp ho tx sc) (some (.int (U 12 s))) := by
  refine xM_of [some (.ref _), some (.int _), some (.int _)] (by decide +kernel) (Nat.le_of_ble_eq_true rfl) rfl (fun k0 C Z => ?_)
  refine x_aload_n C dX5_part_0 rfl ?_
  refine x_get C kf_X5_7 mput_0 rfl dX5_part_1 ?_
  refine x_bipush (v := 9) C dX5_part_4 (by decide) ?_
  refine x_iconst (v := 3) C dX5_part_6 (by decide) ?_
  refine x_iload_n C dX5_part_7 rfl ?_
  refine x_imul C dX5_part_8 ?_
  refine x_iadd C dX5_part_9 ?_
  refine x_iload_n C dX5_part_10 rfl ?_
  refine x_iadd C dX5_part_11 ?_
  refine x_iald2 C mput_1 (ix_p2 s) (by omega) (by decide) dX5_part_12 ?_
  exact x_zret C Z dX5_part_13 rfl (Nat.le_of_ble_eq_true rfl) (Nat.le_of_ble_eq_true rfl) rfl rfl (fl_12 hs)
set_option maxRecDepth 100000 in
set_option maxHeartbeats 1000000 in
theorem c_X5_setPart2 {l : Launch} {E : xEnv} {B N : Nat} {σ : Sg} {M : Nat} {U : Vs} {kp ho tx sc : Fn} {s : Nat} (hs : s < 8) (x : Int32) : xM l yX5_setPart cX5_setPart 4 none 0 0 0 0 E B [.ref M, .int (nI s), .int 2, .int x] N (mput E σ M U kp ho tx sc) N (mput E σ M (up2 U 12 s x) kp ho tx sc) none := by
  refine xM_of [some (.ref _), some (.int _), some (.int _), some (.int _)] (by decide +kernel) (Nat.le_of_ble_eq_true rfl) rfl (fun k0 C Z => ?_)
  refine x_aload_n C dX5_setPart_0 rfl ?_
  refine x_get C kf_X5_7 mput_0 rfl dX5_setPart_1 ?_
  refine x_bipush (v := 9) C dX5_setPart_4 (by decide) ?_
  refine x_iconst (v := 3) C dX5_setPart_6 (by decide) ?_
  refine x_iload_n C dX5_setPart_7 rfl ?_
  refine x_imul C dX5_setPart_8 ?_
  refine x_iadd C dX5_setPart_9 ?_
  refine x_iload_n C dX5_setPart_10 rfl ?_
  refine x_iadd C dX5_setPart_11 ?_
  refine x_iload_n C dX5_setPart_12 rfl ?_
  refine x_iast2 C mput_1 (ix_p2 s) (by omega) (by decide) (flu_12 hs _) (mput_st _) dX5_setPart_13 ?_
  exact x_vret C Z dX5_setPart_14 (Nat.le_of_ble_eq_true rfl) (Nat.le_of_ble_eq_true rfl) rfl rfl
set_option maxRecDepth 100000 in
set_option maxHeartbeats 1000000 in
theorem c_X5_isSpeaker_k {l : Launch} {E : xEnv} {B N : Nat} {σ : Sg} {M : Nat} {U : Vs} {kp ho tx sc : Fn} {k : Nat} (hk : k < 8) : xM l yX5_isSpeaker cX5_isSpeaker 2 (some .boolean) 1 22 0 0 E B [.ref M, .int (nI k)] N (mput E σ M U kp ho tx sc) N (mput E σ M U kp ho tx sc) (some (.int (xb (U 10 k = 1)))) := by
  refine xM_of [some (.ref _), some (.int _)] (by decide +kernel) (Nat.le_of_ble_eq_true rfl) rfl (fun k0 C Z => ?_)
  refine x_iload_n C dX5_isSpeaker_0 rfl ?_
  refine x_iconst (v := 0) C dX5_isSpeaker_1 (by decide) ?_
  refine x_bipush (v := 7) C dX5_isSpeaker_2 (by decide) ?_
  refine x_callS C (c_X5_within _ _ _) ks_X5_within kl_X5_30 dX5_isSpeaker_4 rfl rfl rfl rfl (Nat.le_of_ble_eq_true rfl) (Nat.le_of_ble_eq_true rfl) (Nat.le_of_ble_eq_true rfl) (Nat.le_of_ble_eq_true rfl) (Nat.le_of_ble_eq_true rfl) ?_
  refine x_beq C 24 dX5_isSpeaker_7 (by decide) (fun h => absurd ⟨nI_pos' (by omega), nI_le (b := 7) (by omega) (by omega)⟩ h) (fun _ => ?_)
  refine x_aload_n C dX5_isSpeaker_10 rfl ?_
  refine x_iload_n C dX5_isSpeaker_11 rfl ?_
  refine x_iconst (v := 0) C dX5_isSpeaker_12 (by decide) ?_
  refine x_callV C (c_X5_part0 hk) kv_X5_part kl_X5_34 dX5_isSpeaker_13 mput_0 rfl rfl rfl rfl (Nat.le_of_ble_eq_true rfl) (Nat.le_of_ble_eq_true rfl) (Nat.le_of_ble_eq_true rfl) (Nat.le_of_ble_eq_true rfl) (Nat.le_of_ble_eq_true rfl) ?_
  refine x_iconst (v := 1) C dX5_isSpeaker_16 (by decide) ?_
  rw [show (xfl (U 10 k) = xb (U 10 k = 1)) from rfl]
  refine x_ic_ne C 24 dX5_isSpeaker_17 (by decide) (fun h17 => ?_) (fun h17 => ?_)
  · refine x_iconst (v := 0) C dX5_isSpeaker_24 (by decide) ?_
    exact x_zret C Z dX5_isSpeaker_25 rfl (Nat.le_of_ble_eq_true rfl) (Nat.le_of_ble_eq_true rfl) rfl rfl (b_f (fun z => h17 (b_t z))).symm
  · refine x_iconst (v := 1) C dX5_isSpeaker_20 (by decide) ?_
    refine x_goto C 25 dX5_isSpeaker_21 (by decide) ?_
    exact x_zret C Z dX5_isSpeaker_25 rfl (Nat.le_of_ble_eq_true rfl) (Nat.le_of_ble_eq_true rfl) rfl rfl (b_t (Classical.byContradiction (fun z => absurd (h17.symm.trans (b_f z)) (by decide)))).symm
set_option maxRecDepth 100000 in
set_option maxHeartbeats 1000000 in
theorem c_X5_isSpeaker_no {l : Launch} {E : xEnv} {B N : Nat} {σ : Sg} {M : Nat} {U : Vs} {kp ho tx sc : Fn} {x : Int32} (hno : ¬ ∃ k, k < 8 ∧ x = nI k ∧ U 10 k = 1) : xM l yX5_isSpeaker cX5_isSpeaker 2 (some .boolean) 1 22 0 0 E B [.ref M, .int x] N (mput E σ M U kp ho tx sc) N (mput E σ M U kp ho tx sc) (some (.int 0)) := by
  refine xM_of [some (.ref _), some (.int _)] (by decide +kernel) (Nat.le_of_ble_eq_true rfl) rfl (fun k0 C Z => ?_)
  refine x_iload_n C dX5_isSpeaker_0 rfl ?_
  refine x_iconst (v := 0) C dX5_isSpeaker_1 (by decide) ?_
  refine x_bipush (v := 7) C dX5_isSpeaker_2 (by decide) ?_
  refine x_callS C (c_X5_within _ _ _) ks_X5_within kl_X5_30 dX5_isSpeaker_4 rfl rfl rfl rfl (Nat.le_of_ble_eq_true rfl) (Nat.le_of_ble_eq_true rfl) (Nat.le_of_ble_eq_true rfl) (Nat.le_of_ble_eq_true rfl) (Nat.le_of_ble_eq_true rfl) ?_
  refine x_beq C 24 dX5_isSpeaker_7 (by decide) (fun h7 => ?_) (fun h7 => ?_)
  · refine x_iconst (v := 0) C dX5_isSpeaker_24 (by decide) ?_
    exact x_zret C Z dX5_isSpeaker_25 rfl (Nat.le_of_ble_eq_true rfl) (Nat.le_of_ble_eq_true rfl) rfl rfl rfl
  · obtain ⟨k, hk, rfl⟩ := bd_of (c := 8) (by decide) ⟨h7.1, (le_s (n := 7) (by decide)).mp h7.2⟩
    refine x_aload_n C dX5_isSpeaker_10 rfl ?_
    refine x_iload_n C dX5_isSpeaker_11 rfl ?_
    refine x_iconst (v := 0) C dX5_isSpeaker_12 (by decide) ?_
    refine x_callV C (c_X5_part0 hk) kv_X5_part kl_X5_34 dX5_isSpeaker_13 mput_0 rfl rfl rfl rfl (Nat.le_of_ble_eq_true rfl) (Nat.le_of_ble_eq_true rfl) (Nat.le_of_ble_eq_true rfl) (Nat.le_of_ble_eq_true rfl) (Nat.le_of_ble_eq_true rfl) ?_
    refine x_iconst (v := 1) C dX5_isSpeaker_16 (by decide) ?_
    refine x_ic_ne C 24 dX5_isSpeaker_17 (by decide) (fun h17 => ?_) (fun h17 => ?_)
    · refine x_iconst (v := 0) C dX5_isSpeaker_24 (by decide) ?_
      exact x_zret C Z dX5_isSpeaker_25 rfl (Nat.le_of_ble_eq_true rfl) (Nat.le_of_ble_eq_true rfl) rfl rfl rfl
    · refine absurd ⟨k, hk, rfl, Classical.byContradiction (fun z => absurd (h17.symm.trans (b_f z)) (by decide))⟩ hno
set_option maxRecDepth 100000 in
set_option maxHeartbeats 1000000 in
theorem c_X5_weightAt {l : Launch} {E : xEnv} {B N : Nat} {σ : Sg} {M : Nat} {U : Vs} {kp ho tx sc : Fn} (s m w : Nat) : xM l yX5_weightAt cX5_weightAt 3 (some .int) 0 0 0 0 E B [.int (nI s), .int (nI m), .int (nI w)] N (mput E σ M U kp ho tx sc) N (mput E σ M U kp ho tx sc) (some (.int (nI (33 + 84 * s + (14 * m + w))))) := by
  refine xM_of [some (.int _), some (.int _), some (.int _)] (by decide +kernel) (Nat.le_of_ble_eq_true rfl) rfl (fun k0 C Z => ?_)
  refine x_bipush (v := 33) C dX5_weightAt_0 (by decide) ?_
  refine x_bipush (v := 84) C dX5_weightAt_2 (by decide) ?_
  refine x_iload_n C dX5_weightAt_4 rfl ?_
  refine x_imul C dX5_weightAt_5 ?_
  refine x_iadd C dX5_weightAt_6 ?_
  refine x_bipush (v := 14) C dX5_weightAt_7 (by decide) ?_
  refine x_iload_n C dX5_weightAt_9 rfl ?_
  refine x_imul C dX5_weightAt_10 ?_
  refine x_iadd C dX5_weightAt_11 ?_
  refine x_iload_n C dX5_weightAt_12 rfl ?_
  refine x_iadd C dX5_weightAt_13 ?_
  exact x_zret C Z dX5_weightAt_14 rfl (Nat.le_of_ble_eq_true rfl) (Nat.le_of_ble_eq_true rfl) rfl rfl (ix_w s m w)
set_option maxRecDepth 100000 in
set_option maxHeartbeats 1000000 in
theorem c_X5_weightOf {l : Launch} {E : xEnv} {B N : Nat} {σ : Sg} {M : Nat} {U : Vs} {kp ho tx sc : Fn} {s m w : Nat} (hs : s < 8) (hm : m < 6) (hw : w < 14) : xM l yX5_weightOf cX5_weightOf 4 (some .int) 1 22 0 0 E B [.ref M, .int (nI s), .int (nI m), .int (nI w)] N (mput E σ M U kp ho tx sc) N (mput E σ M U kp ho tx sc) (some (.int (U s (14 * m + w)))) := by
  refine xM_of [some (.ref _), some (.int _), some (.int _), some (.int _)] (by decide +kernel) (Nat.le_of_ble_eq_true rfl) rfl (fun k0 C Z => ?_)
  refine x_aload_n C dX5_weightOf_0 rfl ?_
  refine x_get C kf_X5_7 mput_0 rfl dX5_weightOf_1 ?_
  refine x_iload_n C dX5_weightOf_4 rfl ?_
  refine x_iload_n C dX5_weightOf_5 rfl ?_
  refine x_iload_n C dX5_weightOf_6 rfl ?_
  refine x_callS C (c_X5_weightAt s m w) ks_X5_weightAt kl_X5_38 dX5_weightOf_7 rfl rfl rfl rfl (Nat.le_of_ble_eq_true rfl) (Nat.le_of_ble_eq_true rfl) (Nat.le_of_ble_eq_true rfl) (Nat.le_of_ble_eq_true rfl) (Nat.le_of_ble_eq_true rfl) ?_
  refine x_iald2 C mput_1 rfl (by omega) (by decide) dX5_weightOf_10 ?_
  exact x_zret C Z dX5_weightOf_11 rfl (Nat.le_of_ble_eq_true rfl) (Nat.le_of_ble_eq_true rfl) rfl rfl (fl_w (by omega))
set_option maxRecDepth 100000 in
set_option maxHeartbeats 1000000 in
theorem c_X5_changes {l : Launch} {E : xEnv} {B N : Nat} {σ : Sg} {M : Nat} {U : Vs} {kp ho tx sc : Fn} {s m w : Nat} (hs : s < 8) (hm : m < 6) (hw : w < 14) (d : Int32) : xM l yX5_changes cX5_changes 6 none 2 45 0 0 E B [.ref M, .int (nI s), .int (nI m), .int (nI w), .int d] N (mput E σ M U kp ho tx sc) N (mput E σ M (chS U s m w d) kp ho tx sc) none := by
  refine xM_of [some (.ref _), some (.int _), some (.int _), some (.int _), some (.int _), none] (by decide +kernel) (Nat.le_of_ble_eq_true rfl) rfl (fun k0 C Z => ?_)
  refine x_aload_n C dX5_changes_0 rfl ?_
  refine x_iload_n C dX5_changes_1 rfl ?_
  refine x_iload_n C dX5_changes_2 rfl ?_
  refine x_iload_n C dX5_changes_3 rfl ?_
  refine x_callV C (c_X5_weightOf hs hm hw) kv_X5_weightOf kl_X5_42 dX5_changes_4 mput_0 rfl rfl rfl rfl (Nat.le_of_ble_eq_true rfl) (Nat.le_of_ble_eq_true rfl) (Nat.le_of_ble_eq_true rfl) (Nat.le_of_ble_eq_true rfl) (Nat.le_of_ble_eq_true rfl) ?_
  refine x_iload C dX5_changes_7 rfl ?_
  refine x_iadd C dX5_changes_9 ?_
  refine x_istore C dX5_changes_10 (by decide) rfl ?_
  refine x_aload_n C dX5_changes_12 rfl ?_
  refine x_get C kf_X5_7 mput_0 rfl dX5_changes_13 ?_
  refine x_iload_n C dX5_changes_16 rfl ?_
  refine x_iload_n C dX5_changes_17 rfl ?_
  refine x_iload_n C dX5_changes_18 rfl ?_
  refine x_callS C (c_X5_weightAt s m w) ks_X5_weightAt kl_X5_38 dX5_changes_19 rfl rfl rfl rfl (Nat.le_of_ble_eq_true rfl) (Nat.le_of_ble_eq_true rfl) (Nat.le_of_ble_eq_true rfl) (Nat.le_of_ble_eq_true rfl) (Nat.le_of_ble_eq_true rfl) ?_
  refine x_iload C dX5_changes_22 rfl ?_
  refine x_if_ge C 31 dX5_changes_24 (by decide) (fun h24 => ?_) (fun h24 => ?_)
  · refine x_iload C dX5_changes_31 rfl ?_
    refine x_bipush (v := 99) C dX5_changes_33 (by decide) ?_
    refine x_ic_le C 43 dX5_changes_35 (by decide) (fun h35 => ?_) (fun h35 => ?_)
    · refine x_iload C dX5_changes_43 rfl ?_
      refine x_iast2 C mput_1 rfl (by omega) (by decide) (flu_w hs (by omega) _) (mput_st _) dX5_changes_45 ?_
      exact x_vret C Z dX5_changes_46 (Nat.le_of_ble_eq_true rfl) (Nat.le_of_ble_eq_true rfl) rfl (by rw [chS, cl_mid h24 h35])
    · refine x_bipush (v := 99) C dX5_changes_38 (by decide) ?_
      refine x_goto C 45 dX5_changes_40 (by decide) ?_
      refine x_iast2 C mput_1 rfl (by omega) (by decide) (flu_w hs (by omega) _) (mput_st _) dX5_changes_45 ?_
      exact x_vret C Z dX5_changes_46 (Nat.le_of_ble_eq_true rfl) (Nat.le_of_ble_eq_true rfl) rfl (by rw [chS, cl_hi h35])
  · refine x_iconst (v := 0) C dX5_changes_27 (by decide) ?_
    refine x_goto C 45 dX5_changes_28 (by decide) ?_
    refine x_iast2 C mput_1 rfl (by omega) (by decide) (flu_w hs (by omega) _) (mput_st _) dX5_changes_45 ?_
    exact x_vret C Z dX5_changes_46 (Nat.le_of_ble_eq_true rfl) (Nat.le_of_ble_eq_true rfl) rfl (by rw [chS, cl_lo h24])
set_option maxRecDepth 100000 in
set_option maxHeartbeats 1000000 in
theorem c_X5_learns {l : Launch} {E : xEnv} {B N : Nat} {σ : Sg} {M : Nat} {U : Vs} {kp ho tx sc : Fn} {s : Nat} (hs : s < 8) : xM l yX5_learns cX5_learns 3 (some .int) 1 22 0 0 E B [.ref M, .int (nI s)] N (mput E σ M U kp ho tx sc) N (mput E σ M U kp ho tx sc) (some (.int (lnS (U 11 s) (U 8 0)))) := by
  refine xM_of [some (.ref _), some (.int _), none] (by decide +kernel) (Nat.le_of_ble_eq_true rfl) rfl (fun k0 C Z => ?_)
  refine x_aload_n C dX5_learns_0 rfl ?_
  refine x_get C kf_X5_7 mput_0 rfl dX5_learns_1 ?_
  refine x_iconst (v := 5) C dX5_learns_4 (by decide) ?_
  refine x_iald2 C mput_1 rfl (by decide) (by decide) dX5_learns_5 ?_
  rw [show flat U 5 = U 8 0 from fl_8 (j := 0) (by decide)]
  refine x_aload_n C dX5_learns_6 rfl ?_
  refine x_iload_n C dX5_learns_7 rfl ?_
  refine x_iconst (v := 1) C dX5_learns_8 (by decide) ?_
  refine x_callV C (c_X5_part1 hs) kv_X5_part kl_X5_34 dX5_learns_9 mput_0 rfl rfl rfl rfl (Nat.le_of_ble_eq_true rfl) (Nat.le_of_ble_eq_true rfl) (Nat.le_of_ble_eq_true rfl) (Nat.le_of_ble_eq_true rfl) (Nat.le_of_ble_eq_true rfl) ?_
  refine x_bipush (v := 20) C dX5_learns_12 (by decide) ?_
  refine x_idiv C dX5_learns_14 (by decide) ?_
  refine x_isub C dX5_learns_15 ?_
  refine x_istore_n C dX5_learns_16 (by decide) rfl ?_
  refine x_iload_n C dX5_learns_17 rfl ?_
  refine x_iconst (v := 1) C dX5_learns_18 (by decide) ?_
  refine x_ic_ge C 26 dX5_learns_19 (by decide) (fun h19 => ?_) (fun h19 => ?_)
  · refine x_iload_n C dX5_learns_26 rfl ?_
    exact x_zret C Z dX5_learns_27 rfl (Nat.le_of_ble_eq_true rfl) (Nat.le_of_ble_eq_true rfl) rfl rfl (ln_hi h19).symm
  · refine x_iconst (v := 1) C dX5_learns_22 (by decide) ?_
    refine x_goto C 27 dX5_learns_23 (by decide) ?_
    exact x_zret C Z dX5_learns_27 rfl (Nat.le_of_ble_eq_true rfl) (Nat.le_of_ble_eq_true rfl) rfl rfl (ln_lo h19).symm
set_option maxRecDepth 100000 in
set_option maxHeartbeats 1000000 in
theorem c_X5_draws {l : Launch} {E : xEnv} {B N : Nat} {σ : Sg} {M : Nat} {U : Vs} {kp ho tx sc : Fn} {n : Nat} (hs : sok U) (h0 : 0 < n) (hn : n < 2 ^ 31) : xM l yX5_draws cX5_draws 2 (some .int) 0 0 0 0 E B [.ref M, .int (nI n)] N (mput E σ M U kp ho tx sc) N (mput E σ M (drV U) kp ho tx sc) (some (.int (nI (dvN U n)))) := by
  refine xM_of [some (.ref _), some (.int _)] (by decide +kernel) (Nat.le_of_ble_eq_true rfl) rfl (fun k0 C Z => ?_)
  refine x_aload_n C dX5_draws_0 rfl ?_
  refine x_get C kf_X5_7 mput_0 rfl dX5_draws_1 ?_
  refine x_iconst (v := 0) C dX5_draws_4 (by decide) ?_
  refine x_sipush (v := 25173) C dX5_draws_5 (by decide) ?_
  refine x_aload_n C dX5_draws_8 rfl ?_
  refine x_get C kf_X5_7 mput_0 rfl dX5_draws_9 ?_
  refine x_iconst (v := 0) C dX5_draws_12 (by decide) ?_
  refine x_iald2 C mput_1 rfl (by decide) (by decide) dX5_draws_13 ?_
  rw [fl_9 (j := 0) (by decide)]
  refine x_imul C dX5_draws_14 ?_
  refine x_sipush (v := 13849) C dX5_draws_15 (by decide) ?_
  refine x_iadd C dX5_draws_18 ?_
  refine x_ldc C kk_X5_49 dX5_draws_19 ?_
  refine x_irem C dX5_draws_21 (by decide) ?_
  refine x_iast2 C mput_1 rfl (by decide) (by decide) (flu_9 (q := 0) (by decide) _) (mput_st _) dX5_draws_22 ?_
  refine xX.sg (congrArg (fun q => mput E σ M (up2 U 9 0 q) kp ho tx sc) (dr_e hs)) ?_
  refine x_aload_n C dX5_draws_23 rfl ?_
  refine x_get C kf_X5_7 mput_0 rfl dX5_draws_24 ?_
  refine x_iconst (v := 0) C dX5_draws_27 (by decide) ?_
  refine x_iald2 C mput_1 rfl (by decide) (by decide) dX5_draws_28 ?_
  rw [fl_9 (j := 0) (by decide), up2_s]
  refine x_bipush (v := 16) C dX5_draws_29 (by decide) ?_
  refine x_idiv C dX5_draws_31 (by decide) ?_
  refine x_iload_n C dX5_draws_32 rfl ?_
  refine x_irem C dX5_draws_33 (nI_ne0 h0 hn) ?_
  exact x_zret C Z dX5_draws_34 rfl (Nat.le_of_ble_eq_true rfl) (Nat.le_of_ble_eq_true rfl) rfl rfl (dv_e sdN_lt h0 hn)
