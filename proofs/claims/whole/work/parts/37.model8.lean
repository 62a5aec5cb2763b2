/-! the model's public steps -/
theorem ge_1 : ∀ w, w < 2 → ∀ i, i < 1 → ((nI w >>> ((1 - 1 - nI i) &&& 31)) &&& 1 = 0 ↔ (nI (w + 2) >>> ((nI (lwN w) - 1 - nI i) &&& 31)) &&& 1 = 0) := by decide
theorem ge_2 : ∀ w, w < 6 → ∀ i, i < 2 → ¬ w < 2 → (((nI w - 2) >>> ((2 - 1 - nI i) &&& 31)) &&& 1 = 0 ↔ (nI (w + 2) >>> ((nI (lwN w) - 1 - nI i) &&& 31)) &&& 1 = 0) := by decide
theorem ge_3 : ∀ w, w < 14 → ∀ i, i < 3 → ¬ w < 6 → (((nI w - 6) >>> ((3 - 1 - nI i) &&& 31)) &&& 1 = 0 ↔ (nI (w + 2) >>> ((nI (lwN w) - 1 - nI i) &&& 31)) &&& 1 = 0) := by decide
theorem w01 {w : Int32} (h1 : ¬ w = 0) (h2 : ¬ w = 1) : ¬ (0 ≤ w ∧ w ≤ 1) := by
  intro z
  obtain ⟨i, hi, rfl⟩ := bd_of (x := w) (c := 2) (by decide) ⟨z.1, (le_s (n := 1) (by decide)).mp z.2⟩
  have : i = 0 ∨ i = 1 := by omega
  rcases this with rfl | rfl
  · exact h1 rfl
  · exact h2 rfl
theorem cpA_b {g kp f : Fn} {j : Nat} (hj : j < 705) : cpA g (cpA kp f 0 0 705) 0 0 705 j = f j := by
  unfold cpA
  rw [if_pos ⟨Nat.zero_le _, by omega⟩, if_pos ⟨Nat.zero_le _, by omega⟩]
  congr 1
  omega
def zwL (U : Vs) (k i : Nat) : Vs := fun r j => if r = k ∧ j < i then 0 else U r j
theorem zwL_0 {U : Vs} {k : Nat} : zwL U k 0 = U := by
  funext r j
  unfold zwL
  rw [if_neg (by omega)]
theorem zwL_s {U : Vs} {k i : Nat} : up2 (zwL U k i) k i 0 = zwL U k (i + 1) := by
  funext r j
  by_cases h1 : r = k ∧ j = i
  · rw [h1.1, h1.2, up2_s]
    unfold zwL
    rw [if_pos ⟨rfl, by omega⟩]
  · rw [up2_n h1]
    unfold zwL
    by_cases h2 : r = k ∧ j < i
    · rw [if_pos h2, if_pos ⟨h2.1, by omega⟩]
    · rw [if_neg h2, if_neg (by omega)]
def goU (U : Vs) (k : Nat) : Vs := zwL (up2 (up2 (up2 U 10 k 0) 11 k 0) 12 k 0) k 84
theorem yrL_rg {U : Vs} (h : rgW U) : ∀ n, rgW (yrL U n)
  | 0 => h
  | n + 1 => by
    have g := yrL_rg h n
    show rgW (yrS (yrL U n))
    unfold yrS
    refine byL_rg (agL_rg ⟨fun t ht j hj => ?_, ?_⟩) 8 (Nat.le_refl _)
    · rw [up2_r (show t ≠ 9 by omega)]; exact g.1 t ht j hj
    · rw [up2_r (show (8 : Nat) ≠ 9 by decide)]; exact g.2
set_option maxRecDepth 100000 in
set_option maxHeartbeats 1000000 in
theorem c_X5_count_ok {l : Launch} {E : xEnv} {B N : Nat} {σ : Sg} {M : Nat} {U : Vs} {kp ho tx sc : Fn} {j : Nat} (hj : j < 7) : xM l yX5_count cX5_count 2 (some .int) 4 86 0 0 E B [.ref M, .int (nI j)] N (mput E σ M U kp ho tx sc) N (mput E σ M U kp ho tx sc) (some (.int (muS U j))) := by
  refine xM_of [some (.ref _), some (.int _)] (by decide +kernel) (Nat.le_of_ble_eq_true rfl) rfl (fun k0 C Z => ?_)
  refine x_iload_n C dX5_count_0 rfl ?_
  refine x_iconst (v := 0) C dX5_count_1 (by decide) ?_
  refine x_bipush (v := 6) C dX5_count_2 (by decide) ?_
  refine x_callS C (c_X5_within _ _ _) ks_X5_within kl_X5_30 dX5_count_4 rfl rfl rfl rfl (Nat.le_of_ble_eq_true rfl) (Nat.le_of_ble_eq_true rfl) (Nat.le_of_ble_eq_true rfl) (Nat.le_of_ble_eq_true rfl) (Nat.le_of_ble_eq_true rfl) ?_
  refine x_beq C 18 dX5_count_7 (by decide) (fun h => absurd ⟨nI_pos' (by omega), nI_le (b := 6) (by omega) (by omega)⟩ h) (fun _ => ?_)
  refine x_aload_n C dX5_count_10 rfl ?_
  refine x_iload_n C dX5_count_11 rfl ?_
  refine x_callV C (c_X5_countOf hj) kv_X5_countOf kl_X5_125 dX5_count_12 mput_0 rfl rfl rfl rfl (Nat.le_of_ble_eq_true rfl) (Nat.le_of_ble_eq_true rfl) (Nat.le_of_ble_eq_true rfl) (Nat.le_of_ble_eq_true rfl) (Nat.le_of_ble_eq_true rfl) ?_
  refine x_goto C 20 dX5_count_15 (by decide) ?_
  exact x_zret C Z dX5_count_20 rfl (Nat.le_of_ble_eq_true rfl) (Nat.le_of_ble_eq_true rfl) rfl rfl rfl
set_option maxRecDepth 100000 in
set_option maxHeartbeats 1000000 in
theorem c_X5_count_bad {l : Launch} {E : xEnv} {B N : Nat} {σ : Sg} {M : Nat} {U : Vs} {kp ho tx sc : Fn} {x : Int32} (hb : ¬ (0 ≤ x ∧ x < 7)) : xM l yX5_count cX5_count 2 (some .int) 4 86 0 0 E B [.ref M, .int x] N (mput E σ M U kp ho tx sc) N (mput E σ M U kp ho tx sc) (some (.int (-2))) := by
  refine xM_of [some (.ref _), some (.int _)] (by decide +kernel) (Nat.le_of_ble_eq_true rfl) rfl (fun k0 C Z => ?_)
  refine x_iload_n C dX5_count_0 rfl ?_
  refine x_iconst (v := 0) C dX5_count_1 (by decide) ?_
  refine x_bipush (v := 6) C dX5_count_2 (by decide) ?_
  refine x_callS C (c_X5_within _ _ _) ks_X5_within kl_X5_30 dX5_count_4 rfl rfl rfl rfl (Nat.le_of_ble_eq_true rfl) (Nat.le_of_ble_eq_true rfl) (Nat.le_of_ble_eq_true rfl) (Nat.le_of_ble_eq_true rfl) (Nat.le_of_ble_eq_true rfl) ?_
  refine x_beq C 18 dX5_count_7 (by decide) (fun _ => ?_) (fun h => absurd h (fun z => hb ⟨z.1, (le_s (n := 6) (by decide)).mp z.2⟩))
  refine x_bipush (v := (-2)) C dX5_count_18 (by decide) ?_
  exact x_zret C Z dX5_count_20 rfl (Nat.le_of_ble_eq_true rfl) (Nat.le_of_ble_eq_true rfl) rfl rfl rfl
set_option maxRecDepth 100000 in
set_option maxHeartbeats 1000000 in
theorem c_X5_setting_ok {l : Launch} {E : xEnv} {B N : Nat} {σ : Sg} {M : Nat} {U : Vs} {kp ho tx sc : Fn} {j : Nat} (hj : j < 4) : xM l yX5_setting cX5_setting 2 (some .int) 2 42 0 0 E B [.ref M, .int (nI j)] N (mput E σ M U kp ho tx sc) N (mput E σ M U kp ho tx sc) (some (.int (U 8 j))) := by
  refine xM_of [some (.ref _), some (.int _)] (by decide +kernel) (Nat.le_of_ble_eq_true rfl) rfl (fun k0 C Z => ?_)
  refine x_iload_n C dX5_setting_0 rfl ?_
  refine x_callS C (c_X5_isSetting _) ks_X5_isSetting kl_X5_115 dX5_setting_1 rfl rfl rfl rfl (Nat.le_of_ble_eq_true rfl) (Nat.le_of_ble_eq_true rfl) (Nat.le_of_ble_eq_true rfl) (Nat.le_of_ble_eq_true rfl) (Nat.le_of_ble_eq_true rfl) ?_
  refine x_beq C 18 dX5_setting_4 (by decide) (fun h => absurd (bd_in (c := 4) hj (by decide)) h) (fun _ => ?_)
  refine x_aload_n C dX5_setting_7 rfl ?_
  refine x_get C kf_X5_7 mput_0 rfl dX5_setting_8 ?_
  refine x_iconst (v := 5) C dX5_setting_11 (by decide) ?_
  refine x_iload_n C dX5_setting_12 rfl ?_
  refine x_iadd C dX5_setting_13 ?_
  refine x_iald2 C mput_1 (ix_8 _) (by omega) (by decide) dX5_setting_14 ?_
  refine x_goto C 19 dX5_setting_15 (by decide) ?_
  exact x_zret C Z dX5_setting_19 rfl (Nat.le_of_ble_eq_true rfl) (Nat.le_of_ble_eq_true rfl) rfl rfl (fl_8 hj)
set_option maxRecDepth 100000 in
set_option maxHeartbeats 1000000 in
theorem c_X5_setting_no {l : Launch} {E : xEnv} {B N : Nat} {σ : Sg} {M : Nat} {U : Vs} {kp ho tx sc : Fn} {x : Int32} (hb : ¬ (0 ≤ x ∧ x < 4)) : xM l yX5_setting cX5_setting 2 (some .int) 2 42 0 0 E B [.ref M, .int x] N (mput E σ M U kp ho tx sc) N (mput E σ M U kp ho tx sc) (some (.int (-1))) := by
  refine xM_of [some (.ref _), some (.int _)] (by decide +kernel) (Nat.le_of_ble_eq_true rfl) rfl (fun k0 C Z => ?_)
  refine x_iload_n C dX5_setting_0 rfl ?_
  refine x_callS C (c_X5_isSetting _) ks_X5_isSetting kl_X5_115 dX5_setting_1 rfl rfl rfl rfl (Nat.le_of_ble_eq_true rfl) (Nat.le_of_ble_eq_true rfl) (Nat.le_of_ble_eq_true rfl) (Nat.le_of_ble_eq_true rfl) (Nat.le_of_ble_eq_true rfl) ?_
  refine x_beq C 18 dX5_setting_4 (by decide) (fun _ => ?_) (fun h => absurd h hb)
  refine x_iconst (v := (-1)) C dX5_setting_18 (by decide) ?_
  exact x_zret C Z dX5_setting_19 rfl (Nat.le_of_ble_eq_true rfl) (Nat.le_of_ble_eq_true rfl) rfl rfl rfl
set_option maxRecDepth 100000 in
set_option maxHeartbeats 1000000 in
theorem c_X5_weight_ok {l : Launch} {E : xEnv} {B N : Nat} {σ : Sg} {M : Nat} {U : Vs} {kp ho tx sc : Fn} {k : Nat} (hk : k < 8) (hp1 : U 10 k = 1) {mm ww : Nat} (hm : mm < 6) (hw : ww < 14) : xM l yX5_weight cX5_weight 4 (some .int) 2 45 0 0 E B [.ref M, .int (nI k), .int (nI mm), .int (nI ww)] N (mput E σ M U kp ho tx sc) N (mput E σ M U kp ho tx sc) (some (.int (U k (14 * mm + ww)))) := by
  refine xM_of [some (.ref _), some (.int _), some (.int _), some (.int _)] (by decide +kernel) (Nat.le_of_ble_eq_true rfl) rfl (fun k0 C Z => ?_)
  refine x_aload_n C dX5_weight_0 rfl ?_
  refine x_iload_n C dX5_weight_1 rfl ?_
  refine x_callV C (c_X5_isSpeaker_k hk) kv_X5_isSpeaker kl_X5_45 dX5_weight_2 mput_0 rfl rfl rfl rfl (Nat.le_of_ble_eq_true rfl) (Nat.le_of_ble_eq_true rfl) (Nat.le_of_ble_eq_true rfl) (Nat.le_of_ble_eq_true rfl) (Nat.le_of_ble_eq_true rfl) ?_
  refine x_beq C 32 dX5_weight_5 (by decide) (fun h => absurd hp1 h) (fun _ => ?_)
  refine x_iload_n C dX5_weight_8 rfl ?_
  refine x_callS C (c_X5_isMeaning _) ks_X5_isMeaning kl_X5_80 dX5_weight_9 rfl rfl rfl rfl (Nat.le_of_ble_eq_true rfl) (Nat.le_of_ble_eq_true rfl) (Nat.le_of_ble_eq_true rfl) (Nat.le_of_ble_eq_true rfl) (Nat.le_of_ble_eq_true rfl) ?_
  refine x_beq C 32 dX5_weight_12 (by decide) (fun h => absurd (bd_in (c := 6) hm (by decide)) h) (fun _ => ?_)
  refine x_iload_n C dX5_weight_15 rfl ?_
  refine x_callS C (c_X5_isWord _) ks_X5_isWord kl_X5_119 dX5_weight_16 rfl rfl rfl rfl (Nat.le_of_ble_eq_true rfl) (Nat.le_of_ble_eq_true rfl) (Nat.le_of_ble_eq_true rfl) (Nat.le_of_ble_eq_true rfl) (Nat.le_of_ble_eq_true rfl) ?_
  refine x_beq C 32 dX5_weight_19 (by decide) (fun h => absurd (bd_in (c := 14) hw (by decide)) h) (fun _ => ?_)
  refine x_aload_n C dX5_weight_22 rfl ?_
  refine x_iload_n C dX5_weight_23 rfl ?_
  refine x_iload_n C dX5_weight_24 rfl ?_
  refine x_iload_n C dX5_weight_25 rfl ?_
  refine x_callV C (c_X5_weightOf hk hm hw) kv_X5_weightOf kl_X5_42 dX5_weight_26 mput_0 rfl rfl rfl rfl (Nat.le_of_ble_eq_true rfl) (Nat.le_of_ble_eq_true rfl) (Nat.le_of_ble_eq_true rfl) (Nat.le_of_ble_eq_true rfl) (Nat.le_of_ble_eq_true rfl) ?_
  refine x_goto C 33 dX5_weight_29 (by decide) ?_
  exact x_zret C Z dX5_weight_33 rfl (Nat.le_of_ble_eq_true rfl) (Nat.le_of_ble_eq_true rfl) rfl rfl rfl
set_option maxRecDepth 100000 in
set_option maxHeartbeats 1000000 in
theorem c_X5_weight_n1 {l : Launch} {E : xEnv} {B N : Nat} {σ : Sg} {M : Nat} {U : Vs} {kp ho tx sc : Fn} {x : Int32} (hno : ¬ ∃ k, k < 8 ∧ x = nI k ∧ U 10 k = 1) {m w : Int32} : xM l yX5_weight cX5_weight 4 (some .int) 2 45 0 0 E B [.ref M, .int x, .int m, .int w] N (mput E σ M U kp ho tx sc) N (mput E σ M U kp ho tx sc) (some (.int (-1))) := by
  refine xM_of [some (.ref _), some (.int _), some (.int _), some (.int _)] (by decide +kernel) (Nat.le_of_ble_eq_true rfl) rfl (fun k0 C Z => ?_)
  refine x_aload_n C dX5_weight_0 rfl ?_
  refine x_iload_n C dX5_weight_1 rfl ?_
  refine x_callV C (c_X5_isSpeaker_no hno) kv_X5_isSpeaker kl_X5_45 dX5_weight_2 mput_0 rfl rfl rfl rfl (Nat.le_of_ble_eq_true rfl) (Nat.le_of_ble_eq_true rfl) (Nat.le_of_ble_eq_true rfl) (Nat.le_of_ble_eq_true rfl) (Nat.le_of_ble_eq_true rfl) ?_
  refine x_if_eq C 32 dX5_weight_5 (by decide) (fun _ => ?_) (fun h => absurd rfl h)
  refine x_iconst (v := (-1)) C dX5_weight_32 (by decide) ?_
  exact x_zret C Z dX5_weight_33 rfl (Nat.le_of_ble_eq_true rfl) (Nat.le_of_ble_eq_true rfl) rfl rfl rfl
set_option maxRecDepth 100000 in
set_option maxHeartbeats 1000000 in
theorem c_X5_weight_n2 {l : Launch} {E : xEnv} {B N : Nat} {σ : Sg} {M : Nat} {U : Vs} {kp ho tx sc : Fn} {k : Nat} (hk : k < 8) (hp1 : U 10 k = 1) {m w : Int32} (hb : ¬ (0 ≤ m ∧ m < 6)) : xM l yX5_weight cX5_weight 4 (some .int) 2 45 0 0 E B [.ref M, .int (nI k), .int m, .int w] N (mput E σ M U kp ho tx sc) N (mput E σ M U kp ho tx sc) (some (.int (-1))) := by
  refine xM_of [some (.ref _), some (.int _), some (.int _), some (.int _)] (by decide +kernel) (Nat.le_of_ble_eq_true rfl) rfl (fun k0 C Z => ?_)
  refine x_aload_n C dX5_weight_0 rfl ?_
  refine x_iload_n C dX5_weight_1 rfl ?_
  refine x_callV C (c_X5_isSpeaker_k hk) kv_X5_isSpeaker kl_X5_45 dX5_weight_2 mput_0 rfl rfl rfl rfl (Nat.le_of_ble_eq_true rfl) (Nat.le_of_ble_eq_true rfl) (Nat.le_of_ble_eq_true rfl) (Nat.le_of_ble_eq_true rfl) (Nat.le_of_ble_eq_true rfl) ?_
  refine x_beq C 32 dX5_weight_5 (by decide) (fun h => absurd hp1 h) (fun _ => ?_)
  refine x_iload_n C dX5_weight_8 rfl ?_
  refine x_callS C (c_X5_isMeaning _) ks_X5_isMeaning kl_X5_80 dX5_weight_9 rfl rfl rfl rfl (Nat.le_of_ble_eq_true rfl) (Nat.le_of_ble_eq_true rfl) (Nat.le_of_ble_eq_true rfl) (Nat.le_of_ble_eq_true rfl) (Nat.le_of_ble_eq_true rfl) ?_
  refine x_beq C 32 dX5_weight_12 (by decide) (fun _ => ?_) (fun h => absurd h hb)
  refine x_iconst (v := (-1)) C dX5_weight_32 (by decide) ?_
  exact x_zret C Z dX5_weight_33 rfl (Nat.le_of_ble_eq_true rfl) (Nat.le_of_ble_eq_true rfl) rfl rfl rfl
set_option maxRecDepth 100000 in
set_option maxHeartbeats 1000000 in
theorem c_X5_weight_n3 {l : Launch} {E : xEnv} {B N : Nat} {σ : Sg} {M : Nat} {U : Vs} {kp ho tx sc : Fn} {k : Nat} (hk : k < 8) (hp1 : U 10 k = 1) {mm : Nat} {w : Int32} (hm : mm < 6) (hb : ¬ (0 ≤ w ∧ w < 14)) : xM l yX5_weight cX5_weight 4 (some .int) 2 45 0 0 E B [.ref M, .int (nI k), .int (nI mm), .int w] N (mput E σ M U kp ho tx sc) N (mput E σ M U kp ho tx sc) (some (.int (-1))) := by
  refine xM_of [some (.ref _), some (.int _), some (.int _), some (.int _)] (by decide +kernel) (Nat.le_of_ble_eq_true rfl) rfl (fun k0 C Z => ?_)
  refine x_aload_n C dX5_weight_0 rfl ?_
  refine x_iload_n C dX5_weight_1 rfl ?_
  refine x_callV C (c_X5_isSpeaker_k hk) kv_X5_isSpeaker kl_X5_45 dX5_weight_2 mput_0 rfl rfl rfl rfl (Nat.le_of_ble_eq_true rfl) (Nat.le_of_ble_eq_true rfl) (Nat.le_of_ble_eq_true rfl) (Nat.le_of_ble_eq_true rfl) (Nat.le_of_ble_eq_true rfl) ?_
  refine x_beq C 32 dX5_weight_5 (by decide) (fun h => absurd hp1 h) (fun _ => ?_)
  refine x_iload_n C dX5_weight_8 rfl ?_
  refine x_callS C (c_X5_isMeaning _) ks_X5_isMeaning kl_X5_80 dX5_weight_9 rfl rfl rfl rfl (Nat.le_of_ble_eq_true rfl) (Nat.le_of_ble_eq_true rfl) (Nat.le_of_ble_eq_true rfl) (Nat.le_of_ble_eq_true rfl) (Nat.le_of_ble_eq_true rfl) ?_
  refine x_beq C 32 dX5_weight_12 (by decide) (fun h => absurd (bd_in (c := 6) hm (by decide)) h) (fun _ => ?_)
  refine x_iload_n C dX5_weight_15 rfl ?_
  refine x_callS C (c_X5_isWord _) ks_X5_isWord kl_X5_119 dX5_weight_16 rfl rfl rfl rfl (Nat.le_of_ble_eq_true rfl) (Nat.le_of_ble_eq_true rfl) (Nat.le_of_ble_eq_true rfl) (Nat.le_of_ble_eq_true rfl) (Nat.le_of_ble_eq_true rfl) ?_
  refine x_beq C 32 dX5_weight_19 (by decide) (fun _ => ?_) (fun h => absurd h hb)
  refine x_iconst (v := (-1)) C dX5_weight_32 (by decide) ?_
  exact x_zret C Z dX5_weight_33 rfl (Nat.le_of_ble_eq_true rfl) (Nat.le_of_ble_eq_true rfl) rfl rfl rfl
set_option maxRecDepth 100000 in
set_option maxHeartbeats 1000000 in
theorem c_X5_speaker_ok {l : Launch} {E : xEnv} {B N : Nat} {σ : Sg} {M : Nat} {U : Vs} {kp ho tx sc : Fn} {k : Nat} (hk : k < 8) (hp1 : U 10 k = 1) {j : Nat} (hj : j < 5) : xM l yX5_speaker cX5_speaker 3 (some .int) 5 117 0 0 E B [.ref M, .int (nI k), .int (nI j)] N (mput E σ M U kp ho tx sc) N (mput E σ M U kp ho tx sc) (some (.int (nsS U k j))) := by
  refine xM_of [some (.ref _), some (.int _), some (.int _)] (by decide +kernel) (Nat.le_of_ble_eq_true rfl) rfl (fun k0 C Z => ?_)
  refine x_aload_n C dX5_speaker_0 rfl ?_
  refine x_iload_n C dX5_speaker_1 rfl ?_
  refine x_callV C (c_X5_isSpeaker_k hk) kv_X5_isSpeaker kl_X5_45 dX5_speaker_2 mput_0 rfl rfl rfl rfl (Nat.le_of_ble_eq_true rfl) (Nat.le_of_ble_eq_true rfl) (Nat.le_of_ble_eq_true rfl) (Nat.le_of_ble_eq_true rfl) (Nat.le_of_ble_eq_true rfl) ?_
  refine x_bne C 10 dX5_speaker_5 (by decide) (fun _ => ?_) (fun h => absurd hp1 h)
  refine x_iload_n C dX5_speaker_10 rfl ?_
  refine x_iconst (v := 0) C dX5_speaker_11 (by decide) ?_
  refine x_iconst (v := 4) C dX5_speaker_12 (by decide) ?_
  refine x_callS C (c_X5_within _ _ _) ks_X5_within kl_X5_30 dX5_speaker_13 rfl rfl rfl rfl (Nat.le_of_ble_eq_true rfl) (Nat.le_of_ble_eq_true rfl) (Nat.le_of_ble_eq_true rfl) (Nat.le_of_ble_eq_true rfl) (Nat.le_of_ble_eq_true rfl) ?_
  refine x_beq C 28 dX5_speaker_16 (by decide) (fun h => absurd ⟨nI_pos' (by omega), nI_le (b := 4) (by omega) (by omega)⟩ h) (fun _ => ?_)
  refine x_aload_n C dX5_speaker_19 rfl ?_
  refine x_iload_n C dX5_speaker_20 rfl ?_
  refine x_iload_n C dX5_speaker_21 rfl ?_
  refine x_callV C (c_X5_ofSpeaker hk hj) kv_X5_ofSpeaker kl_X5_134 dX5_speaker_22 mput_0 rfl rfl rfl rfl (Nat.le_of_ble_eq_true rfl) (Nat.le_of_ble_eq_true rfl) (Nat.le_of_ble_eq_true rfl) (Nat.le_of_ble_eq_true rfl) (Nat.le_of_ble_eq_true rfl) ?_
  refine x_goto C 30 dX5_speaker_25 (by decide) ?_
  exact x_zret C Z dX5_speaker_30 rfl (Nat.le_of_ble_eq_true rfl) (Nat.le_of_ble_eq_true rfl) rfl rfl rfl
set_option maxRecDepth 100000 in
set_option maxHeartbeats 1000000 in
theorem c_X5_speaker_no {l : Launch} {E : xEnv} {B N : Nat} {σ : Sg} {M : Nat} {U : Vs} {kp ho tx sc : Fn} {x : Int32} (hno : ¬ ∃ k, k < 8 ∧ x = nI k ∧ U 10 k = 1) {w : Int32} : xM l yX5_speaker cX5_speaker 3 (some .int) 5 117 0 0 E B [.ref M, .int x, .int w] N (mput E σ M U kp ho tx sc) N (mput E σ M U kp ho tx sc) (some (.int (-1))) := by
  refine xM_of [some (.ref _), some (.int _), some (.int _)] (by decide +kernel) (Nat.le_of_ble_eq_true rfl) rfl (fun k0 C Z => ?_)
  refine x_aload_n C dX5_speaker_0 rfl ?_
  refine x_iload_n C dX5_speaker_1 rfl ?_
  refine x_callV C (c_X5_isSpeaker_no hno) kv_X5_isSpeaker kl_X5_45 dX5_speaker_2 mput_0 rfl rfl rfl rfl (Nat.le_of_ble_eq_true rfl) (Nat.le_of_ble_eq_true rfl) (Nat.le_of_ble_eq_true rfl) (Nat.le_of_ble_eq_true rfl) (Nat.le_of_ble_eq_true rfl) ?_
  refine x_if_ne C 10 dX5_speaker_5 (by decide) (fun h => absurd rfl h) (fun _ => ?_)
  refine x_iconst (v := (-1)) C dX5_speaker_8 (by decide) ?_
  exact x_zret C Z dX5_speaker_9 rfl (Nat.le_of_ble_eq_true rfl) (Nat.le_of_ble_eq_true rfl) rfl rfl rfl
set_option maxRecDepth 100000 in
set_option maxHeartbeats 1000000 in
theorem c_X5_speaker_bad {l : Launch} {E : xEnv} {B N : Nat} {σ : Sg} {M : Nat} {U : Vs} {kp ho tx sc : Fn} {k : Nat} (hk : k < 8) (hp1 : U 10 k = 1) {w : Int32} (hb : ¬ (0 ≤ w ∧ w < 5)) : xM l yX5_speaker cX5_speaker 3 (some .int) 5 117 0 0 E B [.ref M, .int (nI k), .int w] N (mput E σ M U kp ho tx sc) N (mput E σ M U kp ho tx sc) (some (.int (-2))) := by
  refine xM_of [some (.ref _), some (.int _), some (.int _)] (by decide +kernel) (Nat.le_of_ble_eq_true rfl) rfl (fun k0 C Z => ?_)
  refine x_aload_n C dX5_speaker_0 rfl ?_
  refine x_iload_n C dX5_speaker_1 rfl ?_
  refine x_callV C (c_X5_isSpeaker_k hk) kv_X5_isSpeaker kl_X5_45 dX5_speaker_2 mput_0 rfl rfl rfl rfl (Nat.le_of_ble_eq_true rfl) (Nat.le_of_ble_eq_true rfl) (Nat.le_of_ble_eq_true rfl) (Nat.le_of_ble_eq_true rfl) (Nat.le_of_ble_eq_true rfl) ?_
  refine x_bne C 10 dX5_speaker_5 (by decide) (fun _ => ?_) (fun h => absurd hp1 h)
  refine x_iload_n C dX5_speaker_10 rfl ?_
  refine x_iconst (v := 0) C dX5_speaker_11 (by decide) ?_
  refine x_iconst (v := 4) C dX5_speaker_12 (by decide) ?_
  refine x_callS C (c_X5_within _ _ _) ks_X5_within kl_X5_30 dX5_speaker_13 rfl rfl rfl rfl (Nat.le_of_ble_eq_true rfl) (Nat.le_of_ble_eq_true rfl) (Nat.le_of_ble_eq_true rfl) (Nat.le_of_ble_eq_true rfl) (Nat.le_of_ble_eq_true rfl) ?_
  refine x_beq C 28 dX5_speaker_16 (by decide) (fun _ => ?_) (fun h => absurd h (fun z => hb ⟨z.1, (le_s (n := 4) (by decide)).mp z.2⟩))
  refine x_bipush (v := (-2)) C dX5_speaker_28 (by decide) ?_
  exact x_zret C Z dX5_speaker_30 rfl (Nat.le_of_ble_eq_true rfl) (Nat.le_of_ble_eq_true rfl) rfl rfl rfl
set_option maxRecDepth 100000 in
set_option maxHeartbeats 1000000 in
theorem c_X5_wordOf_ok {l : Launch} {E : xEnv} {B N : Nat} {σ : Sg} {M : Nat} {U : Vs} {kp ho tx sc : Fn} {k : Nat} (hk : k < 8) (hp1 : U 10 k = 1) {mm : Nat} (hm : mm < 6) : xM l yX5_wordOf cX5_wordOf 3 (some .int) 3 71 0 0 E B [.ref M, .int (nI k), .int (nI mm)] N (mput E σ M U kp ho tx sc) N (mput E σ M U kp ho tx sc) (some (.int (oI (wfS (U k) mm)))) := by
  refine xM_of [some (.ref _), some (.int _), some (.int _)] (by decide +kernel) (Nat.le_of_ble_eq_true rfl) rfl (fun k0 C Z => ?_)
  refine x_aload_n C dX5_wordOf_0 rfl ?_
  refine x_iload_n C dX5_wordOf_1 rfl ?_
  refine x_callV C (c_X5_isSpeaker_k hk) kv_X5_isSpeaker kl_X5_45 dX5_wordOf_2 mput_0 rfl rfl rfl rfl (Nat.le_of_ble_eq_true rfl) (Nat.le_of_ble_eq_true rfl) (Nat.le_of_ble_eq_true rfl) (Nat.le_of_ble_eq_true rfl) (Nat.le_of_ble_eq_true rfl) ?_
  refine x_beq C 24 dX5_wordOf_5 (by decide) (fun h => absurd hp1 h) (fun _ => ?_)
  refine x_iload_n C dX5_wordOf_8 rfl ?_
  refine x_callS C (c_X5_isMeaning _) ks_X5_isMeaning kl_X5_80 dX5_wordOf_9 rfl rfl rfl rfl (Nat.le_of_ble_eq_true rfl) (Nat.le_of_ble_eq_true rfl) (Nat.le_of_ble_eq_true rfl) (Nat.le_of_ble_eq_true rfl) (Nat.le_of_ble_eq_true rfl) ?_
  refine x_beq C 24 dX5_wordOf_12 (by decide) (fun h => absurd (bd_in (c := 6) hm (by decide)) h) (fun _ => ?_)
  refine x_aload_n C dX5_wordOf_15 rfl ?_
  refine x_iload_n C dX5_wordOf_16 rfl ?_
  refine x_iload_n C dX5_wordOf_17 rfl ?_
  refine x_callV C (c_X5_wordFor hk hm) kv_X5_wordFor kl_X5_58 dX5_wordOf_18 mput_0 rfl rfl rfl rfl (Nat.le_of_ble_eq_true rfl) (Nat.le_of_ble_eq_true rfl) (Nat.le_of_ble_eq_true rfl) (Nat.le_of_ble_eq_true rfl) (Nat.le_of_ble_eq_true rfl) ?_
  refine x_goto C 25 dX5_wordOf_21 (by decide) ?_
  exact x_zret C Z dX5_wordOf_25 rfl (Nat.le_of_ble_eq_true rfl) (Nat.le_of_ble_eq_true rfl) rfl rfl rfl
set_option maxRecDepth 100000 in
set_option maxHeartbeats 1000000 in
theorem c_X5_wordOf_no {l : Launch} {E : xEnv} {B N : Nat} {σ : Sg} {M : Nat} {U : Vs} {kp ho tx sc : Fn} {x : Int32} (hno : ¬ ∃ k, k < 8 ∧ x = nI k ∧ U 10 k = 1) {w : Int32} : xM l yX5_wordOf cX5_wordOf 3 (some .int) 3 71 0 0 E B [.ref M, .int x, .int w] N (mput E σ M U kp ho tx sc) N (mput E σ M U kp ho tx sc) (some (.int (-1))) := by
  refine xM_of [some (.ref _), some (.int _), some (.int _)] (by decide +kernel) (Nat.le_of_ble_eq_true rfl) rfl (fun k0 C Z => ?_)
  refine x_aload_n C dX5_wordOf_0 rfl ?_
  refine x_iload_n C dX5_wordOf_1 rfl ?_
  refine x_callV C (c_X5_isSpeaker_no hno) kv_X5_isSpeaker kl_X5_45 dX5_wordOf_2 mput_0 rfl rfl rfl rfl (Nat.le_of_ble_eq_true rfl) (Nat.le_of_ble_eq_true rfl) (Nat.le_of_ble_eq_true rfl) (Nat.le_of_ble_eq_true rfl) (Nat.le_of_ble_eq_true rfl) ?_
  refine x_if_eq C 24 dX5_wordOf_5 (by decide) (fun _ => ?_) (fun h => absurd rfl h)
  refine x_iconst (v := (-1)) C dX5_wordOf_24 (by decide) ?_
  exact x_zret C Z dX5_wordOf_25 rfl (Nat.le_of_ble_eq_true rfl) (Nat.le_of_ble_eq_true rfl) rfl rfl rfl
set_option maxRecDepth 100000 in
set_option maxHeartbeats 1000000 in
theorem c_X5_wordOf_n2 {l : Launch} {E : xEnv} {B N : Nat} {σ : Sg} {M : Nat} {U : Vs} {kp ho tx sc : Fn} {k : Nat} (hk : k < 8) (hp1 : U 10 k = 1) {w : Int32} (hb : ¬ (0 ≤ w ∧ w < 6)) : xM l yX5_wordOf cX5_wordOf 3 (some .int) 3 71 0 0 E B [.ref M, .int (nI k), .int w] N (mput E σ M U kp ho tx sc) N (mput E σ M U kp ho tx sc) (some (.int (-1))) := by
  refine xM_of [some (.ref _), some (.int _), some (.int _)] (by decide +kernel) (Nat.le_of_ble_eq_true rfl) rfl (fun k0 C Z => ?_)
  refine x_aload_n C dX5_wordOf_0 rfl ?_
  refine x_iload_n C dX5_wordOf_1 rfl ?_
  refine x_callV C (c_X5_isSpeaker_k hk) kv_X5_isSpeaker kl_X5_45 dX5_wordOf_2 mput_0 rfl rfl rfl rfl (Nat.le_of_ble_eq_true rfl) (Nat.le_of_ble_eq_true rfl) (Nat.le_of_ble_eq_true rfl) (Nat.le_of_ble_eq_true rfl) (Nat.le_of_ble_eq_true rfl) ?_
  refine x_beq C 24 dX5_wordOf_5 (by decide) (fun h => absurd hp1 h) (fun _ => ?_)
  refine x_iload_n C dX5_wordOf_8 rfl ?_
  refine x_callS C (c_X5_isMeaning _) ks_X5_isMeaning kl_X5_80 dX5_wordOf_9 rfl rfl rfl rfl (Nat.le_of_ble_eq_true rfl) (Nat.le_of_ble_eq_true rfl) (Nat.le_of_ble_eq_true rfl) (Nat.le_of_ble_eq_true rfl) (Nat.le_of_ble_eq_true rfl) ?_
  refine x_beq C 24 dX5_wordOf_12 (by decide) (fun _ => ?_) (fun h => absurd h hb)
  refine x_iconst (v := (-1)) C dX5_wordOf_24 (by decide) ?_
  exact x_zret C Z dX5_wordOf_25 rfl (Nat.le_of_ble_eq_true rfl) (Nat.le_of_ble_eq_true rfl) rfl rfl rfl
set_option maxRecDepth 100000 in
set_option maxHeartbeats 1000000 in
theorem c_X5_hears_ok {l : Launch} {E : xEnv} {B N : Nat} {σ : Sg} {M : Nat} {U : Vs} {kp ho tx sc : Fn} {k : Nat} (hk : k < 8) (hp1 : U 10 k = 1) {ww : Nat} (hw : ww < 14) : xM l yX5_hears cX5_hears 3 (some .int) 3 71 0 0 E B [.ref M, .int (nI k), .int (nI ww)] N (mput E σ M U kp ho tx sc) N (mput E σ M U kp ho tx sc) (some (.int (oI (haS (U k) ww)))) := by
  refine xM_of [some (.ref _), some (.int _), some (.int _)] (by decide +kernel) (Nat.le_of_ble_eq_true rfl) rfl (fun k0 C Z => ?_)
  refine x_aload_n C dX5_hears_0 rfl ?_
  refine x_iload_n C dX5_hears_1 rfl ?_
  refine x_callV C (c_X5_isSpeaker_k hk) kv_X5_isSpeaker kl_X5_45 dX5_hears_2 mput_0 rfl rfl rfl rfl (Nat.le_of_ble_eq_true rfl) (Nat.le_of_ble_eq_true rfl) (Nat.le_of_ble_eq_true rfl) (Nat.le_of_ble_eq_true rfl) (Nat.le_of_ble_eq_true rfl) ?_
  refine x_beq C 24 dX5_hears_5 (by decide) (fun h => absurd hp1 h) (fun _ => ?_)
  refine x_iload_n C dX5_hears_8 rfl ?_
  refine x_callS C (c_X5_isWord _) ks_X5_isWord kl_X5_119 dX5_hears_9 rfl rfl rfl rfl (Nat.le_of_ble_eq_true rfl) (Nat.le_of_ble_eq_true rfl) (Nat.le_of_ble_eq_true rfl) (Nat.le_of_ble_eq_true rfl) (Nat.le_of_ble_eq_true rfl) ?_
  refine x_beq C 24 dX5_hears_12 (by decide) (fun h => absurd (bd_in (c := 14) hw (by decide)) h) (fun _ => ?_)
  refine x_aload_n C dX5_hears_15 rfl ?_
  refine x_iload_n C dX5_hears_16 rfl ?_
  refine x_iload_n C dX5_hears_17 rfl ?_
  refine x_callV C (c_X5_heardAs hk hw) kv_X5_heardAs kl_X5_67 dX5_hears_18 mput_0 rfl rfl rfl rfl (Nat.le_of_ble_eq_true rfl) (Nat.le_of_ble_eq_true rfl) (Nat.le_of_ble_eq_true rfl) (Nat.le_of_ble_eq_true rfl) (Nat.le_of_ble_eq_true rfl) ?_
  refine x_goto C 25 dX5_hears_21 (by decide) ?_
  exact x_zret C Z dX5_hears_25 rfl (Nat.le_of_ble_eq_true rfl) (Nat.le_of_ble_eq_true rfl) rfl rfl rfl
set_option maxRecDepth 100000 in
set_option maxHeartbeats 1000000 in
theorem c_X5_hears_no {l : Launch} {E : xEnv} {B N : Nat} {σ : Sg} {M : Nat} {U : Vs} {kp ho tx sc : Fn} {x : Int32} (hno : ¬ ∃ k, k < 8 ∧ x = nI k ∧ U 10 k = 1) {w : Int32} : xM l yX5_hears cX5_hears 3 (some .int) 3 71 0 0 E B [.ref M, .int x, .int w] N (mput E σ M U kp ho tx sc) N (mput E σ M U kp ho tx sc) (some (.int (-1))) := by
  refine xM_of [some (.ref _), some (.int _), some (.int _)] (by decide +kernel) (Nat.le_of_ble_eq_true rfl) rfl (fun k0 C Z => ?_)
  refine x_aload_n C dX5_hears_0 rfl ?_
  refine x_iload_n C dX5_hears_1 rfl ?_
  refine x_callV C (c_X5_isSpeaker_no hno) kv_X5_isSpeaker kl_X5_45 dX5_hears_2 mput_0 rfl rfl rfl rfl (Nat.le_of_ble_eq_true rfl) (Nat.le_of_ble_eq_true rfl) (Nat.le_of_ble_eq_true rfl) (Nat.le_of_ble_eq_true rfl) (Nat.le_of_ble_eq_true rfl) ?_
  refine x_if_eq C 24 dX5_hears_5 (by decide) (fun _ => ?_) (fun h => absurd rfl h)
  refine x_iconst (v := (-1)) C dX5_hears_24 (by decide) ?_
  exact x_zret C Z dX5_hears_25 rfl (Nat.le_of_ble_eq_true rfl) (Nat.le_of_ble_eq_true rfl) rfl rfl rfl
set_option maxRecDepth 100000 in
set_option maxHeartbeats 1000000 in
theorem c_X5_hears_n2 {l : Launch} {E : xEnv} {B N : Nat} {σ : Sg} {M : Nat} {U : Vs} {kp ho tx sc : Fn} {k : Nat} (hk : k < 8) (hp1 : U 10 k = 1) {w : Int32} (hb : ¬ (0 ≤ w ∧ w < 14)) : xM l yX5_hears cX5_hears 3 (some .int) 3 71 0 0 E B [.ref M, .int (nI k), .int w] N (mput E σ M U kp ho tx sc) N (mput E σ M U kp ho tx sc) (some (.int (-1))) := by
  refine xM_of [some (.ref _), some (.int _), some (.int _)] (by decide +kernel) (Nat.le_of_ble_eq_true rfl) rfl (fun k0 C Z => ?_)
  refine x_aload_n C dX5_hears_0 rfl ?_
  refine x_iload_n C dX5_hears_1 rfl ?_
  refine x_callV C (c_X5_isSpeaker_k hk) kv_X5_isSpeaker kl_X5_45 dX5_hears_2 mput_0 rfl rfl rfl rfl (Nat.le_of_ble_eq_true rfl) (Nat.le_of_ble_eq_true rfl) (Nat.le_of_ble_eq_true rfl) (Nat.le_of_ble_eq_true rfl) (Nat.le_of_ble_eq_true rfl) ?_
  refine x_beq C 24 dX5_hears_5 (by decide) (fun h => absurd hp1 h) (fun _ => ?_)
  refine x_iload_n C dX5_hears_8 rfl ?_
  refine x_callS C (c_X5_isWord _) ks_X5_isWord kl_X5_119 dX5_hears_9 rfl rfl rfl rfl (Nat.le_of_ble_eq_true rfl) (Nat.le_of_ble_eq_true rfl) (Nat.le_of_ble_eq_true rfl) (Nat.le_of_ble_eq_true rfl) (Nat.le_of_ble_eq_true rfl) ?_
  refine x_beq C 24 dX5_hears_12 (by decide) (fun _ => ?_) (fun h => absurd h hb)
  refine x_iconst (v := (-1)) C dX5_hears_24 (by decide) ?_
  exact x_zret C Z dX5_hears_25 rfl (Nat.le_of_ble_eq_true rfl) (Nat.le_of_ble_eq_true rfl) rfl rfl rfl
set_option maxRecDepth 100000 in
set_option maxHeartbeats 1000000 in
theorem c_X5_gesture_no {l : Launch} {E : xEnv} {B N : Nat} {σ : Sg} {M : Nat} {U : Vs} {kp ho tx sc : Fn} {x y : Int32} (hb : ¬ (0 ≤ x ∧ x < 14)) : xM l yX5_gesture cX5_gesture 5 (some .int) 2 42 0 0 E B [.ref M, .int x, .int y] N (mput E σ M U kp ho tx sc) N (mput E σ M U kp ho tx sc) (some (.int (-1))) := by
  refine xM_of [some (.ref _), some (.int _), some (.int _), none, none] (by decide +kernel) (Nat.le_of_ble_eq_true rfl) rfl (fun k0 C Z => ?_)
  refine x_iload_n C dX5_gesture_0 rfl ?_
  refine x_callS C (c_X5_isWord _) ks_X5_isWord kl_X5_119 dX5_gesture_1 rfl rfl rfl rfl (Nat.le_of_ble_eq_true rfl) (Nat.le_of_ble_eq_true rfl) (Nat.le_of_ble_eq_true rfl) (Nat.le_of_ble_eq_true rfl) (Nat.le_of_ble_eq_true rfl) ?_
  refine x_bne C 9 dX5_gesture_4 (by decide) (fun h => absurd h hb) (fun _ => ?_)
  refine x_iconst (v := (-1)) C dX5_gesture_7 (by decide) ?_
  exact x_zret C Z dX5_gesture_8 rfl (Nat.le_of_ble_eq_true rfl) (Nat.le_of_ble_eq_true rfl) rfl rfl rfl
set_option maxRecDepth 100000 in
set_option maxHeartbeats 1000000 in
theorem c_X5_gesture_none {l : Launch} {E : xEnv} {B N : Nat} {σ : Sg} {M : Nat} {U : Vs} {kp ho tx sc : Fn} {w : Nat} {y : Int32} (hw : w < 14) (hb : ¬ (0 ≤ y ∧ y < nI (lwN w))) : xM l yX5_gesture cX5_gesture 5 (some .int) 2 42 0 0 E B [.ref M, .int (nI w), .int y] N (mput E σ M U kp ho tx sc) N (mput E σ M U kp ho tx sc) (some (.int (-6))) := by
  by_cases h2 : w < 2
  · have hlen : lwN w = 1 := if_pos h2
    refine xM_of [some (.ref _), some (.int _), some (.int _), none, none] (by decide +kernel) (Nat.le_of_ble_eq_true rfl) rfl (fun k0 C Z => ?_)
    refine x_iload_n C dX5_gesture_0 rfl ?_
    refine x_callS C (c_X5_isWord _) ks_X5_isWord kl_X5_119 dX5_gesture_1 rfl rfl rfl rfl (Nat.le_of_ble_eq_true rfl) (Nat.le_of_ble_eq_true rfl) (Nat.le_of_ble_eq_true rfl) (Nat.le_of_ble_eq_true rfl) (Nat.le_of_ble_eq_true rfl) ?_
    refine x_bne C 9 dX5_gesture_4 (by decide) (fun _ => ?_) (fun h => absurd (bd_in (c := 14) hw (by decide)) h)
    refine x_iload_n C dX5_gesture_9 rfl ?_
    refine x_iconst (v := 2) C dX5_gesture_10 (by decide) ?_
    refine x_ic_ge C 18 dX5_gesture_11 (by decide) (fun h => absurd h (nI_ge (b := 2) h2 (by omega))) (fun _ => ?_)
    refine x_iconst (v := 1) C dX5_gesture_14 (by decide) ?_
    refine x_goto C 29 dX5_gesture_15 (by decide) ?_
    refine x_istore_n C dX5_gesture_29 (by decide) rfl ?_
    refine x_iload_n C dX5_gesture_30 rfl ?_
    refine x_iconst (v := 2) C dX5_gesture_31 (by decide) ?_
    refine x_ic_ge C 39 dX5_gesture_32 (by decide) (fun h => absurd h (nI_ge (b := 2) h2 (by omega))) (fun _ => ?_)
    refine x_iload_n C dX5_gesture_35 rfl ?_
    refine x_goto C 55 dX5_gesture_36 (by decide) ?_
    refine x_istore C dX5_gesture_55 (by decide) rfl ?_
    refine x_iload_n C dX5_gesture_57 rfl ?_
    refine x_iconst (v := 0) C dX5_gesture_58 (by decide) ?_
    refine x_iload_n C dX5_gesture_59 rfl ?_
    refine x_iconst (v := 1) C dX5_gesture_60 (by decide) ?_
    refine x_isub C dX5_gesture_61 ?_
    refine x_callS C (c_X5_within _ _ _) ks_X5_within kl_X5_30 dX5_gesture_62 rfl rfl rfl rfl (Nat.le_of_ble_eq_true rfl) (Nat.le_of_ble_eq_true rfl) (Nat.le_of_ble_eq_true rfl) (Nat.le_of_ble_eq_true rfl) (Nat.le_of_ble_eq_true rfl) ?_
    refine x_bne C 71 dX5_gesture_65 (by decide) (fun h => absurd h (fun z => hb ⟨z.1, by rw [hlen]; exact (le_s (n := 0) (by decide)).mp z.2⟩)) (fun _ => ?_)
    refine x_bipush (v := (-6)) C dX5_gesture_68 (by decide) ?_
    exact x_zret C Z dX5_gesture_70 rfl (Nat.le_of_ble_eq_true rfl) (Nat.le_of_ble_eq_true rfl) rfl rfl rfl
  · by_cases h6 : w < 6
    · have hlen : lwN w = 2 := (if_neg h2).trans (if_pos h6)
      refine xM_of [some (.ref _), some (.int _), some (.int _), none, none] (by decide +kernel) (Nat.le_of_ble_eq_true rfl) rfl (fun k0 C Z => ?_)
      refine x_iload_n C dX5_gesture_0 rfl ?_
      refine x_callS C (c_X5_isWord _) ks_X5_isWord kl_X5_119 dX5_gesture_1 rfl rfl rfl rfl (Nat.le_of_ble_eq_true rfl) (Nat.le_of_ble_eq_true rfl) (Nat.le_of_ble_eq_true rfl) (Nat.le_of_ble_eq_true rfl) (Nat.le_of_ble_eq_true rfl) ?_
      refine x_bne C 9 dX5_gesture_4 (by decide) (fun _ => ?_) (fun h => absurd (bd_in (c := 14) hw (by decide)) h)
      refine x_iload_n C dX5_gesture_9 rfl ?_
      refine x_iconst (v := 2) C dX5_gesture_10 (by decide) ?_
      refine x_ic_ge C 18 dX5_gesture_11 (by decide) (fun _ => ?_) (fun h => absurd (nI_le (a := 2) (by omega) (by omega)) h)
      refine x_iload_n C dX5_gesture_18 rfl ?_
      refine x_bipush (v := 6) C dX5_gesture_19 (by decide) ?_
      refine x_ic_ge C 28 dX5_gesture_21 (by decide) (fun h => absurd h (nI_ge (b := 6) h6 (by omega))) (fun _ => ?_)
      refine x_iconst (v := 2) C dX5_gesture_24 (by decide) ?_
      refine x_goto C 29 dX5_gesture_25 (by decide) ?_
      refine x_istore_n C dX5_gesture_29 (by decide) rfl ?_
      refine x_iload_n C dX5_gesture_30 rfl ?_
      refine x_iconst (v := 2) C dX5_gesture_31 (by decide) ?_
      refine x_ic_ge C 39 dX5_gesture_32 (by decide) (fun _ => ?_) (fun h => absurd (nI_le (a := 2) (by omega) (by omega)) h)
      refine x_iload_n C dX5_gesture_39 rfl ?_
      refine x_bipush (v := 6) C dX5_gesture_40 (by decide) ?_
      refine x_ic_ge C 51 dX5_gesture_42 (by decide) (fun h => absurd h (nI_ge (b := 6) h6 (by omega))) (fun _ => ?_)
      refine x_iload_n C dX5_gesture_45 rfl ?_
      refine x_iconst (v := 2) C dX5_gesture_46 (by decide) ?_
      refine x_isub C dX5_gesture_47 ?_
      refine x_goto C 55 dX5_gesture_48 (by decide) ?_
      refine x_istore C dX5_gesture_55 (by decide) rfl ?_
      refine x_iload_n C dX5_gesture_57 rfl ?_
      refine x_iconst (v := 0) C dX5_gesture_58 (by decide) ?_
      refine x_iload_n C dX5_gesture_59 rfl ?_
      refine x_iconst (v := 1) C dX5_gesture_60 (by decide) ?_
      refine x_isub C dX5_gesture_61 ?_
      refine x_callS C (c_X5_within _ _ _) ks_X5_within kl_X5_30 dX5_gesture_62 rfl rfl rfl rfl (Nat.le_of_ble_eq_true rfl) (Nat.le_of_ble_eq_true rfl) (Nat.le_of_ble_eq_true rfl) (Nat.le_of_ble_eq_true rfl) (Nat.le_of_ble_eq_true rfl) ?_
      refine x_bne C 71 dX5_gesture_65 (by decide) (fun h => absurd h (fun z => hb ⟨z.1, by rw [hlen]; exact (le_s (n := 1) (by decide)).mp z.2⟩)) (fun _ => ?_)
      refine x_bipush (v := (-6)) C dX5_gesture_68 (by decide) ?_
      exact x_zret C Z dX5_gesture_70 rfl (Nat.le_of_ble_eq_true rfl) (Nat.le_of_ble_eq_true rfl) rfl rfl rfl
    · have hlen : lwN w = 3 := (if_neg h2).trans (if_neg h6)
      refine xM_of [some (.ref _), some (.int _), some (.int _), none, none] (by decide +kernel) (Nat.le_of_ble_eq_true rfl) rfl (fun k0 C Z => ?_)
      refine x_iload_n C dX5_gesture_0 rfl ?_
      refine x_callS C (c_X5_isWord _) ks_X5_isWord kl_X5_119 dX5_gesture_1 rfl rfl rfl rfl (Nat.le_of_ble_eq_true rfl) (Nat.le_of_ble_eq_true rfl) (Nat.le_of_ble_eq_true rfl) (Nat.le_of_ble_eq_true rfl) (Nat.le_of_ble_eq_true rfl) ?_
      refine x_bne C 9 dX5_gesture_4 (by decide) (fun _ => ?_) (fun h => absurd (bd_in (c := 14) hw (by decide)) h)
      refine x_iload_n C dX5_gesture_9 rfl ?_
      refine x_iconst (v := 2) C dX5_gesture_10 (by decide) ?_
      refine x_ic_ge C 18 dX5_gesture_11 (by decide) (fun _ => ?_) (fun h => absurd (nI_le (a := 2) (by omega) (by omega)) h)
      refine x_iload_n C dX5_gesture_18 rfl ?_
      refine x_bipush (v := 6) C dX5_gesture_19 (by decide) ?_
      refine x_ic_ge C 28 dX5_gesture_21 (by decide) (fun _ => ?_) (fun h => absurd (nI_le (a := 6) (by omega) (by omega)) h)
      refine x_iconst (v := 3) C dX5_gesture_28 (by decide) ?_
      refine x_istore_n C dX5_gesture_29 (by decide) rfl ?_
      refine x_iload_n C dX5_gesture_30 rfl ?_
      refine x_iconst (v := 2) C dX5_gesture_31 (by decide) ?_
      refine x_ic_ge C 39 dX5_gesture_32 (by decide) (fun _ => ?_) (fun h => absurd (nI_le (a := 2) (by omega) (by omega)) h)
      refine x_iload_n C dX5_gesture_39 rfl ?_
      refine x_bipush (v := 6) C dX5_gesture_40 (by decide) ?_
      refine x_ic_ge C 51 dX5_gesture_42 (by decide) (fun _ => ?_) (fun h => absurd (nI_le (a := 6) (by omega) (by omega)) h)
      refine x_iload_n C dX5_gesture_51 rfl ?_
      refine x_bipush (v := 6) C dX5_gesture_52 (by decide) ?_
      refine x_isub C dX5_gesture_54 ?_
      refine x_istore C dX5_gesture_55 (by decide) rfl ?_
      refine x_iload_n C dX5_gesture_57 rfl ?_
      refine x_iconst (v := 0) C dX5_gesture_58 (by decide) ?_
      refine x_iload_n C dX5_gesture_59 rfl ?_
      refine x_iconst (v := 1) C dX5_gesture_60 (by decide) ?_
      refine x_isub C dX5_gesture_61 ?_
      refine x_callS C (c_X5_within _ _ _) ks_X5_within kl_X5_30 dX5_gesture_62 rfl rfl rfl rfl (Nat.le_of_ble_eq_true rfl) (Nat.le_of_ble_eq_true rfl) (Nat.le_of_ble_eq_true rfl) (Nat.le_of_ble_eq_true rfl) (Nat.le_of_ble_eq_true rfl) ?_
      refine x_bne C 71 dX5_gesture_65 (by decide) (fun h => absurd h (fun z => hb ⟨z.1, by rw [hlen]; exact (le_s (n := 2) (by decide)).mp z.2⟩)) (fun _ => ?_)
      refine x_bipush (v := (-6)) C dX5_gesture_68 (by decide) ?_
      exact x_zret C Z dX5_gesture_70 rfl (Nat.le_of_ble_eq_true rfl) (Nat.le_of_ble_eq_true rfl) rfl rfl rfl
set_option maxRecDepth 100000 in
set_option maxHeartbeats 1000000 in
theorem c_X5_gesture_ok {l : Launch} {E : xEnv} {B N : Nat} {σ : Sg} {M : Nat} {U : Vs} {kp ho tx sc : Fn} {w i : Nat} (hw : w < 14) (hi : i < lwN w) : xM l yX5_gesture cX5_gesture 5 (some .int) 2 42 0 0 E B [.ref M, .int (nI w), .int (nI i)] N (mput E σ M U kp ho tx sc) N (mput E σ M U kp ho tx sc) (some (.int (geS w i))) := by
  by_cases h2 : w < 2
  · have hlen : lwN w = 1 := if_pos h2
    refine xM_of [some (.ref _), some (.int _), some (.int _), none, none] (by decide +kernel) (Nat.le_of_ble_eq_true rfl) rfl (fun k0 C Z => ?_)
    refine x_iload_n C dX5_gesture_0 rfl ?_
    refine x_callS C (c_X5_isWord _) ks_X5_isWord kl_X5_119 dX5_gesture_1 rfl rfl rfl rfl (Nat.le_of_ble_eq_true rfl) (Nat.le_of_ble_eq_true rfl) (Nat.le_of_ble_eq_true rfl) (Nat.le_of_ble_eq_true rfl) (Nat.le_of_ble_eq_true rfl) ?_
    refine x_bne C 9 dX5_gesture_4 (by decide) (fun _ => ?_) (fun h => absurd (bd_in (c := 14) hw (by decide)) h)
    refine x_iload_n C dX5_gesture_9 rfl ?_
    refine x_iconst (v := 2) C dX5_gesture_10 (by decide) ?_
    refine x_ic_ge C 18 dX5_gesture_11 (by decide) (fun h => absurd h (nI_ge (b := 2) h2 (by omega))) (fun _ => ?_)
    refine x_iconst (v := 1) C dX5_gesture_14 (by decide) ?_
    refine x_goto C 29 dX5_gesture_15 (by decide) ?_
    refine x_istore_n C dX5_gesture_29 (by decide) rfl ?_
    refine x_iload_n C dX5_gesture_30 rfl ?_
    refine x_iconst (v := 2) C dX5_gesture_31 (by decide) ?_
    refine x_ic_ge C 39 dX5_gesture_32 (by decide) (fun h => absurd h (nI_ge (b := 2) h2 (by omega))) (fun _ => ?_)
    refine x_iload_n C dX5_gesture_35 rfl ?_
    refine x_goto C 55 dX5_gesture_36 (by decide) ?_
    refine x_istore C dX5_gesture_55 (by decide) rfl ?_
    refine x_iload_n C dX5_gesture_57 rfl ?_
    refine x_iconst (v := 0) C dX5_gesture_58 (by decide) ?_
    refine x_iload_n C dX5_gesture_59 rfl ?_
    refine x_iconst (v := 1) C dX5_gesture_60 (by decide) ?_
    refine x_isub C dX5_gesture_61 ?_
    refine x_callS C (c_X5_within _ _ _) ks_X5_within kl_X5_30 dX5_gesture_62 rfl rfl rfl rfl (Nat.le_of_ble_eq_true rfl) (Nat.le_of_ble_eq_true rfl) (Nat.le_of_ble_eq_true rfl) (Nat.le_of_ble_eq_true rfl) (Nat.le_of_ble_eq_true rfl) ?_
    refine x_bne C 71 dX5_gesture_65 (by decide) (fun _ => ?_) (fun h => absurd ⟨nI_pos' (by have := @lwN_le w; omega), nI_le (b := 0) (by omega) (by omega)⟩ h)
    refine x_iload C dX5_gesture_71 rfl ?_
    refine x_iload_n C dX5_gesture_73 rfl ?_
    refine x_iconst (v := 1) C dX5_gesture_74 (by decide) ?_
    refine x_isub C dX5_gesture_75 ?_
    refine x_iload_n C dX5_gesture_76 rfl ?_
    refine x_isub C dX5_gesture_77 ?_
    refine x_ishr C dX5_gesture_78 ?_
    refine x_iconst (v := 1) C dX5_gesture_79 (by decide) ?_
    refine x_iand C dX5_gesture_80 ?_
    refine x_if_ne C 89 dX5_gesture_81 (by decide) (fun h81 => ?_) (fun h81 => ?_)
    · refine x_bipush (v := 110) C dX5_gesture_89 (by decide) ?_
      exact x_zret C Z dX5_gesture_91 rfl (Nat.le_of_ble_eq_true rfl) (Nat.le_of_ble_eq_true rfl) rfl rfl (if_neg (fun z => h81 ((ge_1 w h2 i (by omega)).mpr z))).symm
    · refine x_bipush (v := 119) C dX5_gesture_84 (by decide) ?_
      refine x_goto C 91 dX5_gesture_86 (by decide) ?_
      exact x_zret C Z dX5_gesture_91 rfl (Nat.le_of_ble_eq_true rfl) (Nat.le_of_ble_eq_true rfl) rfl rfl (if_pos ((ge_1 w h2 i (by omega)).mp h81)).symm
  · by_cases h6 : w < 6
    · have hlen : lwN w = 2 := (if_neg h2).trans (if_pos h6)
      refine xM_of [some (.ref _), some (.int _), some (.int _), none, none] (by decide +kernel) (Nat.le_of_ble_eq_true rfl) rfl (fun k0 C Z => ?_)
      refine x_iload_n C dX5_gesture_0 rfl ?_
      refine x_callS C (c_X5_isWord _) ks_X5_isWord kl_X5_119 dX5_gesture_1 rfl rfl rfl rfl (Nat.le_of_ble_eq_true rfl) (Nat.le_of_ble_eq_true rfl) (Nat.le_of_ble_eq_true rfl) (Nat.le_of_ble_eq_true rfl) (Nat.le_of_ble_eq_true rfl) ?_
      refine x_bne C 9 dX5_gesture_4 (by decide) (fun _ => ?_) (fun h => absurd (bd_in (c := 14) hw (by decide)) h)
      refine x_iload_n C dX5_gesture_9 rfl ?_
      refine x_iconst (v := 2) C dX5_gesture_10 (by decide) ?_
      refine x_ic_ge C 18 dX5_gesture_11 (by decide) (fun _ => ?_) (fun h => absurd (nI_le (a := 2) (by omega) (by omega)) h)
      refine x_iload_n C dX5_gesture_18 rfl ?_
      refine x_bipush (v := 6) C dX5_gesture_19 (by decide) ?_
      refine x_ic_ge C 28 dX5_gesture_21 (by decide) (fun h => absurd h (nI_ge (b := 6) h6 (by omega))) (fun _ => ?_)
      refine x_iconst (v := 2) C dX5_gesture_24 (by decide) ?_
      refine x_goto C 29 dX5_gesture_25 (by decide) ?_
      refine x_istore_n C dX5_gesture_29 (by decide) rfl ?_
      refine x_iload_n C dX5_gesture_30 rfl ?_
      refine x_iconst (v := 2) C dX5_gesture_31 (by decide) ?_
      refine x_ic_ge C 39 dX5_gesture_32 (by decide) (fun _ => ?_) (fun h => absurd (nI_le (a := 2) (by omega) (by omega)) h)
      refine x_iload_n C dX5_gesture_39 rfl ?_
      refine x_bipush (v := 6) C dX5_gesture_40 (by decide) ?_
      refine x_ic_ge C 51 dX5_gesture_42 (by decide) (fun h => absurd h (nI_ge (b := 6) h6 (by omega))) (fun _ => ?_)
      refine x_iload_n C dX5_gesture_45 rfl ?_
      refine x_iconst (v := 2) C dX5_gesture_46 (by decide) ?_
      refine x_isub C dX5_gesture_47 ?_
      refine x_goto C 55 dX5_gesture_48 (by decide) ?_
      refine x_istore C dX5_gesture_55 (by decide) rfl ?_
      refine x_iload_n C dX5_gesture_57 rfl ?_
      refine x_iconst (v := 0) C dX5_gesture_58 (by decide) ?_
      refine x_iload_n C dX5_gesture_59 rfl ?_
      refine x_iconst (v := 1) C dX5_gesture_60 (by decide) ?_
      refine x_isub C dX5_gesture_61 ?_
      refine x_callS C (c_X5_within _ _ _) ks_X5_within kl_X5_30 dX5_gesture_62 rfl rfl rfl rfl (Nat.le_of_ble_eq_true rfl) (Nat.le_of_ble_eq_true rfl) (Nat.le_of_ble_eq_true rfl) (Nat.le_of_ble_eq_true rfl) (Nat.le_of_ble_eq_true rfl) ?_
      refine x_bne C 71 dX5_gesture_65 (by decide) (fun _ => ?_) (fun h => absurd ⟨nI_pos' (by have := @lwN_le w; omega), nI_le (b := 1) (by omega) (by omega)⟩ h)
      refine x_iload C dX5_gesture_71 rfl ?_
      refine x_iload_n C dX5_gesture_73 rfl ?_
      refine x_iconst (v := 1) C dX5_gesture_74 (by decide) ?_
      refine x_isub C dX5_gesture_75 ?_
      refine x_iload_n C dX5_gesture_76 rfl ?_
      refine x_isub C dX5_gesture_77 ?_
      refine x_ishr C dX5_gesture_78 ?_
      refine x_iconst (v := 1) C dX5_gesture_79 (by decide) ?_
      refine x_iand C dX5_gesture_80 ?_
      refine x_if_ne C 89 dX5_gesture_81 (by decide) (fun h81 => ?_) (fun h81 => ?_)
      · refine x_bipush (v := 110) C dX5_gesture_89 (by decide) ?_
        exact x_zret C Z dX5_gesture_91 rfl (Nat.le_of_ble_eq_true rfl) (Nat.le_of_ble_eq_true rfl) rfl rfl (if_neg (fun z => h81 ((ge_2 w h6 i (by omega) h2).mpr z))).symm
      · refine x_bipush (v := 119) C dX5_gesture_84 (by decide) ?_
        refine x_goto C 91 dX5_gesture_86 (by decide) ?_
        exact x_zret C Z dX5_gesture_91 rfl (Nat.le_of_ble_eq_true rfl) (Nat.le_of_ble_eq_true rfl) rfl rfl (if_pos ((ge_2 w h6 i (by omega) h2).mp h81)).symm
    · have hlen : lwN w = 3 := (if_neg h2).trans (if_neg h6)
      refine xM_of [some (.ref _), some (.int _), some (.int _), none, none] (by decide +kernel) (Nat.le_of_ble_eq_true rfl) rfl (fun k0 C Z => ?_)
      refine x_iload_n C dX5_gesture_0 rfl ?_
      refine x_callS C (c_X5_isWord _) ks_X5_isWord kl_X5_119 dX5_gesture_1 rfl rfl rfl rfl (Nat.le_of_ble_eq_true rfl) (Nat.le_of_ble_eq_true rfl) (Nat.le_of_ble_eq_true rfl) (Nat.le_of_ble_eq_true rfl) (Nat.le_of_ble_eq_true rfl) ?_
      refine x_bne C 9 dX5_gesture_4 (by decide) (fun _ => ?_) (fun h => absurd (bd_in (c := 14) hw (by decide)) h)
      refine x_iload_n C dX5_gesture_9 rfl ?_
      refine x_iconst (v := 2) C dX5_gesture_10 (by decide) ?_
      refine x_ic_ge C 18 dX5_gesture_11 (by decide) (fun _ => ?_) (fun h => absurd (nI_le (a := 2) (by omega) (by omega)) h)
      refine x_iload_n C dX5_gesture_18 rfl ?_
      refine x_bipush (v := 6) C dX5_gesture_19 (by decide) ?_
      refine x_ic_ge C 28 dX5_gesture_21 (by decide) (fun _ => ?_) (fun h => absurd (nI_le (a := 6) (by omega) (by omega)) h)
      refine x_iconst (v := 3) C dX5_gesture_28 (by decide) ?_
      refine x_istore_n C dX5_gesture_29 (by decide) rfl ?_
      refine x_iload_n C dX5_gesture_30 rfl ?_
      refine x_iconst (v := 2) C dX5_gesture_31 (by decide) ?_
      refine x_ic_ge C 39 dX5_gesture_32 (by decide) (fun _ => ?_) (fun h => absurd (nI_le (a := 2) (by omega) (by omega)) h)
      refine x_iload_n C dX5_gesture_39 rfl ?_
      refine x_bipush (v := 6) C dX5_gesture_40 (by decide) ?_
      refine x_ic_ge C 51 dX5_gesture_42 (by decide) (fun _ => ?_) (fun h => absurd (nI_le (a := 6) (by omega) (by omega)) h)
      refine x_iload_n C dX5_gesture_51 rfl ?_
      refine x_bipush (v := 6) C dX5_gesture_52 (by decide) ?_
      refine x_isub C dX5_gesture_54 ?_
      refine x_istore C dX5_gesture_55 (by decide) rfl ?_
      refine x_iload_n C dX5_gesture_57 rfl ?_
      refine x_iconst (v := 0) C dX5_gesture_58 (by decide) ?_
      refine x_iload_n C dX5_gesture_59 rfl ?_
      refine x_iconst (v := 1) C dX5_gesture_60 (by decide) ?_
      refine x_isub C dX5_gesture_61 ?_
      refine x_callS C (c_X5_within _ _ _) ks_X5_within kl_X5_30 dX5_gesture_62 rfl rfl rfl rfl (Nat.le_of_ble_eq_true rfl) (Nat.le_of_ble_eq_true rfl) (Nat.le_of_ble_eq_true rfl) (Nat.le_of_ble_eq_true rfl) (Nat.le_of_ble_eq_true rfl) ?_
      refine x_bne C 71 dX5_gesture_65 (by decide) (fun _ => ?_) (fun h => absurd ⟨nI_pos' (by have := @lwN_le w; omega), nI_le (b := 2) (by omega) (by omega)⟩ h)
      refine x_iload C dX5_gesture_71 rfl ?_
      refine x_iload_n C dX5_gesture_73 rfl ?_
      refine x_iconst (v := 1) C dX5_gesture_74 (by decide) ?_
      refine x_isub C dX5_gesture_75 ?_
      refine x_iload_n C dX5_gesture_76 rfl ?_
      refine x_isub C dX5_gesture_77 ?_
      refine x_ishr C dX5_gesture_78 ?_
      refine x_iconst (v := 1) C dX5_gesture_79 (by decide) ?_
      refine x_iand C dX5_gesture_80 ?_
      refine x_if_ne C 89 dX5_gesture_81 (by decide) (fun h81 => ?_) (fun h81 => ?_)
      · refine x_bipush (v := 110) C dX5_gesture_89 (by decide) ?_
        exact x_zret C Z dX5_gesture_91 rfl (Nat.le_of_ble_eq_true rfl) (Nat.le_of_ble_eq_true rfl) rfl rfl (if_neg (fun z => h81 ((ge_3 w hw i (by omega) h6).mpr z))).symm
      · refine x_bipush (v := 119) C dX5_gesture_84 (by decide) ?_
        refine x_goto C 91 dX5_gesture_86 (by decide) ?_
        exact x_zret C Z dX5_gesture_91 rfl (Nat.le_of_ble_eq_true rfl) (Nat.le_of_ble_eq_true rfl) rfl rfl (if_pos ((ge_3 w hw i (by omega) h6).mp h81)).symm
set_option maxRecDepth 100000 in
set_option maxHeartbeats 1000000 in
theorem c_X5_agreement_w0 {l : Launch} {E : xEnv} {B N : Nat} {σ : Sg} {M : Nat} {U : Vs} {kp ho tx sc : Fn} {k1 : Nat} (hk1 : k1 < 8) (hp1 : U 10 k1 = 1){k2 : Nat} (hk2 : k2 < 8) (hp2 : U 10 k2 = 1) : xM l yX5_agreement cX5_agreement 4 (some .int) 4 95 0 0 E B [.ref M, .int (nI k1), .int (nI k2), .int 0] N (mput E σ M U kp ho tx sc) N (mput E σ M U kp ho tx sc) (some (.int (nI (agN U k1 k2 6)))) := by
  refine xM_of [some (.ref _), some (.int _), some (.int _), some (.int _)] (by decide +kernel) (Nat.le_of_ble_eq_true rfl) rfl (fun k0 C Z => ?_)
  refine x_aload_n C dX5_agreement_0 rfl ?_
  refine x_iload_n C dX5_agreement_1 rfl ?_
  refine x_callV C (c_X5_isSpeaker_k hk1) kv_X5_isSpeaker kl_X5_45 dX5_agreement_2 mput_0 rfl rfl rfl rfl (Nat.le_of_ble_eq_true rfl) (Nat.le_of_ble_eq_true rfl) (Nat.le_of_ble_eq_true rfl) (Nat.le_of_ble_eq_true rfl) (Nat.le_of_ble_eq_true rfl) ?_
  refine x_beq C 16 dX5_agreement_5 (by decide) (fun h => absurd hp1 h) (fun _ => ?_)
  refine x_aload_n C dX5_agreement_8 rfl ?_
  refine x_iload_n C dX5_agreement_9 rfl ?_
  refine x_callV C (c_X5_isSpeaker_k hk2) kv_X5_isSpeaker kl_X5_45 dX5_agreement_10 mput_0 rfl rfl rfl rfl (Nat.le_of_ble_eq_true rfl) (Nat.le_of_ble_eq_true rfl) (Nat.le_of_ble_eq_true rfl) (Nat.le_of_ble_eq_true rfl) (Nat.le_of_ble_eq_true rfl) ?_
  refine x_bne C 18 dX5_agreement_13 (by decide) (fun _ => ?_) (fun h => absurd hp2 h)
  refine x_iload_n C dX5_agreement_18 rfl ?_
  refine x_iconst (v := 0) C dX5_agreement_19 (by decide) ?_
  refine x_iconst (v := 1) C dX5_agreement_20 (by decide) ?_
  refine x_callS C (c_X5_within _ _ _) ks_X5_within kl_X5_30 dX5_agreement_21 rfl rfl rfl rfl (Nat.le_of_ble_eq_true rfl) (Nat.le_of_ble_eq_true rfl) (Nat.le_of_ble_eq_true rfl) (Nat.le_of_ble_eq_true rfl) (Nat.le_of_ble_eq_true rfl) ?_
  refine x_beq C 36 dX5_agreement_24 (by decide) (fun h => absurd (by decide) h) (fun _ => ?_)
  refine x_aload_n C dX5_agreement_27 rfl ?_
  refine x_iload_n C dX5_agreement_28 rfl ?_
  refine x_iload_n C dX5_agreement_29 rfl ?_
  refine x_callV C (c_X5_agreements hk1 hk2) kv_X5_agreements kl_X5_137 dX5_agreement_30 mput_0 rfl rfl rfl rfl (Nat.le_of_ble_eq_true rfl) (Nat.le_of_ble_eq_true rfl) (Nat.le_of_ble_eq_true rfl) (Nat.le_of_ble_eq_true rfl) (Nat.le_of_ble_eq_true rfl) ?_
  refine x_goto C 38 dX5_agreement_33 (by decide) ?_
  exact x_zret C Z dX5_agreement_38 rfl (Nat.le_of_ble_eq_true rfl) (Nat.le_of_ble_eq_true rfl) rfl rfl rfl
set_option maxRecDepth 100000 in
set_option maxHeartbeats 1000000 in
theorem c_X5_agreement_w1 {l : Launch} {E : xEnv} {B N : Nat} {σ : Sg} {M : Nat} {U : Vs} {kp ho tx sc : Fn} {k1 : Nat} (hk1 : k1 < 8) (hp1 : U 10 k1 = 1){k2 : Nat} (hk2 : k2 < 8) (hp2 : U 10 k2 = 1) : xM l yX5_agreement cX5_agreement 4 (some .int) 4 95 0 0 E B [.ref M, .int (nI k1), .int (nI k2), .int 1] N (mput E σ M U kp ho tx sc) N (mput E σ M U kp ho tx sc) (some (.int (nI (agN U k1 k2 6)))) := by
  refine xM_of [some (.ref _), some (.int _), some (.int _), some (.int _)] (by decide +kernel) (Nat.le_of_ble_eq_true rfl) rfl (fun k0 C Z => ?_)
  refine x_aload_n C dX5_agreement_0 rfl ?_
  refine x_iload_n C dX5_agreement_1 rfl ?_
  refine x_callV C (c_X5_isSpeaker_k hk1) kv_X5_isSpeaker kl_X5_45 dX5_agreement_2 mput_0 rfl rfl rfl rfl (Nat.le_of_ble_eq_true rfl) (Nat.le_of_ble_eq_true rfl) (Nat.le_of_ble_eq_true rfl) (Nat.le_of_ble_eq_true rfl) (Nat.le_of_ble_eq_true rfl) ?_
  refine x_beq C 16 dX5_agreement_5 (by decide) (fun h => absurd hp1 h) (fun _ => ?_)
  refine x_aload_n C dX5_agreement_8 rfl ?_
  refine x_iload_n C dX5_agreement_9 rfl ?_
  refine x_callV C (c_X5_isSpeaker_k hk2) kv_X5_isSpeaker kl_X5_45 dX5_agreement_10 mput_0 rfl rfl rfl rfl (Nat.le_of_ble_eq_true rfl) (Nat.le_of_ble_eq_true rfl) (Nat.le_of_ble_eq_true rfl) (Nat.le_of_ble_eq_true rfl) (Nat.le_of_ble_eq_true rfl) ?_
  refine x_bne C 18 dX5_agreement_13 (by decide) (fun _ => ?_) (fun h => absurd hp2 h)
  refine x_iload_n C dX5_agreement_18 rfl ?_
  refine x_iconst (v := 0) C dX5_agreement_19 (by decide) ?_
  refine x_iconst (v := 1) C dX5_agreement_20 (by decide) ?_
  refine x_callS C (c_X5_within _ _ _) ks_X5_within kl_X5_30 dX5_agreement_21 rfl rfl rfl rfl (Nat.le_of_ble_eq_true rfl) (Nat.le_of_ble_eq_true rfl) (Nat.le_of_ble_eq_true rfl) (Nat.le_of_ble_eq_true rfl) (Nat.le_of_ble_eq_true rfl) ?_
  refine x_beq C 36 dX5_agreement_24 (by decide) (fun h => absurd (by decide) h) (fun _ => ?_)
  refine x_aload_n C dX5_agreement_27 rfl ?_
  refine x_iload_n C dX5_agreement_28 rfl ?_
  refine x_iload_n C dX5_agreement_29 rfl ?_
  refine x_callV C (c_X5_agreements hk1 hk2) kv_X5_agreements kl_X5_137 dX5_agreement_30 mput_0 rfl rfl rfl rfl (Nat.le_of_ble_eq_true rfl) (Nat.le_of_ble_eq_true rfl) (Nat.le_of_ble_eq_true rfl) (Nat.le_of_ble_eq_true rfl) (Nat.le_of_ble_eq_true rfl) ?_
  refine x_goto C 38 dX5_agreement_33 (by decide) ?_
  exact x_zret C Z dX5_agreement_38 rfl (Nat.le_of_ble_eq_true rfl) (Nat.le_of_ble_eq_true rfl) rfl rfl rfl
set_option maxRecDepth 100000 in
set_option maxHeartbeats 1000000 in
theorem c_X5_agreement_bad {l : Launch} {E : xEnv} {B N : Nat} {σ : Sg} {M : Nat} {U : Vs} {kp ho tx sc : Fn} {k1 : Nat} (hk1 : k1 < 8) (hp1 : U 10 k1 = 1){k2 : Nat} (hk2 : k2 < 8) (hp2 : U 10 k2 = 1) {w : Int32} (h1 : ¬ w = 0) (h2 : ¬ w = 1) : xM l yX5_agreement cX5_agreement 4 (some .int) 4 95 0 0 E B [.ref M, .int (nI k1), .int (nI k2), .int w] N (mput E σ M U kp ho tx sc) N (mput E σ M U kp ho tx sc) (some (.int (-2))) := by
  refine xM_of [some (.ref _), some (.int _), some (.int _), some (.int _)] (by decide +kernel) (Nat.le_of_ble_eq_true rfl) rfl (fun k0 C Z => ?_)
  refine x_aload_n C dX5_agreement_0 rfl ?_
  refine x_iload_n C dX5_agreement_1 rfl ?_
  refine x_callV C (c_X5_isSpeaker_k hk1) kv_X5_isSpeaker kl_X5_45 dX5_agreement_2 mput_0 rfl rfl rfl rfl (Nat.le_of_ble_eq_true rfl) (Nat.le_of_ble_eq_true rfl) (Nat.le_of_ble_eq_true rfl) (Nat.le_of_ble_eq_true rfl) (Nat.le_of_ble_eq_true rfl) ?_
  refine x_beq C 16 dX5_agreement_5 (by decide) (fun h => absurd hp1 h) (fun _ => ?_)
  refine x_aload_n C dX5_agreement_8 rfl ?_
  refine x_iload_n C dX5_agreement_9 rfl ?_
  refine x_callV C (c_X5_isSpeaker_k hk2) kv_X5_isSpeaker kl_X5_45 dX5_agreement_10 mput_0 rfl rfl rfl rfl (Nat.le_of_ble_eq_true rfl) (Nat.le_of_ble_eq_true rfl) (Nat.le_of_ble_eq_true rfl) (Nat.le_of_ble_eq_true rfl) (Nat.le_of_ble_eq_true rfl) ?_
  refine x_bne C 18 dX5_agreement_13 (by decide) (fun _ => ?_) (fun h => absurd hp2 h)
  refine x_iload_n C dX5_agreement_18 rfl ?_
  refine x_iconst (v := 0) C dX5_agreement_19 (by decide) ?_
  refine x_iconst (v := 1) C dX5_agreement_20 (by decide) ?_
  refine x_callS C (c_X5_within _ _ _) ks_X5_within kl_X5_30 dX5_agreement_21 rfl rfl rfl rfl (Nat.le_of_ble_eq_true rfl) (Nat.le_of_ble_eq_true rfl) (Nat.le_of_ble_eq_true rfl) (Nat.le_of_ble_eq_true rfl) (Nat.le_of_ble_eq_true rfl) ?_
  refine x_beq C 36 dX5_agreement_24 (by decide) (fun _ => ?_) (fun h => absurd h (w01 h1 h2))
  refine x_bipush (v := (-2)) C dX5_agreement_36 (by decide) ?_
  exact x_zret C Z dX5_agreement_38 rfl (Nat.le_of_ble_eq_true rfl) (Nat.le_of_ble_eq_true rfl) rfl rfl rfl
set_option maxRecDepth 100000 in
set_option maxHeartbeats 1000000 in
theorem c_X5_agreement_n1 {l : Launch} {E : xEnv} {B N : Nat} {σ : Sg} {M : Nat} {U : Vs} {kp ho tx sc : Fn} {x : Int32} (hno : ¬ ∃ k, k < 8 ∧ x = nI k ∧ U 10 k = 1) {y w : Int32} : xM l yX5_agreement cX5_agreement 4 (some .int) 4 95 0 0 E B [.ref M, .int x, .int y, .int w] N (mput E σ M U kp ho tx sc) N (mput E σ M U kp ho tx sc) (some (.int (-1))) := by
  refine xM_of [some (.ref _), some (.int _), some (.int _), some (.int _)] (by decide +kernel) (Nat.le_of_ble_eq_true rfl) rfl (fun k0 C Z => ?_)
  refine x_aload_n C dX5_agreement_0 rfl ?_
  refine x_iload_n C dX5_agreement_1 rfl ?_
  refine x_callV C (c_X5_isSpeaker_no hno) kv_X5_isSpeaker kl_X5_45 dX5_agreement_2 mput_0 rfl rfl rfl rfl (Nat.le_of_ble_eq_true rfl) (Nat.le_of_ble_eq_true rfl) (Nat.le_of_ble_eq_true rfl) (Nat.le_of_ble_eq_true rfl) (Nat.le_of_ble_eq_true rfl) ?_
  refine x_if_eq C 16 dX5_agreement_5 (by decide) (fun _ => ?_) (fun h => absurd rfl h)
  refine x_iconst (v := (-1)) C dX5_agreement_16 (by decide) ?_
  exact x_zret C Z dX5_agreement_17 rfl (Nat.le_of_ble_eq_true rfl) (Nat.le_of_ble_eq_true rfl) rfl rfl rfl
set_option maxRecDepth 100000 in
set_option maxHeartbeats 1000000 in
theorem c_X5_agreement_n2 {l : Launch} {E : xEnv} {B N : Nat} {σ : Sg} {M : Nat} {U : Vs} {kp ho tx sc : Fn} {k1 : Nat} (hk1 : k1 < 8) (hp1 : U 10 k1 = 1){y : Int32} (hny : ¬ ∃ k, k < 8 ∧ y = nI k ∧ U 10 k = 1) {w : Int32} : xM l yX5_agreement cX5_agreement 4 (some .int) 4 95 0 0 E B [.ref M, .int (nI k1), .int y, .int w] N (mput E σ M U kp ho tx sc) N (mput E σ M U kp ho tx sc) (some (.int (-1))) := by
  refine xM_of [some (.ref _), some (.int _), some (.int _), some (.int _)] (by decide +kernel) (Nat.le_of_ble_eq_true rfl) rfl (fun k0 C Z => ?_)
  refine x_aload_n C dX5_agreement_0 rfl ?_
  refine x_iload_n C dX5_agreement_1 rfl ?_
  refine x_callV C (c_X5_isSpeaker_k hk1) kv_X5_isSpeaker kl_X5_45 dX5_agreement_2 mput_0 rfl rfl rfl rfl (Nat.le_of_ble_eq_true rfl) (Nat.le_of_ble_eq_true rfl) (Nat.le_of_ble_eq_true rfl) (Nat.le_of_ble_eq_true rfl) (Nat.le_of_ble_eq_true rfl) ?_
  refine x_beq C 16 dX5_agreement_5 (by decide) (fun h => absurd hp1 h) (fun _ => ?_)
  refine x_aload_n C dX5_agreement_8 rfl ?_
  refine x_iload_n C dX5_agreement_9 rfl ?_
  refine x_callV C (c_X5_isSpeaker_no hny) kv_X5_isSpeaker kl_X5_45 dX5_agreement_10 mput_0 rfl rfl rfl rfl (Nat.le_of_ble_eq_true rfl) (Nat.le_of_ble_eq_true rfl) (Nat.le_of_ble_eq_true rfl) (Nat.le_of_ble_eq_true rfl) (Nat.le_of_ble_eq_true rfl) ?_
  refine x_if_ne C 18 dX5_agreement_13 (by decide) (fun h => absurd rfl h) (fun _ => ?_)
  refine x_iconst (v := (-1)) C dX5_agreement_16 (by decide) ?_
  exact x_zret C Z dX5_agreement_17 rfl (Nat.le_of_ble_eq_true rfl) (Nat.le_of_ble_eq_true rfl) rfl rfl rfl
set_option maxRecDepth 100000 in
set_option maxHeartbeats 1000000 in
theorem c_X5_understanding_ok {l : Launch} {E : xEnv} {B N : Nat} {σ : Sg} {M : Nat} {U : Vs} {kp ho tx sc : Fn} {k1 : Nat} (hk1 : k1 < 8) (hp1 : U 10 k1 = 1){k2 : Nat} (hk2 : k2 < 8) (hp2 : U 10 k2 = 1) : xM l yX5_understanding cX5_understanding 3 (some .int) 4 95 0 0 E B [.ref M, .int (nI k1), .int (nI k2)] N (mput E σ M U kp ho tx sc) N (mput E σ M U kp ho tx sc) (some (.int (nI (unN U k1 k2 6)))) := by
  refine xM_of [some (.ref _), some (.int _), some (.int _)] (by decide +kernel) (Nat.le_of_ble_eq_true rfl) rfl (fun k0 C Z => ?_)
  refine x_aload_n C dX5_understanding_0 rfl ?_
  refine x_iload_n C dX5_understanding_1 rfl ?_
  refine x_callV C (c_X5_isSpeaker_k hk1) kv_X5_isSpeaker kl_X5_45 dX5_understanding_2 mput_0 rfl rfl rfl rfl (Nat.le_of_ble_eq_true rfl) (Nat.le_of_ble_eq_true rfl) (Nat.le_of_ble_eq_true rfl) (Nat.le_of_ble_eq_true rfl) (Nat.le_of_ble_eq_true rfl) ?_
  refine x_beq C 25 dX5_understanding_5 (by decide) (fun h => absurd hp1 h) (fun _ => ?_)
  refine x_aload_n C dX5_understanding_8 rfl ?_
  refine x_iload_n C dX5_understanding_9 rfl ?_
  refine x_callV C (c_X5_isSpeaker_k hk2) kv_X5_isSpeaker kl_X5_45 dX5_understanding_10 mput_0 rfl rfl rfl rfl (Nat.le_of_ble_eq_true rfl) (Nat.le_of_ble_eq_true rfl) (Nat.le_of_ble_eq_true rfl) (Nat.le_of_ble_eq_true rfl) (Nat.le_of_ble_eq_true rfl) ?_
  refine x_beq C 25 dX5_understanding_13 (by decide) (fun h => absurd hp2 h) (fun _ => ?_)
  refine x_aload_n C dX5_understanding_16 rfl ?_
  refine x_iload_n C dX5_understanding_17 rfl ?_
  refine x_iload_n C dX5_understanding_18 rfl ?_
  refine x_callV C (c_X5_understood hk1 hk2) kv_X5_understood kl_X5_140 dX5_understanding_19 mput_0 rfl rfl rfl rfl (Nat.le_of_ble_eq_true rfl) (Nat.le_of_ble_eq_true rfl) (Nat.le_of_ble_eq_true rfl) (Nat.le_of_ble_eq_true rfl) (Nat.le_of_ble_eq_true rfl) ?_
  refine x_goto C 26 dX5_understanding_22 (by decide) ?_
  exact x_zret C Z dX5_understanding_26 rfl (Nat.le_of_ble_eq_true rfl) (Nat.le_of_ble_eq_true rfl) rfl rfl rfl
set_option maxRecDepth 100000 in
set_option maxHeartbeats 1000000 in
theorem c_X5_understanding_n1 {l : Launch} {E : xEnv} {B N : Nat} {σ : Sg} {M : Nat} {U : Vs} {kp ho tx sc : Fn} {x : Int32} (hno : ¬ ∃ k, k < 8 ∧ x = nI k ∧ U 10 k = 1) {y : Int32} : xM l yX5_understanding cX5_understanding 3 (some .int) 4 95 0 0 E B [.ref M, .int x, .int y] N (mput E σ M U kp ho tx sc) N (mput E σ M U kp ho tx sc) (some (.int (-1))) := by
  refine xM_of [some (.ref _), some (.int _), some (.int _)] (by decide +kernel) (Nat.le_of_ble_eq_true rfl) rfl (fun k0 C Z => ?_)
  refine x_aload_n C dX5_understanding_0 rfl ?_
  refine x_iload_n C dX5_understanding_1 rfl ?_
  refine x_callV C (c_X5_isSpeaker_no hno) kv_X5_isSpeaker kl_X5_45 dX5_understanding_2 mput_0 rfl rfl rfl rfl (Nat.le_of_ble_eq_true rfl) (Nat.le_of_ble_eq_true rfl) (Nat.le_of_ble_eq_true rfl) (Nat.le_of_ble_eq_true rfl) (Nat.le_of_ble_eq_true rfl) ?_
  refine x_if_eq C 25 dX5_understanding_5 (by decide) (fun _ => ?_) (fun h => absurd rfl h)
  refine x_iconst (v := (-1)) C dX5_understanding_25 (by decide) ?_
  exact x_zret C Z dX5_understanding_26 rfl (Nat.le_of_ble_eq_true rfl) (Nat.le_of_ble_eq_true rfl) rfl rfl rfl
set_option maxRecDepth 100000 in
set_option maxHeartbeats 1000000 in
theorem c_X5_understanding_n2 {l : Launch} {E : xEnv} {B N : Nat} {σ : Sg} {M : Nat} {U : Vs} {kp ho tx sc : Fn} {k1 : Nat} (hk1 : k1 < 8) (hp1 : U 10 k1 = 1){y : Int32} (hny : ¬ ∃ k, k < 8 ∧ y = nI k ∧ U 10 k = 1) : xM l yX5_understanding cX5_understanding 3 (some .int) 4 95 0 0 E B [.ref M, .int (nI k1), .int y] N (mput E σ M U kp ho tx sc) N (mput E σ M U kp ho tx sc) (some (.int (-1))) := by
  refine xM_of [some (.ref _), some (.int _), some (.int _)] (by decide +kernel) (Nat.le_of_ble_eq_true rfl) rfl (fun k0 C Z => ?_)
  refine x_aload_n C dX5_understanding_0 rfl ?_
  refine x_iload_n C dX5_understanding_1 rfl ?_
  refine x_callV C (c_X5_isSpeaker_k hk1) kv_X5_isSpeaker kl_X5_45 dX5_understanding_2 mput_0 rfl rfl rfl rfl (Nat.le_of_ble_eq_true rfl) (Nat.le_of_ble_eq_true rfl) (Nat.le_of_ble_eq_true rfl) (Nat.le_of_ble_eq_true rfl) (Nat.le_of_ble_eq_true rfl) ?_
  refine x_beq C 25 dX5_understanding_5 (by decide) (fun h => absurd hp1 h) (fun _ => ?_)
  refine x_aload_n C dX5_understanding_8 rfl ?_
  refine x_iload_n C dX5_understanding_9 rfl ?_
  refine x_callV C (c_X5_isSpeaker_no hny) kv_X5_isSpeaker kl_X5_45 dX5_understanding_10 mput_0 rfl rfl rfl rfl (Nat.le_of_ble_eq_true rfl) (Nat.le_of_ble_eq_true rfl) (Nat.le_of_ble_eq_true rfl) (Nat.le_of_ble_eq_true rfl) (Nat.le_of_ble_eq_true rfl) ?_
  refine x_if_eq C 25 dX5_understanding_13 (by decide) (fun _ => ?_) (fun h => absurd rfl h)
  refine x_iconst (v := (-1)) C dX5_understanding_25 (by decide) ?_
  exact x_zret C Z dX5_understanding_26 rfl (Nat.le_of_ble_eq_true rfl) (Nat.le_of_ble_eq_true rfl) rfl rfl rfl
set_option maxRecDepth 100000 in
set_option maxHeartbeats 1000000 in
theorem c_X5_common_ok {l : Launch} {E : xEnv} {B N : Nat} {σ : Sg} {M : Nat} {U : Vs} {kp ho tx sc : Fn} {m : Nat} (hm : m < 6) : xM l yX5_common cX5_common 2 (some .int) 4 97 0 0 E B [.ref M, .int (nI m)] N (mput E σ M U kp ho tx sc) N (mput E σ M U kp ho tx sc) (some (.int (oI (cmS U m)))) := by
  refine xM_of [some (.ref _), some (.int _)] (by decide +kernel) (Nat.le_of_ble_eq_true rfl) rfl (fun k0 C Z => ?_)
  refine x_iload_n C dX5_common_0 rfl ?_
  refine x_callS C (c_X5_isMeaning _) ks_X5_isMeaning kl_X5_80 dX5_common_1 rfl rfl rfl rfl (Nat.le_of_ble_eq_true rfl) (Nat.le_of_ble_eq_true rfl) (Nat.le_of_ble_eq_true rfl) (Nat.le_of_ble_eq_true rfl) (Nat.le_of_ble_eq_true rfl) ?_
  refine x_beq C 15 dX5_common_4 (by decide) (fun h => absurd (bd_in (c := 6) hm (by decide)) h) (fun _ => ?_)
  refine x_aload_n C dX5_common_7 rfl ?_
  refine x_iload_n C dX5_common_8 rfl ?_
  refine x_callV C (c_X5_commonOf hm) kv_X5_commonOf kl_X5_143 dX5_common_9 mput_0 rfl rfl rfl rfl (Nat.le_of_ble_eq_true rfl) (Nat.le_of_ble_eq_true rfl) (Nat.le_of_ble_eq_true rfl) (Nat.le_of_ble_eq_true rfl) (Nat.le_of_ble_eq_true rfl) ?_
  refine x_goto C 16 dX5_common_12 (by decide) ?_
  exact x_zret C Z dX5_common_16 rfl (Nat.le_of_ble_eq_true rfl) (Nat.le_of_ble_eq_true rfl) rfl rfl rfl
set_option maxRecDepth 100000 in
set_option maxHeartbeats 1000000 in
theorem c_X5_common_no {l : Launch} {E : xEnv} {B N : Nat} {σ : Sg} {M : Nat} {U : Vs} {kp ho tx sc : Fn} {x : Int32} (hb : ¬ (0 ≤ x ∧ x < 6)) : xM l yX5_common cX5_common 2 (some .int) 4 97 0 0 E B [.ref M, .int x] N (mput E σ M U kp ho tx sc) N (mput E σ M U kp ho tx sc) (some (.int (-1))) := by
  refine xM_of [some (.ref _), some (.int _)] (by decide +kernel) (Nat.le_of_ble_eq_true rfl) rfl (fun k0 C Z => ?_)
  refine x_iload_n C dX5_common_0 rfl ?_
  refine x_callS C (c_X5_isMeaning _) ks_X5_isMeaning kl_X5_80 dX5_common_1 rfl rfl rfl rfl (Nat.le_of_ble_eq_true rfl) (Nat.le_of_ble_eq_true rfl) (Nat.le_of_ble_eq_true rfl) (Nat.le_of_ble_eq_true rfl) (Nat.le_of_ble_eq_true rfl) ?_
  refine x_beq C 15 dX5_common_4 (by decide) (fun _ => ?_) (fun h => absurd h hb)
  refine x_iconst (v := (-1)) C dX5_common_15 (by decide) ?_
  exact x_zret C Z dX5_common_16 rfl (Nat.le_of_ble_eq_true rfl) (Nat.le_of_ble_eq_true rfl) rfl rfl rfl
set_option maxRecDepth 100000 in
set_option maxHeartbeats 1000000 in
theorem c_X5_type_ok {l : Launch} {E : xEnv} {B N : Nat} {σ : Sg} {M : Nat} {U : Vs} {kp ho tx sc : Fn} {c n : Nat} (h1 : 33 ≤ c) (h2 : c ≤ 126) (hn : n < 80) (h3 : sc 1 = nI n) : xM l yX5_type cX5_type 2 (some .int) 1 22 0 0 E B [.ref M, .int (nI c)] N (mput E σ M U kp ho tx sc) N (mput E σ M U kp ho (upd tx n (nI c)) (upd sc 1 (nI (n + 1)))) (some (.int (nI (n + 1)))) := by
  refine xM_of [some (.ref _), some (.int _)] (by decide +kernel) (Nat.le_of_ble_eq_true rfl) rfl (fun k0 C Z => ?_)
  refine x_iload_n C dX5_type_0 rfl ?_
  refine x_bipush (v := 33) C dX5_type_1 (by decide) ?_
  refine x_bipush (v := 126) C dX5_type_3 (by decide) ?_
  refine x_callS C (c_X5_within _ _ _) ks_X5_within kl_X5_30 dX5_type_5 rfl rfl rfl rfl (Nat.le_of_ble_eq_true rfl) (Nat.le_of_ble_eq_true rfl) (Nat.le_of_ble_eq_true rfl) (Nat.le_of_ble_eq_true rfl) (Nat.le_of_ble_eq_true rfl) ?_
  refine x_bne C 14 dX5_type_8 (by decide) (fun _ => ?_) (fun h => absurd ⟨nI_le (a := 33) h1 (by omega), nI_le (b := 126) h2 (by omega)⟩ h)
  refine x_aload_n C dX5_type_14 rfl ?_
  refine x_get C kf_X5_146 mput_0 rfl dX5_type_15 ?_
  rw [h3]
  refine x_bipush (v := 80) C dX5_type_18 (by decide) ?_
  refine x_ic_ne C 26 dX5_type_20 (by decide) (fun _ => ?_) (fun h => absurd h (nI_neL (b := 80) (by omega) (by decide) (by omega)))
  refine x_aload_n C dX5_type_26 rfl ?_
  refine x_get C kf_X5_19 mput_0 rfl dX5_type_27 ?_
  refine x_aload_n C dX5_type_30 rfl ?_
  refine x_get C kf_X5_146 mput_0 rfl dX5_type_31 ?_
  rw [h3]
  refine x_iload_n C dX5_type_34 rfl ?_
  refine x_iast2 C mput_4 rfl (by omega) (by decide) (fun _ _ => rfl) (mput_tx _) dX5_type_35 ?_
  refine x_aload_n C dX5_type_36 rfl ?_
  refine x_dup C dX5_type_37 rfl ?_
  refine x_get C kf_X5_146 mput_0 rfl dX5_type_38 ?_
  rw [h3]
  refine x_iconst (v := 1) C dX5_type_41 (by decide) ?_
  refine x_iadd C dX5_type_42 ?_
  rw [nI_1]
  refine x_put (ty := .int) C kf_X5_146 mput_0 rfl (by decide +kernel) rfl rfl (Nat.le_of_ble_eq_true rfl) (mput_s1 _) dX5_type_43 ?_
  refine x_aload_n C dX5_type_46 rfl ?_
  refine x_get C kf_X5_146 mput_0 rfl dX5_type_47 ?_
  rw [pk_us]
  exact x_zret C Z dX5_type_50 rfl (Nat.le_of_ble_eq_true rfl) (Nat.le_of_ble_eq_true rfl) rfl rfl rfl
set_option maxRecDepth 100000 in
set_option maxHeartbeats 1000000 in
theorem c_X5_type_full {l : Launch} {E : xEnv} {B N : Nat} {σ : Sg} {M : Nat} {U : Vs} {kp ho tx sc : Fn} {c : Nat} (h1 : 33 ≤ c) (h2 : c ≤ 126) (h3 : sc 1 = nI 80) : xM l yX5_type cX5_type 2 (some .int) 1 22 0 0 E B [.ref M, .int (nI c)] N (mput E σ M U kp ho tx sc) N (mput E σ M U kp ho tx sc) (some (.int (-4))) := by
  refine xM_of [some (.ref _), some (.int _)] (by decide +kernel) (Nat.le_of_ble_eq_true rfl) rfl (fun k0 C Z => ?_)
  refine x_iload_n C dX5_type_0 rfl ?_
  refine x_bipush (v := 33) C dX5_type_1 (by decide) ?_
  refine x_bipush (v := 126) C dX5_type_3 (by decide) ?_
  refine x_callS C (c_X5_within _ _ _) ks_X5_within kl_X5_30 dX5_type_5 rfl rfl rfl rfl (Nat.le_of_ble_eq_true rfl) (Nat.le_of_ble_eq_true rfl) (Nat.le_of_ble_eq_true rfl) (Nat.le_of_ble_eq_true rfl) (Nat.le_of_ble_eq_true rfl) ?_
  refine x_bne C 14 dX5_type_8 (by decide) (fun _ => ?_) (fun h => absurd ⟨nI_le (a := 33) h1 (by omega), nI_le (b := 126) h2 (by omega)⟩ h)
  refine x_aload_n C dX5_type_14 rfl ?_
  refine x_get C kf_X5_146 mput_0 rfl dX5_type_15 ?_
  refine x_bipush (v := 80) C dX5_type_18 (by decide) ?_
  refine x_ic_ne C 26 dX5_type_20 (by decide) (fun h => absurd h3 h) (fun _ => ?_)
  refine x_bipush (v := (-4)) C dX5_type_23 (by decide) ?_
  exact x_zret C Z dX5_type_25 rfl (Nat.le_of_ble_eq_true rfl) (Nat.le_of_ble_eq_true rfl) rfl rfl rfl
set_option maxRecDepth 100000 in
set_option maxHeartbeats 1000000 in
theorem c_X5_type_bad {l : Launch} {E : xEnv} {B N : Nat} {σ : Sg} {M : Nat} {U : Vs} {kp ho tx sc : Fn} {x : Int32} (hb : ¬ (33 ≤ x ∧ x ≤ 126)) : xM l yX5_type cX5_type 2 (some .int) 1 22 0 0 E B [.ref M, .int x] N (mput E σ M U kp ho tx sc) N (mput E σ M U kp ho tx sc) (some (.int (-2))) := by
  refine xM_of [some (.ref _), some (.int _)] (by decide +kernel) (Nat.le_of_ble_eq_true rfl) rfl (fun k0 C Z => ?_)
  refine x_iload_n C dX5_type_0 rfl ?_
  refine x_bipush (v := 33) C dX5_type_1 (by decide) ?_
  refine x_bipush (v := 126) C dX5_type_3 (by decide) ?_
  refine x_callS C (c_X5_within _ _ _) ks_X5_within kl_X5_30 dX5_type_5 rfl rfl rfl rfl (Nat.le_of_ble_eq_true rfl) (Nat.le_of_ble_eq_true rfl) (Nat.le_of_ble_eq_true rfl) (Nat.le_of_ble_eq_true rfl) (Nat.le_of_ble_eq_true rfl) ?_
  refine x_bne C 14 dX5_type_8 (by decide) (fun h => absurd h hb) (fun _ => ?_)
  refine x_bipush (v := (-2)) C dX5_type_11 (by decide) ?_
  exact x_zret C Z dX5_type_13 rfl (Nat.le_of_ble_eq_true rfl) (Nat.le_of_ble_eq_true rfl) rfl rfl rfl
set_option maxRecDepth 100000 in
set_option maxHeartbeats 1000000 in
theorem c_X5_clearText {l : Launch} {E : xEnv} {B N : Nat} {σ : Sg} {M : Nat} {U : Vs} {kp ho tx sc : Fn} {n : Nat} (h3 : sc 1 = nI n) : xM l yX5_clearText cX5_clearText 2 (some .int) 0 0 0 0 E B [.ref M] N (mput E σ M U kp ho tx sc) N (mput E σ M U kp ho tx (upd sc 1 0)) (some (.int (nI n))) := by
  refine xM_of [some (.ref _), none] (by decide +kernel) (Nat.le_of_ble_eq_true rfl) rfl (fun k0 C Z => ?_)
  refine x_aload_n C dX5_clearText_0 rfl ?_
  refine x_get C kf_X5_146 mput_0 rfl dX5_clearText_1 ?_
  rw [h3]
  refine x_istore_n C dX5_clearText_4 (by decide) rfl ?_
  refine x_aload_n C dX5_clearText_5 rfl ?_
  refine x_iconst (v := 0) C dX5_clearText_6 (by decide) ?_
  refine x_put (ty := .int) C kf_X5_146 mput_0 rfl (by decide +kernel) rfl rfl (Nat.le_of_ble_eq_true rfl) (mput_s1 _) dX5_clearText_7 ?_
  refine x_iload_n C dX5_clearText_10 rfl ?_
  exact x_zret C Z dX5_clearText_11 rfl (Nat.le_of_ble_eq_true rfl) (Nat.le_of_ble_eq_true rfl) rfl rfl rfl
