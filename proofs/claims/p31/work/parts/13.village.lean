set_option maxRecDepth 100000 in
set_option maxHeartbeats 1000000 in
theorem c_X3_find_some {l : Launch} {E : xEnv} {B N : Nat} {σ : Sg} {b : Nat} {V : Vs} {k : Nat} (hk : k < 8) (hp : V 10 k = 1) : xM l yX3_find cX3_find 2 (some (.object "GesturePidgin$Speaker")) 1 21 0 0 E B [.ref b, .int (nI k)] N (vput E σ b V) N (vput E σ b V) (some (.ref (b + 2 + 2 * k))) := by
  refine xM_of [some (.ref _), some (.int _)] (by decide +kernel) (Nat.le_of_ble_eq_true rfl) rfl (fun k0 C Z => ?_)
  refine x_iload_n C dX3_find_0 rfl ?_
  refine x_bipush (v := 8) C dX3_find_1 (by decide) ?_
  refine x_callS C (c_X4_isBelow _ _) ks_X4_isBelow kl_X3_51 dX3_find_3 rfl rfl rfl rfl (Nat.le_of_ble_eq_true rfl) (Nat.le_of_ble_eq_true rfl) (Nat.le_of_ble_eq_true rfl) (Nat.le_of_ble_eq_true rfl) (Nat.le_of_ble_eq_true rfl) ?_
  refine x_beq C 30 dX3_find_6 (by decide) (fun h => absurd (bd_in (c := 8) hk (by decide)) h) (fun _ => ?_)
  refine x_aload_n C dX3_find_9 rfl ?_
  refine x_get C kf_X3_11 vput_0 rfl dX3_find_10 ?_
  refine x_iload_n C dX3_find_13 rfl ?_
  refine x_aald2 (t0 := 2) C vput_1 rfl rfl hk (by decide) dX3_find_14 ?_
  refine x_get C kf_X3_55 (vput_s hk) rfl dX3_find_15 ?_
  refine x_feq C 30 dX3_find_18 (by decide) (fun h => absurd hp h) (fun _ => ?_)
  refine x_aload_n C dX3_find_21 rfl ?_
  refine x_get C kf_X3_11 vput_0 rfl dX3_find_22 ?_
  refine x_iload_n C dX3_find_25 rfl ?_
  refine x_aald2 (t0 := 2) C vput_1 rfl rfl hk (by decide) dX3_find_26 ?_
  refine x_goto C 31 dX3_find_27 (by decide) ?_
  exact x_aret C Z dX3_find_31 (Or.inr ⟨_, rfl⟩) (Nat.le_of_ble_eq_true rfl) (Nat.le_of_ble_eq_true rfl) rfl rfl rfl
set_option maxRecDepth 100000 in
set_option maxHeartbeats 1000000 in
theorem c_X3_find_none {l : Launch} {E : xEnv} {B N : Nat} {σ : Sg} {b : Nat} {V : Vs} {x : Int32} (hno : ¬ ∃ k, k < 8 ∧ x = nI k ∧ V 10 k = 1) : xM l yX3_find cX3_find 2 (some (.object "GesturePidgin$Speaker")) 1 21 0 0 E B [.ref b, .int x] N (vput E σ b V) N (vput E σ b V) (some .null) := by
  refine xM_of [some (.ref _), some (.int _)] (by decide +kernel) (Nat.le_of_ble_eq_true rfl) rfl (fun k0 C Z => ?_)
  refine x_iload_n C dX3_find_0 rfl ?_
  refine x_bipush (v := 8) C dX3_find_1 (by decide) ?_
  refine x_callS C (c_X4_isBelow _ _) ks_X4_isBelow kl_X3_51 dX3_find_3 rfl rfl rfl rfl (Nat.le_of_ble_eq_true rfl) (Nat.le_of_ble_eq_true rfl) (Nat.le_of_ble_eq_true rfl) (Nat.le_of_ble_eq_true rfl) (Nat.le_of_ble_eq_true rfl) ?_
  refine x_beq C 30 dX3_find_6 (by decide) (fun h6 => ?_) (fun h6 => ?_)
  · refine x_null C dX3_find_30 ?_
    exact x_aret C Z dX3_find_31 (Or.inl rfl) (Nat.le_of_ble_eq_true rfl) (Nat.le_of_ble_eq_true rfl) rfl rfl rfl
  · obtain ⟨k, hk, rfl⟩ := bd_of (c := 8) (by decide) h6
    refine x_aload_n C dX3_find_9 rfl ?_
    refine x_get C kf_X3_11 vput_0 rfl dX3_find_10 ?_
    refine x_iload_n C dX3_find_13 rfl ?_
    refine x_aald2 (t0 := 2) C vput_1 rfl rfl hk (by decide) dX3_find_14 ?_
    refine x_get C kf_X3_55 (vput_s hk) rfl dX3_find_15 ?_
    refine x_feq C 30 dX3_find_18 (by decide) (fun h18 => ?_) (fun h18 => ?_)
    · refine x_null C dX3_find_30 ?_
      exact x_aret C Z dX3_find_31 (Or.inl rfl) (Nat.le_of_ble_eq_true rfl) (Nat.le_of_ble_eq_true rfl) rfl rfl rfl
    · exact absurd ⟨k, hk, rfl, h18⟩ hno
set_option maxRecDepth 100000 in
set_option maxHeartbeats 1000000 in
theorem c_X3_lowestFree_some {l : Launch} {E : xEnv} {B N : Nat} {σ : Sg} {b : Nat} {V : Vs} {q : Nat} (hq : q < 8) (hall : ∀ j, j < q → V 10 j = 1) (hno : ¬ V 10 q = 1) : xM l yX3_lowestFree cX3_lowestFree 2 (some .int) 0 0 0 0 E B [.ref b] N (vput E σ b V) N (vput E σ b V) (some (.int (nI q))) := by
  refine xM_of [some (.ref _), none] (by decide +kernel) (Nat.le_of_ble_eq_true rfl) rfl (fun k0 C Z => ?_)
  have hl : ∀ i, i ≤ q → xX k0 N 0 0 (vput E σ b V) 2 [some (.ref b), some (.int (nI i))] [] := by
    refine x_for q ?_ ?_
    · refine x_iload_n C dX3_lowestFree_2 rfl ?_
      refine x_bipush (v := 8) C dX3_lowestFree_3 (by decide) ?_
      refine x_ic_ge C 28 dX3_lowestFree_5 (by decide) (fun h => absurd h (nI_ge (b := 8) hq (by omega))) (fun _ => ?_)
      refine x_aload_n C dX3_lowestFree_8 rfl ?_
      refine x_get C kf_X3_11 vput_0 rfl dX3_lowestFree_9 ?_
      refine x_iload_n C dX3_lowestFree_12 rfl ?_
      refine x_aald2 (t0 := 2) C vput_1 rfl rfl (by omega) (by decide) dX3_lowestFree_13 ?_
      refine x_get C kf_X3_55 (vput_s (by omega)) rfl dX3_lowestFree_14 ?_
      refine x_fne C 22 dX3_lowestFree_17 (by decide) (fun h => absurd h hno) (fun _ => ?_)
      refine x_iload_n C dX3_lowestFree_20 rfl ?_
      exact x_zret C Z dX3_lowestFree_21 rfl (Nat.le_of_ble_eq_true rfl) (Nat.le_of_ble_eq_true rfl) rfl rfl rfl
    · intro i hi ih
      refine x_iload_n C dX3_lowestFree_2 rfl ?_
      refine x_bipush (v := 8) C dX3_lowestFree_3 (by decide) ?_
      refine x_ic_ge C 28 dX3_lowestFree_5 (by decide) (fun h => absurd h (nI_ge (b := 8) (show i < 8 by omega) (by omega))) (fun _ => ?_)
      refine x_aload_n C dX3_lowestFree_8 rfl ?_
      refine x_get C kf_X3_11 vput_0 rfl dX3_lowestFree_9 ?_
      refine x_iload_n C dX3_lowestFree_12 rfl ?_
      refine x_aald2 (t0 := 2) C vput_1 rfl rfl (by omega) (by decide) dX3_lowestFree_13 ?_
      refine x_get C kf_X3_55 (vput_s (by omega)) rfl dX3_lowestFree_14 ?_
      refine x_fne C 22 dX3_lowestFree_17 (by decide) (fun _ => ?_) (fun h => absurd (hall i hi) h)
      refine x_iinc C dX3_lowestFree_22 rfl (nI_inc _) (by decide) rfl ?_
      refine x_goto C 2 dX3_lowestFree_25 (by decide) ?_
      refine xX.cl ih rfl (And.intro rfl (And.intro rfl trivial)) rfl
  refine x_iconst (v := 0) C dX3_lowestFree_0 (by decide) ?_
  refine x_istore_n C dX3_lowestFree_1 (by decide) rfl ?_
  refine xX.cl (hl 0 (by omega)) rfl (And.intro rfl (And.intro rfl trivial)) rfl
set_option maxRecDepth 100000 in
set_option maxHeartbeats 1000000 in
theorem c_X3_lowestFree_none {l : Launch} {E : xEnv} {B N : Nat} {σ : Sg} {b : Nat} {V : Vs} (hall : ∀ j, j < 8 → V 10 j = 1) : xM l yX3_lowestFree cX3_lowestFree 2 (some .int) 0 0 0 0 E B [.ref b] N (vput E σ b V) N (vput E σ b V) (some (.int (-6))) := by
  refine xM_of [some (.ref _), none] (by decide +kernel) (Nat.le_of_ble_eq_true rfl) rfl (fun k0 C Z => ?_)
  have hl : ∀ i, i ≤ 8 → xX k0 N 0 0 (vput E σ b V) 2 [some (.ref b), some (.int (nI i))] [] := by
    refine x_for 8 ?_ ?_
    · refine x_iload_n C dX3_lowestFree_2 rfl ?_
      refine x_bipush (v := 8) C dX3_lowestFree_3 (by decide) ?_
      refine x_ic_ge C 28 dX3_lowestFree_5 (by decide) (fun _ => ?_) (fun h => absurd (nI_le (a := 8) (Nat.le_refl _) (by omega)) h)
      refine x_bipush (v := (-6)) C dX3_lowestFree_28 (by decide) ?_
      exact x_zret C Z dX3_lowestFree_30 rfl (Nat.le_of_ble_eq_true rfl) (Nat.le_of_ble_eq_true rfl) rfl rfl rfl
    · intro i hi ih
      refine x_iload_n C dX3_lowestFree_2 rfl ?_
      refine x_bipush (v := 8) C dX3_lowestFree_3 (by decide) ?_
      refine x_ic_ge C 28 dX3_lowestFree_5 (by decide) (fun h => absurd h (nI_ge (b := 8) hi (by omega))) (fun _ => ?_)
      refine x_aload_n C dX3_lowestFree_8 rfl ?_
      refine x_get C kf_X3_11 vput_0 rfl dX3_lowestFree_9 ?_
      refine x_iload_n C dX3_lowestFree_12 rfl ?_
      refine x_aald2 (t0 := 2) C vput_1 rfl rfl (by omega) (by decide) dX3_lowestFree_13 ?_
      refine x_get C kf_X3_55 (vput_s (by omega)) rfl dX3_lowestFree_14 ?_
      refine x_fne C 22 dX3_lowestFree_17 (by decide) (fun _ => ?_) (fun h => absurd (hall i hi) h)
      refine x_iinc C dX3_lowestFree_22 rfl (nI_inc _) (by decide) rfl ?_
      refine x_goto C 2 dX3_lowestFree_25 (by decide) ?_
      refine xX.cl ih rfl (And.intro rfl (And.intro rfl trivial)) rfl
  refine x_iconst (v := 0) C dX3_lowestFree_0 (by decide) ?_
  refine x_istore_n C dX3_lowestFree_1 (by decide) rfl ?_
  refine xX.cl (hl 0 (by omega)) rfl (And.intro rfl (And.intro rfl trivial)) rfl
set_option maxRecDepth 100000 in
set_option maxHeartbeats 1000000 in
theorem c_X3_countSpeakers {l : Launch} {E : xEnv} {B N : Nat} {σ : Sg} {b : Nat} {V : Vs} : xM l yX3_countSpeakers cX3_countSpeakers 3 (some .int) 0 0 0 0 E B [.ref b] N (vput E σ b V) N (vput E σ b V) (some (.int (nI (cnN (V 10) 8)))) := by
  refine xM_of [some (.ref _), none, none] (by decide +kernel) (Nat.le_of_ble_eq_true rfl) rfl (fun k0 C Z => ?_)
  have hl : ∀ i, i ≤ 8 → xX k0 N 0 0 (vput E σ b V) 4 [some (.ref b), some (.int (nI (cnN (V 10) i))), some (.int (nI i))] [] := by
    refine x_for 8 ?_ ?_
    · refine x_iload_n C dX3_countSpeakers_4 rfl ?_
      refine x_bipush (v := 8) C dX3_countSpeakers_5 (by decide) ?_
      refine x_ic_ge C 31 dX3_countSpeakers_7 (by decide) (fun _ => ?_) (fun h => absurd (nI_le (a := 8) (Nat.le_refl _) (by omega)) h)
      refine x_iload_n C dX3_countSpeakers_31 rfl ?_
      exact x_zret C Z dX3_countSpeakers_32 rfl (Nat.le_of_ble_eq_true rfl) (Nat.le_of_ble_eq_true rfl) rfl rfl rfl
    · intro i hi ih
      refine x_iload_n C dX3_countSpeakers_4 rfl ?_
      refine x_bipush (v := 8) C dX3_countSpeakers_5 (by decide) ?_
      refine x_ic_ge C 31 dX3_countSpeakers_7 (by decide) (fun h => absurd h (nI_ge (b := 8) hi (by omega))) (fun _ => ?_)
      refine x_aload_n C dX3_countSpeakers_10 rfl ?_
      refine x_get C kf_X3_11 vput_0 rfl dX3_countSpeakers_11 ?_
      refine x_iload_n C dX3_countSpeakers_14 rfl ?_
      refine x_aald2 (t0 := 2) C vput_1 rfl rfl hi (by decide) dX3_countSpeakers_15 ?_
      refine x_get C kf_X3_55 (vput_s hi) rfl dX3_countSpeakers_16 ?_
      refine x_feq C 25 dX3_countSpeakers_19 (by decide) (fun h19 => ?_) (fun h19 => ?_)
      · refine x_iinc C dX3_countSpeakers_25 rfl (nI_inc _) (by decide) rfl ?_
        refine x_goto C 4 dX3_countSpeakers_28 (by decide) ?_
        refine xX.cl ih rfl (And.intro rfl (And.intro ?_ (And.intro rfl trivial))) rfl
        rw [cnN, if_neg h19]; rfl
      · refine x_iinc C dX3_countSpeakers_22 rfl (nI_inc _) (by decide) rfl ?_
        refine x_iinc C dX3_countSpeakers_25 rfl (nI_inc _) (by decide) rfl ?_
        refine x_goto C 4 dX3_countSpeakers_28 (by decide) ?_
        refine xX.cl ih rfl (And.intro rfl (And.intro ?_ (And.intro rfl trivial))) rfl
        rw [cnN, if_pos h19]; rfl
  refine x_iconst (v := 0) C dX3_countSpeakers_0 (by decide) ?_
  refine x_istore_n C dX3_countSpeakers_1 (by decide) rfl ?_
  refine x_iconst (v := 0) C dX3_countSpeakers_2 (by decide) ?_
  refine x_istore_n C dX3_countSpeakers_3 (by decide) rfl ?_
  refine xX.cl (hl 0 (by omega)) rfl (And.intro rfl (And.intro rfl (And.intro rfl trivial))) rfl
set_option maxRecDepth 100000 in
set_option maxHeartbeats 1000000 in
theorem c_X3_welcome {l : Launch} {E : xEnv} {B N : Nat} {σ : Sg} {b : Nat} {V : Vs} {k : Nat} (hk : k < 8) : xM l yX3_welcome cX3_welcome 2 none 4 89 0 0 E B [.ref b, .int (nI k)] N (vput E σ b V) N (vput E σ b (blS (up2 V 10 k 1) k none 0)) none := by
  refine xM_of [some (.ref _), some (.int _)] (by decide +kernel) (Nat.le_of_ble_eq_true rfl) rfl (fun k0 C Z => ?_)
  refine x_iload_n C dX3_welcome_0 rfl ?_
  refine x_bipush (v := 8) C dX3_welcome_1 (by decide) ?_
  refine x_callS C (c_X4_isBelow _ _) ks_X4_isBelow kl_X3_51 dX3_welcome_3 rfl rfl rfl rfl (Nat.le_of_ble_eq_true rfl) (Nat.le_of_ble_eq_true rfl) (Nat.le_of_ble_eq_true rfl) (Nat.le_of_ble_eq_true rfl) (Nat.le_of_ble_eq_true rfl) ?_
  refine x_beq C 18 dX3_welcome_6 (by decide) (fun h => absurd (bd_in (c := 8) hk (by decide)) h) (fun _ => ?_)
  refine x_aload_n C dX3_welcome_9 rfl ?_
  refine x_get C kf_X3_11 vput_0 rfl dX3_welcome_10 ?_
  refine x_iload_n C dX3_welcome_13 rfl ?_
  refine x_aald2 (t0 := 2) C vput_1 rfl rfl hk (by decide) dX3_welcome_14 ?_
  refine x_callV C (c_X2_arrive hk) kv_X2_arrive kl_X3_59 dX3_welcome_15 (vput_s hk) rfl rfl rfl rfl (Nat.le_of_ble_eq_true rfl) (Nat.le_of_ble_eq_true rfl) (Nat.le_of_ble_eq_true rfl) (Nat.le_of_ble_eq_true rfl) (Nat.le_of_ble_eq_true rfl) ?_
  exact x_vret C Z dX3_welcome_18 (Nat.le_of_ble_eq_true rfl) (Nat.le_of_ble_eq_true rfl) rfl rfl
set_option maxRecDepth 100000 in
set_option maxHeartbeats 1000000 in
theorem c_X3_settingAt {l : Launch} {E : xEnv} {B N : Nat} {σ : Sg} {b : Nat} {V : Vs} {k : Nat} (hk : k < 4) : xM l yX3_settingAt cX3_settingAt 2 (some .int) 1 21 0 0 E B [.ref b, .int (nI k)] N (vput E σ b V) N (vput E σ b V) (some (.int (V 8 k))) := by
  refine xM_of [some (.ref _), some (.int _)] (by decide +kernel) (Nat.le_of_ble_eq_true rfl) rfl (fun k0 C Z => ?_)
  refine x_iload_n C dX3_settingAt_0 rfl ?_
  refine x_iconst (v := 4) C dX3_settingAt_1 (by decide) ?_
  refine x_callS C (c_X4_isBelow _ _) ks_X4_isBelow kl_X3_51 dX3_settingAt_2 rfl rfl rfl rfl (Nat.le_of_ble_eq_true rfl) (Nat.le_of_ble_eq_true rfl) (Nat.le_of_ble_eq_true rfl) (Nat.le_of_ble_eq_true rfl) (Nat.le_of_ble_eq_true rfl) ?_
  refine x_beq C 17 dX3_settingAt_5 (by decide) (fun h => absurd (bd_in (c := 4) hk (by decide)) h) (fun _ => ?_)
  refine x_aload_n C dX3_settingAt_8 rfl ?_
  refine x_get C kf_X3_18 vput_0 rfl dX3_settingAt_9 ?_
  refine x_iload_n C dX3_settingAt_12 rfl ?_
  refine x_iald2 C vput_18 rfl hk (by decide) dX3_settingAt_13 ?_
  refine x_goto C 18 dX3_settingAt_14 (by decide) ?_
  exact x_zret C Z dX3_settingAt_18 rfl (Nat.le_of_ble_eq_true rfl) (Nat.le_of_ble_eq_true rfl) rfl rfl rfl
set_option maxRecDepth 100000 in
set_option maxHeartbeats 1000000 in
theorem c_X3_putSetting {l : Launch} {E : xEnv} {B N : Nat} {σ : Sg} {b : Nat} {V : Vs} {k : Nat} (hk : k < 4) (x : Int32) : xM l yX3_putSetting cX3_putSetting 3 none 1 21 0 0 E B [.ref b, .int (nI k), .int x] N (vput E σ b V) N (vput E σ b (up2 V 8 k x)) none := by
  refine xM_of [some (.ref _), some (.int _), some (.int _)] (by decide +kernel) (Nat.le_of_ble_eq_true rfl) rfl (fun k0 C Z => ?_)
  refine x_iload_n C dX3_putSetting_0 rfl ?_
  refine x_iconst (v := 4) C dX3_putSetting_1 (by decide) ?_
  refine x_callS C (c_X4_isBelow _ _) ks_X4_isBelow kl_X3_51 dX3_putSetting_2 rfl rfl rfl rfl (Nat.le_of_ble_eq_true rfl) (Nat.le_of_ble_eq_true rfl) (Nat.le_of_ble_eq_true rfl) (Nat.le_of_ble_eq_true rfl) (Nat.le_of_ble_eq_true rfl) ?_
  refine x_beq C 15 dX3_putSetting_5 (by decide) (fun h => absurd (bd_in (c := 4) hk (by decide)) h) (fun _ => ?_)
  refine x_aload_n C dX3_putSetting_8 rfl ?_
  refine x_get C kf_X3_18 vput_0 rfl dX3_putSetting_9 ?_
  refine x_iload_n C dX3_putSetting_12 rfl ?_
  refine x_iload_n C dX3_putSetting_13 rfl ?_
  refine x_iast2 C vput_18 rfl hk (by decide) (fun _ _ => rfl) (vput_st _ _) dX3_putSetting_14 ?_
  exact x_vret C Z dX3_putSetting_15 (Nat.le_of_ble_eq_true rfl) (Nat.le_of_ble_eq_true rfl) rfl rfl
set_option maxRecDepth 100000 in
set_option maxHeartbeats 1000000 in
theorem c_X3_draw {l : Launch} {E : xEnv} {B N : Nat} {σ : Sg} {b : Nat} {V : Vs} {n : Nat} (hs : sok V) (h0 : 0 < n) (hn : n < 2 ^ 31) : xM l yX3_draw cX3_draw 2 (some .int) 0 0 0 0 E B [.ref b, .int (nI n)] N (vput E σ b V) N (vput E σ b (drV V)) (some (.int (nI (dvN V n)))) := by
  refine xM_of [some (.ref _), some (.int _)] (by decide +kernel) (Nat.le_of_ble_eq_true rfl) rfl (fun k0 C Z => ?_)
  refine x_aload_n C dX3_draw_0 rfl ?_
  refine x_sipush (v := 25173) C dX3_draw_1 (by decide) ?_
  refine x_aload_n C dX3_draw_4 rfl ?_
  refine x_get C kf_X3_25 vput_0 rfl dX3_draw_5 ?_
  refine x_imul C dX3_draw_8 ?_
  refine x_sipush (v := 13849) C dX3_draw_9 (by decide) ?_
  refine x_iadd C dX3_draw_12 ?_
  refine x_ldc C kk_X3_62 dX3_draw_13 ?_
  refine x_irem C dX3_draw_15 (by decide) ?_
  refine x_put (ty := .int) C kf_X3_25 vput_0 rfl (by decide +kernel) rfl rfl (Nat.le_of_ble_eq_true rfl) (vput_v0 _) dX3_draw_16 ?_
  refine xX.sg (congrArg (fun z => vput E σ b (up2 V 9 0 z)) (dr_e hs)) ?_
  refine x_iload_n C dX3_draw_19 rfl ?_
  refine x_iconst (v := 1) C dX3_draw_20 (by decide) ?_
  refine x_ic_ge C 28 dX3_draw_21 (by decide) (fun _ => ?_) (fun h => absurd (nI_le (a := 1) h0 hn) h)
  refine x_aload_n C dX3_draw_28 rfl ?_
  refine x_get C kf_X3_25 vput_0 rfl dX3_draw_29 ?_
  refine x_bipush (v := 16) C dX3_draw_32 (by decide) ?_
  refine x_idiv C dX3_draw_34 (by decide) ?_
  refine x_iload_n C dX3_draw_35 rfl ?_
  refine x_irem C dX3_draw_36 (nI_ne0 h0 hn) ?_
  exact x_zret C Z dX3_draw_37 rfl (Nat.le_of_ble_eq_true rfl) (Nat.le_of_ble_eq_true rfl) rfl rfl (by rw [up2_s]; exact dv_e sdN_lt h0 hn)
set_option maxRecDepth 100000 in
set_option maxHeartbeats 1000000 in
theorem c_X3_teacherFor_none {l : Launch} {E : xEnv} {B N : Nat} {σ : Sg} {b : Nat} {V : Vs} {c : Nat} (hc : c < 8) (ht : teS V c 8 = none) : xM l yX3_teacherFor cX3_teacherFor 5 (some (.object "GesturePidgin$Speaker")) 0 0 0 0 E B [.ref b, .int (nI c)] N (vput E σ b V) N (vput E σ b V) (some .null) := by
  refine xM_of [some (.ref _), some (.int _), none, none, none] (by decide +kernel) (Nat.le_of_ble_eq_true rfl) rfl (fun k0 C Z => ?_)
  have hl : ∀ i, i ≤ 8 → xX k0 N 0 0 (vput E σ b V) 4 [some (.ref b), some (.int (nI c)), some (va_rf ((teS V c i).map (fun y => b + 2 + 2 * y))), some (.int (nI i)), none] [] := by
    refine x_for 8 ?_ ?_
    · rw [ht]
      show xX k0 N 0 0 (vput E σ b V) 4 [some (.ref b), some (.int (nI c)), some .null, some (.int (nI 8)), none] []
      refine x_iload_n C dX3_teacherFor_4 rfl ?_
      refine x_bipush (v := 8) C dX3_teacherFor_5 (by decide) ?_
      refine x_ic_ge C 73 dX3_teacherFor_7 (by decide) (fun _ => ?_) (fun h => absurd (nI_le (a := 8) (Nat.le_refl _) (by omega)) h)
      refine x_aload_nN C dX3_teacherFor_73 rfl ?_
      exact x_aret C Z dX3_teacherFor_74 (Or.inl rfl) (Nat.le_of_ble_eq_true rfl) (Nat.le_of_ble_eq_true rfl) rfl rfl rfl
    · intro i hi ih
      cases hy : teS V c i with
      | none =>
        show xX k0 N 0 0 (vput E σ b V) 4 [some (.ref b), some (.int (nI c)), some .null, some (.int (nI i)), none] []
        refine x_iload_n C dX3_teacherFor_4 rfl ?_
        refine x_bipush (v := 8) C dX3_teacherFor_5 (by decide) ?_
        refine x_ic_ge C 73 dX3_teacherFor_7 (by decide) (fun h => absurd h (nI_ge (b := 8) hi (by omega))) (fun _ => ?_)
        refine x_aload_n C dX3_teacherFor_10 rfl ?_
        refine x_get C kf_X3_11 vput_0 rfl dX3_teacherFor_11 ?_
        refine x_iload_n C dX3_teacherFor_14 rfl ?_
        refine x_aald2 (t0 := 2) C vput_1 rfl rfl hi (by decide) dX3_teacherFor_15 ?_
        refine x_astore C dX3_teacherFor_16 (by decide) rfl ?_
        refine x_iload_n C dX3_teacherFor_18 rfl ?_
        refine x_iload_n C dX3_teacherFor_19 rfl ?_
        refine x_ic_eq C 67 dX3_teacherFor_20 (by decide) (fun h20 => ?_) (fun h20 => ?_)
        · refine x_iinc C dX3_teacherFor_67 rfl (nI_inc _) (by decide) rfl ?_
          refine x_goto C 4 dX3_teacherFor_70 (by decide) ?_
          refine xX.cl ih rfl (And.intro rfl (And.intro rfl (And.intro ?_ (And.intro rfl trivial)))) rfl
          rw [teS_sk (Or.inl ((nI_eq (by omega) (by omega)).mp h20)), hy]; rfl
        · refine x_aload C dX3_teacherFor_23 rfl ?_
          refine x_get C kf_X3_55 (vput_s hi) rfl dX3_teacherFor_25 ?_
          refine x_feq C 67 dX3_teacherFor_28 (by decide) (fun h28 => ?_) (fun h28 => ?_)
          · refine x_iinc C dX3_teacherFor_67 rfl (nI_inc _) (by decide) rfl ?_
            refine x_goto C 4 dX3_teacherFor_70 (by decide) ?_
            refine xX.cl ih rfl (And.intro rfl (And.intro rfl (And.intro ?_ (And.intro rfl trivial)))) rfl
            rw [teS_sk (Or.inr (Or.inl h28)), hy]; rfl
          · refine x_aload C dX3_teacherFor_31 rfl ?_
            refine x_get C kf_X3_104 (vput_s hi) rfl dX3_teacherFor_33 ?_
            refine x_aload_n C dX3_teacherFor_36 rfl ?_
            refine x_get C kf_X3_18 vput_0 rfl dX3_teacherFor_37 ?_
            refine x_iconst (v := 2) C dX3_teacherFor_40 (by decide) ?_
            refine x_iald2 C vput_18 rfl (by decide) (by decide) dX3_teacherFor_41 ?_
            refine x_ic_le C 48 dX3_teacherFor_42 (by decide) (fun h42 => ?_) (fun h42 => ?_)
            · refine x_aload_nN C dX3_teacherFor_48 rfl ?_
              refine x_ifnullN C 64 dX3_teacherFor_49 (by decide) ?_
              refine x_aload C dX3_teacherFor_64 rfl ?_
              refine x_astore_n C dX3_teacherFor_66 (by decide) rfl ?_
              refine x_iinc C dX3_teacherFor_67 rfl (nI_inc _) (by decide) rfl ?_
              refine x_goto C 4 dX3_teacherFor_70 (by decide) ?_
              refine xX.cl ih rfl (And.intro rfl (And.intro rfl (And.intro ?_ (And.intro rfl trivial)))) rfl
              rw [teS_n (fun z => h20 (by rw [z])) h28 h42 hy]; rfl
            · refine x_goto C 67 dX3_teacherFor_45 (by decide) ?_
              refine x_iinc C dX3_teacherFor_67 rfl (nI_inc _) (by decide) rfl ?_
              refine x_goto C 4 dX3_teacherFor_70 (by decide) ?_
              refine xX.cl ih rfl (And.intro rfl (And.intro rfl (And.intro ?_ (And.intro rfl trivial)))) rfl
              rw [teS_sk (Or.inr (Or.inr h42)), hy]; rfl
      | some y =>
        show xX k0 N 0 0 (vput E σ b V) 4 [some (.ref b), some (.int (nI c)), some (.ref (b + 2 + 2 * y)), some (.int (nI i)), none] []
        have hy8 : y < 8 := by have := (teS_in hy).1; omega
        refine x_iload_n C dX3_teacherFor_4 rfl ?_
        refine x_bipush (v := 8) C dX3_teacherFor_5 (by decide) ?_
        refine x_ic_ge C 73 dX3_teacherFor_7 (by decide) (fun h => absurd h (nI_ge (b := 8) hi (by omega))) (fun _ => ?_)
        refine x_aload_n C dX3_teacherFor_10 rfl ?_
        refine x_get C kf_X3_11 vput_0 rfl dX3_teacherFor_11 ?_
        refine x_iload_n C dX3_teacherFor_14 rfl ?_
        refine x_aald2 (t0 := 2) C vput_1 rfl rfl hi (by decide) dX3_teacherFor_15 ?_
        refine x_astore C dX3_teacherFor_16 (by decide) rfl ?_
        refine x_iload_n C dX3_teacherFor_18 rfl ?_
        refine x_iload_n C dX3_teacherFor_19 rfl ?_
        refine x_ic_eq C 67 dX3_teacherFor_20 (by decide) (fun h20 => ?_) (fun h20 => ?_)
        · refine x_iinc C dX3_teacherFor_67 rfl (nI_inc _) (by decide) rfl ?_
          refine x_goto C 4 dX3_teacherFor_70 (by decide) ?_
          refine xX.cl ih rfl (And.intro rfl (And.intro rfl (And.intro ?_ (And.intro rfl trivial)))) rfl
          rw [teS_sk (Or.inl ((nI_eq (by omega) (by omega)).mp h20)), hy]; rfl
        · refine x_aload C dX3_teacherFor_23 rfl ?_
          refine x_get C kf_X3_55 (vput_s hi) rfl dX3_teacherFor_25 ?_
          refine x_feq C 67 dX3_teacherFor_28 (by decide) (fun h28 => ?_) (fun h28 => ?_)
          · refine x_iinc C dX3_teacherFor_67 rfl (nI_inc _) (by decide) rfl ?_
            refine x_goto C 4 dX3_teacherFor_70 (by decide) ?_
            refine xX.cl ih rfl (And.intro rfl (And.intro rfl (And.intro ?_ (And.intro rfl trivial)))) rfl
            rw [teS_sk (Or.inr (Or.inl h28)), hy]; rfl
          · refine x_aload C dX3_teacherFor_31 rfl ?_
            refine x_get C kf_X3_104 (vput_s hi) rfl dX3_teacherFor_33 ?_
            refine x_aload_n C dX3_teacherFor_36 rfl ?_
            refine x_get C kf_X3_18 vput_0 rfl dX3_teacherFor_37 ?_
            refine x_iconst (v := 2) C dX3_teacherFor_40 (by decide) ?_
            refine x_iald2 C vput_18 rfl (by decide) (by decide) dX3_teacherFor_41 ?_
            refine x_ic_le C 48 dX3_teacherFor_42 (by decide) (fun h42 => ?_) (fun h42 => ?_)
            · refine x_aload_n C dX3_teacherFor_48 rfl ?_
              refine x_ifnull C dX3_teacherFor_49 ?_
              refine x_aload C dX3_teacherFor_52 rfl ?_
              refine x_get C kf_X3_104 (vput_s hi) rfl dX3_teacherFor_54 ?_
              refine x_aload_n C dX3_teacherFor_57 rfl ?_
              refine x_get C kf_X3_104 (vput_s hy8) rfl dX3_teacherFor_58 ?_
              refine x_ic_ge C 67 dX3_teacherFor_61 (by decide) (fun h61 => ?_) (fun h61 => ?_)
              · refine x_iinc C dX3_teacherFor_67 rfl (nI_inc _) (by decide) rfl ?_
                refine x_goto C 4 dX3_teacherFor_70 (by decide) ?_
                refine xX.cl ih rfl (And.intro rfl (And.intro rfl (And.intro ?_ (And.intro rfl trivial)))) rfl
                rw [teS_k (fun z => h20 (by rw [z])) h28 h42 hy h61]; rfl
              · refine x_aload C dX3_teacherFor_64 rfl ?_
                refine x_astore_n C dX3_teacherFor_66 (by decide) rfl ?_
                refine x_iinc C dX3_teacherFor_67 rfl (nI_inc _) (by decide) rfl ?_
                refine x_goto C 4 dX3_teacherFor_70 (by decide) ?_
                refine xX.cl ih rfl (And.intro rfl (And.intro rfl (And.intro ?_ (And.intro rfl trivial)))) rfl
                rw [teS_u (fun z => h20 (by rw [z])) h28 h42 hy h61]; rfl
            · refine x_goto C 67 dX3_teacherFor_45 (by decide) ?_
              refine x_iinc C dX3_teacherFor_67 rfl (nI_inc _) (by decide) rfl ?_
              refine x_goto C 4 dX3_teacherFor_70 (by decide) ?_
              refine xX.cl ih rfl (And.intro rfl (And.intro rfl (And.intro ?_ (And.intro rfl trivial)))) rfl
              rw [teS_sk (Or.inr (Or.inr h42)), hy]; rfl
  refine x_null C dX3_teacherFor_0 ?_
  refine x_astore_nN C dX3_teacherFor_1 (by decide) rfl ?_
  refine x_iconst (v := 0) C dX3_teacherFor_2 (by decide) ?_
  refine x_istore_n C dX3_teacherFor_3 (by decide) rfl ?_
  refine xX.cl (hl 0 (by omega)) rfl (And.intro rfl (And.intro rfl (And.intro rfl (And.intro rfl trivial)))) rfl
set_option maxRecDepth 100000 in
set_option maxHeartbeats 1000000 in
theorem c_X3_teacherFor_some {l : Launch} {E : xEnv} {B N : Nat} {σ : Sg} {b : Nat} {V : Vs} {c : Nat} (hc : c < 8) {y0 : Nat} (ht : teS V c 8 = some y0) : xM l yX3_teacherFor cX3_teacherFor 5 (some (.object "GesturePidgin$Speaker")) 0 0 0 0 E B [.ref b, .int (nI c)] N (vput E σ b V) N (vput E σ b V) (some (.ref (b + 2 + 2 * y0))) := by
  refine xM_of [some (.ref _), some (.int _), none, none, none] (by decide +kernel) (Nat.le_of_ble_eq_true rfl) rfl (fun k0 C Z => ?_)
  have hl : ∀ i, i ≤ 8 → xX k0 N 0 0 (vput E σ b V) 4 [some (.ref b), some (.int (nI c)), some (va_rf ((teS V c i).map (fun y => b + 2 + 2 * y))), some (.int (nI i)), none] [] := by
    refine x_for 8 ?_ ?_
    · rw [ht]
      show xX k0 N 0 0 (vput E σ b V) 4 [some (.ref b), some (.int (nI c)), some (.ref (b + 2 + 2 * y0)), some (.int (nI 8)), none] []
      refine x_iload_n C dX3_teacherFor_4 rfl ?_
      refine x_bipush (v := 8) C dX3_teacherFor_5 (by decide) ?_
      refine x_ic_ge C 73 dX3_teacherFor_7 (by decide) (fun _ => ?_) (fun h => absurd (nI_le (a := 8) (Nat.le_refl _) (by omega)) h)
      refine x_aload_n C dX3_teacherFor_73 rfl ?_
      exact x_aret C Z dX3_teacherFor_74 (Or.inr ⟨_, rfl⟩) (Nat.le_of_ble_eq_true rfl) (Nat.le_of_ble_eq_true rfl) rfl rfl rfl
    · intro i hi ih
      cases hy : teS V c i with
      | none =>
        show xX k0 N 0 0 (vput E σ b V) 4 [some (.ref b), some (.int (nI c)), some .null, some (.int (nI i)), none] []
        refine x_iload_n C dX3_teacherFor_4 rfl ?_
        refine x_bipush (v := 8) C dX3_teacherFor_5 (by decide) ?_
        refine x_ic_ge C 73 dX3_teacherFor_7 (by decide) (fun h => absurd h (nI_ge (b := 8) hi (by omega))) (fun _ => ?_)
        refine x_aload_n C dX3_teacherFor_10 rfl ?_
        refine x_get C kf_X3_11 vput_0 rfl dX3_teacherFor_11 ?_
        refine x_iload_n C dX3_teacherFor_14 rfl ?_
        refine x_aald2 (t0 := 2) C vput_1 rfl rfl hi (by decide) dX3_teacherFor_15 ?_
        refine x_astore C dX3_teacherFor_16 (by decide) rfl ?_
        refine x_iload_n C dX3_teacherFor_18 rfl ?_
        refine x_iload_n C dX3_teacherFor_19 rfl ?_
        refine x_ic_eq C 67 dX3_teacherFor_20 (by decide) (fun h20 => ?_) (fun h20 => ?_)
        · refine x_iinc C dX3_teacherFor_67 rfl (nI_inc _) (by decide) rfl ?_
          refine x_goto C 4 dX3_teacherFor_70 (by decide) ?_
          refine xX.cl ih rfl (And.intro rfl (And.intro rfl (And.intro ?_ (And.intro rfl trivial)))) rfl
          rw [teS_sk (Or.inl ((nI_eq (by omega) (by omega)).mp h20)), hy]; rfl
        · refine x_aload C dX3_teacherFor_23 rfl ?_
          refine x_get C kf_X3_55 (vput_s hi) rfl dX3_teacherFor_25 ?_
          refine x_feq C 67 dX3_teacherFor_28 (by decide) (fun h28 => ?_) (fun h28 => ?_)
          · refine x_iinc C dX3_teacherFor_67 rfl (nI_inc _) (by decide) rfl ?_
            refine x_goto C 4 dX3_teacherFor_70 (by decide) ?_
            refine xX.cl ih rfl (And.intro rfl (And.intro rfl (And.intro ?_ (And.intro rfl trivial)))) rfl
            rw [teS_sk (Or.inr (Or.inl h28)), hy]; rfl
          · refine x_aload C dX3_teacherFor_31 rfl ?_
            refine x_get C kf_X3_104 (vput_s hi) rfl dX3_teacherFor_33 ?_
            refine x_aload_n C dX3_teacherFor_36 rfl ?_
            refine x_get C kf_X3_18 vput_0 rfl dX3_teacherFor_37 ?_
            refine x_iconst (v := 2) C dX3_teacherFor_40 (by decide) ?_
            refine x_iald2 C vput_18 rfl (by decide) (by decide) dX3_teacherFor_41 ?_
            refine x_ic_le C 48 dX3_teacherFor_42 (by decide) (fun h42 => ?_) (fun h42 => ?_)
            · refine x_aload_nN C dX3_teacherFor_48 rfl ?_
              refine x_ifnullN C 64 dX3_teacherFor_49 (by decide) ?_
              refine x_aload C dX3_teacherFor_64 rfl ?_
              refine x_astore_n C dX3_teacherFor_66 (by decide) rfl ?_
              refine x_iinc C dX3_teacherFor_67 rfl (nI_inc _) (by decide) rfl ?_
              refine x_goto C 4 dX3_teacherFor_70 (by decide) ?_
              refine xX.cl ih rfl (And.intro rfl (And.intro rfl (And.intro ?_ (And.intro rfl trivial)))) rfl
              rw [teS_n (fun z => h20 (by rw [z])) h28 h42 hy]; rfl
            · refine x_goto C 67 dX3_teacherFor_45 (by decide) ?_
              refine x_iinc C dX3_teacherFor_67 rfl (nI_inc _) (by decide) rfl ?_
              refine x_goto C 4 dX3_teacherFor_70 (by decide) ?_
              refine xX.cl ih rfl (And.intro rfl (And.intro rfl (And.intro ?_ (And.intro rfl trivial)))) rfl
              rw [teS_sk (Or.inr (Or.inr h42)), hy]; rfl
      | some y =>
        show xX k0 N 0 0 (vput E σ b V) 4 [some (.ref b), some (.int (nI c)), some (.ref (b + 2 + 2 * y)), some (.int (nI i)), none] []
        have hy8 : y < 8 := by have := (teS_in hy).1; omega
        refine x_iload_n C dX3_teacherFor_4 rfl ?_
        refine x_bipush (v := 8) C dX3_teacherFor_5 (by decide) ?_
        refine x_ic_ge C 73 dX3_teacherFor_7 (by decide) (fun h => absurd h (nI_ge (b := 8) hi (by omega))) (fun _ => ?_)
        refine x_aload_n C dX3_teacherFor_10 rfl ?_
        refine x_get C kf_X3_11 vput_0 rfl dX3_teacherFor_11 ?_
        refine x_iload_n C dX3_teacherFor_14 rfl ?_
        refine x_aald2 (t0 := 2) C vput_1 rfl rfl hi (by decide) dX3_teacherFor_15 ?_
        refine x_astore C dX3_teacherFor_16 (by decide) rfl ?_
        refine x_iload_n C dX3_teacherFor_18 rfl ?_
        refine x_iload_n C dX3_teacherFor_19 rfl ?_
        refine x_ic_eq C 67 dX3_teacherFor_20 (by decide) (fun h20 => ?_) (fun h20 => ?_)
        · refine x_iinc C dX3_teacherFor_67 rfl (nI_inc _) (by decide) rfl ?_
          refine x_goto C 4 dX3_teacherFor_70 (by decide) ?_
          refine xX.cl ih rfl (And.intro rfl (And.intro rfl (And.intro ?_ (And.intro rfl trivial)))) rfl
          rw [teS_sk (Or.inl ((nI_eq (by omega) (by omega)).mp h20)), hy]; rfl
        · refine x_aload C dX3_teacherFor_23 rfl ?_
          refine x_get C kf_X3_55 (vput_s hi) rfl dX3_teacherFor_25 ?_
          refine x_feq C 67 dX3_teacherFor_28 (by decide) (fun h28 => ?_) (fun h28 => ?_)
          · refine x_iinc C dX3_teacherFor_67 rfl (nI_inc _) (by decide) rfl ?_
            refine x_goto C 4 dX3_teacherFor_70 (by decide) ?_
            refine xX.cl ih rfl (And.intro rfl (And.intro rfl (And.intro ?_ (And.intro rfl trivial)))) rfl
            rw [teS_sk (Or.inr (Or.inl h28)), hy]; rfl
          · refine x_aload C dX3_teacherFor_31 rfl ?_
            refine x_get C kf_X3_104 (vput_s hi) rfl dX3_teacherFor_33 ?_
            refine x_aload_n C dX3_teacherFor_36 rfl ?_
            refine x_get C kf_X3_18 vput_0 rfl dX3_teacherFor_37 ?_
            refine x_iconst (v := 2) C dX3_teacherFor_40 (by decide) ?_
            refine x_iald2 C vput_18 rfl (by decide) (by decide) dX3_teacherFor_41 ?_
            refine x_ic_le C 48 dX3_teacherFor_42 (by decide) (fun h42 => ?_) (fun h42 => ?_)
            · refine x_aload_n C dX3_teacherFor_48 rfl ?_
              refine x_ifnull C dX3_teacherFor_49 ?_
              refine x_aload C dX3_teacherFor_52 rfl ?_
              refine x_get C kf_X3_104 (vput_s hi) rfl dX3_teacherFor_54 ?_
              refine x_aload_n C dX3_teacherFor_57 rfl ?_
              refine x_get C kf_X3_104 (vput_s hy8) rfl dX3_teacherFor_58 ?_
              refine x_ic_ge C 67 dX3_teacherFor_61 (by decide) (fun h61 => ?_) (fun h61 => ?_)
              · refine x_iinc C dX3_teacherFor_67 rfl (nI_inc _) (by decide) rfl ?_
                refine x_goto C 4 dX3_teacherFor_70 (by decide) ?_
                refine xX.cl ih rfl (And.intro rfl (And.intro rfl (And.intro ?_ (And.intro rfl trivial)))) rfl
                rw [teS_k (fun z => h20 (by rw [z])) h28 h42 hy h61]; rfl
              · refine x_aload C dX3_teacherFor_64 rfl ?_
                refine x_astore_n C dX3_teacherFor_66 (by decide) rfl ?_
                refine x_iinc C dX3_teacherFor_67 rfl (nI_inc _) (by decide) rfl ?_
                refine x_goto C 4 dX3_teacherFor_70 (by decide) ?_
                refine xX.cl ih rfl (And.intro rfl (And.intro rfl (And.intro ?_ (And.intro rfl trivial)))) rfl
                rw [teS_u (fun z => h20 (by rw [z])) h28 h42 hy h61]; rfl
            · refine x_goto C 67 dX3_teacherFor_45 (by decide) ?_
              refine x_iinc C dX3_teacherFor_67 rfl (nI_inc _) (by decide) rfl ?_
              refine x_goto C 4 dX3_teacherFor_70 (by decide) ?_
              refine xX.cl ih rfl (And.intro rfl (And.intro rfl (And.intro ?_ (And.intro rfl trivial)))) rfl
              rw [teS_sk (Or.inr (Or.inr h42)), hy]; rfl
  refine x_null C dX3_teacherFor_0 ?_
  refine x_astore_nN C dX3_teacherFor_1 (by decide) rfl ?_
  refine x_iconst (v := 0) C dX3_teacherFor_2 (by decide) ?_
  refine x_istore_n C dX3_teacherFor_3 (by decide) rfl ?_
  refine xX.cl (hl 0 (by omega)) rfl (And.intro rfl (And.intro rfl (And.intro rfl (And.intro rfl trivial)))) rfl

