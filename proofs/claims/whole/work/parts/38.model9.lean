set_option maxRecDepth 100000 in
set_option maxHeartbeats 1000000 in
theorem c_X5_come_ok {l : Launch} {E : xEnv} {B N : Nat} {σ : Sg} {M : Nat} {U : Vs} {kp ho tx sc : Fn} {z : Nat} (hz : z ≤ 6) (h0 : sc 0 = nI z) {q : Nat} (hq : q < 8) (hall : ∀ j, j < q → U 10 j = 1) (hno : ¬ U 10 q = 1) : xM l yX5_come cX5_come 2 (some .int) 2 45 0 0 E B [.ref M] N (mput E σ M U kp ho tx sc) N (mput E σ M (up2 U 10 q 1) kp (rcH ho U z) tx (upd sc 0 (nI (min 6 (z + 1))))) (some (.int (nI q))) := by
  refine xM_of [some (.ref _), none] (by decide +kernel) (Nat.le_of_ble_eq_true rfl) rfl (fun k0 C Z => ?_)
  have hl : ∀ i, i ≤ q → xX k0 N 0 0 (mput E σ M U kp ho tx sc) 2 [some (.ref M), some (.int (nI i))] [] := by
    refine x_for q ?_ ?_
    · refine x_iload_n C dX5_come_2 rfl ?_
      refine x_bipush (v := 8) C dX5_come_3 (by decide) ?_
      refine x_ic_ge C 22 dX5_come_5 (by decide) (fun h => absurd h (nI_ge (b := 8) hq (by omega))) (fun _ => ?_)
      refine x_aload_n C dX5_come_8 rfl ?_
      refine x_iload_n C dX5_come_9 rfl ?_
      refine x_callV C (c_X5_isSpeaker_k hq) kv_X5_isSpeaker kl_X5_45 dX5_come_10 mput_0 rfl rfl rfl rfl (Nat.le_of_ble_eq_true rfl) (Nat.le_of_ble_eq_true rfl) (Nat.le_of_ble_eq_true rfl) (Nat.le_of_ble_eq_true rfl) (Nat.le_of_ble_eq_true rfl) ?_
      refine x_beq C 22 dX5_come_13 (by decide) (fun _ => ?_) (fun h => absurd h hno)
      refine x_iload_n C dX5_come_22 rfl ?_
      refine x_bipush (v := 8) C dX5_come_23 (by decide) ?_
      refine x_ic_ne C 31 dX5_come_25 (by decide) (fun _ => ?_) (fun h => absurd h (nI_neL (b := 8) (by omega) (by decide) (by omega)))
      refine x_aload_n C dX5_come_31 rfl ?_
      refine x_callV C (c_X5_record hz h0) kv_X5_record kl_X5_86 dX5_come_32 mput_0 rfl rfl rfl rfl (Nat.le_of_ble_eq_true rfl) (Nat.le_of_ble_eq_true rfl) (Nat.le_of_ble_eq_true rfl) (Nat.le_of_ble_eq_true rfl) (Nat.le_of_ble_eq_true rfl) ?_
      refine x_aload_n C dX5_come_35 rfl ?_
      refine x_iload_n C dX5_come_36 rfl ?_
      refine x_iconst (v := 0) C dX5_come_37 (by decide) ?_
      refine x_iconst (v := 1) C dX5_come_38 (by decide) ?_
      refine x_callV C (c_X5_setPart0 hq 1 1 rfl) kv_X5_setPart kl_X5_77 dX5_come_39 mput_0 rfl rfl rfl rfl (Nat.le_of_ble_eq_true rfl) (Nat.le_of_ble_eq_true rfl) (Nat.le_of_ble_eq_true rfl) (Nat.le_of_ble_eq_true rfl) (Nat.le_of_ble_eq_true rfl) ?_
      refine x_iload_n C dX5_come_42 rfl ?_
      exact x_zret C Z dX5_come_43 rfl (Nat.le_of_ble_eq_true rfl) (Nat.le_of_ble_eq_true rfl) rfl rfl rfl
    · intro i hi ih
      refine x_iload_n C dX5_come_2 rfl ?_
      refine x_bipush (v := 8) C dX5_come_3 (by decide) ?_
      refine x_ic_ge C 22 dX5_come_5 (by decide) (fun h => absurd h (nI_ge (b := 8) (show i < 8 by omega) (by omega))) (fun _ => ?_)
      refine x_aload_n C dX5_come_8 rfl ?_
      refine x_iload_n C dX5_come_9 rfl ?_
      refine x_callV C (c_X5_isSpeaker_k (show i < 8 by omega)) kv_X5_isSpeaker kl_X5_45 dX5_come_10 mput_0 rfl rfl rfl rfl (Nat.le_of_ble_eq_true rfl) (Nat.le_of_ble_eq_true rfl) (Nat.le_of_ble_eq_true rfl) (Nat.le_of_ble_eq_true rfl) (Nat.le_of_ble_eq_true rfl) ?_
      refine x_beq C 22 dX5_come_13 (by decide) (fun h => absurd (hall i hi) h) (fun _ => ?_)
      refine x_iinc C dX5_come_16 rfl (nI_inc _) (by decide) rfl ?_
      refine x_goto C 2 dX5_come_19 (by decide) ?_
      refine xX.cl ih rfl (And.intro rfl (And.intro rfl trivial)) rfl
  refine x_iconst (v := 0) C dX5_come_0 (by decide) ?_
  refine x_istore_n C dX5_come_1 (by decide) rfl ?_
  refine xX.cl (hl 0 (by omega)) rfl (And.intro rfl (And.intro rfl trivial)) rfl
set_option maxRecDepth 100000 in
set_option maxHeartbeats 1000000 in
theorem c_X5_come_full {l : Launch} {E : xEnv} {B N : Nat} {σ : Sg} {M : Nat} {U : Vs} {kp ho tx sc : Fn} (hall : ∀ j, j < 8 → U 10 j = 1) : xM l yX5_come cX5_come 2 (some .int) 2 45 0 0 E B [.ref M] N (mput E σ M U kp ho tx sc) N (mput E σ M U kp ho tx sc) (some (.int (-4))) := by
  refine xM_of [some (.ref _), none] (by decide +kernel) (Nat.le_of_ble_eq_true rfl) rfl (fun k0 C Z => ?_)
  have hl : ∀ i, i ≤ 8 → xX k0 N 0 0 (mput E σ M U kp ho tx sc) 2 [some (.ref M), some (.int (nI i))] [] := by
    refine x_for 8 ?_ ?_
    · refine x_iload_n C dX5_come_2 rfl ?_
      refine x_bipush (v := 8) C dX5_come_3 (by decide) ?_
      refine x_ic_ge C 22 dX5_come_5 (by decide) (fun _ => ?_) (fun h => absurd (nI_le (a := 8) (Nat.le_refl _) (by omega)) h)
      refine x_iload_n C dX5_come_22 rfl ?_
      refine x_bipush (v := 8) C dX5_come_23 (by decide) ?_
      refine x_ic_ne C 31 dX5_come_25 (by decide) (fun h => absurd rfl h) (fun _ => ?_)
      refine x_bipush (v := (-4)) C dX5_come_28 (by decide) ?_
      exact x_zret C Z dX5_come_30 rfl (Nat.le_of_ble_eq_true rfl) (Nat.le_of_ble_eq_true rfl) rfl rfl rfl
    · intro i hi ih
      refine x_iload_n C dX5_come_2 rfl ?_
      refine x_bipush (v := 8) C dX5_come_3 (by decide) ?_
      refine x_ic_ge C 22 dX5_come_5 (by decide) (fun h => absurd h (nI_ge (b := 8) hi (by omega))) (fun _ => ?_)
      refine x_aload_n C dX5_come_8 rfl ?_
      refine x_iload_n C dX5_come_9 rfl ?_
      refine x_callV C (c_X5_isSpeaker_k hi) kv_X5_isSpeaker kl_X5_45 dX5_come_10 mput_0 rfl rfl rfl rfl (Nat.le_of_ble_eq_true rfl) (Nat.le_of_ble_eq_true rfl) (Nat.le_of_ble_eq_true rfl) (Nat.le_of_ble_eq_true rfl) (Nat.le_of_ble_eq_true rfl) ?_
      refine x_beq C 22 dX5_come_13 (by decide) (fun h => absurd (hall i hi) h) (fun _ => ?_)
      refine x_iinc C dX5_come_16 rfl (nI_inc _) (by decide) rfl ?_
      refine x_goto C 2 dX5_come_19 (by decide) ?_
      refine xX.cl ih rfl (And.intro rfl (And.intro rfl trivial)) rfl
  refine x_iconst (v := 0) C dX5_come_0 (by decide) ?_
  refine x_istore_n C dX5_come_1 (by decide) rfl ?_
  refine xX.cl (hl 0 (by omega)) rfl (And.intro rfl (And.intro rfl trivial)) rfl
set_option maxRecDepth 100000 in
set_option maxHeartbeats 1000000 in
theorem c_X5_go_ok {l : Launch} {E : xEnv} {B N : Nat} {σ : Sg} {M : Nat} {U : Vs} {kp ho tx sc : Fn} {z : Nat} (hz : z ≤ 6) (h0 : sc 0 = nI z) {k : Nat} (hk : k < 8) (hp1 : U 10 k = 1) : xM l yX5_go cX5_go 3 (some .int) 3 65 0 0 E B [.ref M, .int (nI k)] N (mput E σ M U kp ho tx sc) N (mput E σ M (goU U k) kp (rcH ho U z) tx (upd sc 0 (nI (min 6 (z + 1))))) (some (.int (nI (cnN (goU U k 10) 8)))) := by
  refine xM_of [some (.ref _), some (.int _), none] (by decide +kernel) (Nat.le_of_ble_eq_true rfl) rfl (fun k0 C Z => ?_)
  have hl : ∀ i, i ≤ 84 → xX k0 N 0 0 (mput E σ M (zwL (up2 (up2 (up2 U 10 k 0) 11 k 0) 12 k 0) k i) kp (rcH ho U z) tx (upd sc 0 (nI (min 6 (z + 1))))) 37 [some (.ref M), some (.int (nI k)), some (.int (nI i))] [] := by
    refine x_for 84 ?_ ?_
    · refine x_iload_n C dX5_go_37 rfl ?_
      refine x_bipush (v := 84) C dX5_go_38 (by decide) ?_
      refine x_ic_ge C 64 dX5_go_40 (by decide) (fun _ => ?_) (fun h => absurd (nI_le (a := 84) (Nat.le_refl _) (by omega)) h)
      refine x_aload_n C dX5_go_64 rfl ?_
      refine x_callV C c_X5_speakers kv_X5_speakers kl_X5_92 dX5_go_65 mput_0 rfl rfl rfl rfl (Nat.le_of_ble_eq_true rfl) (Nat.le_of_ble_eq_true rfl) (Nat.le_of_ble_eq_true rfl) (Nat.le_of_ble_eq_true rfl) (Nat.le_of_ble_eq_true rfl) ?_
      exact x_zret C Z dX5_go_68 rfl (Nat.le_of_ble_eq_true rfl) (Nat.le_of_ble_eq_true rfl) rfl rfl rfl
    · intro i hi ih
      refine x_iload_n C dX5_go_37 rfl ?_
      refine x_bipush (v := 84) C dX5_go_38 (by decide) ?_
      refine x_ic_ge C 64 dX5_go_40 (by decide) (fun h => absurd h (nI_ge (b := 84) hi (by omega))) (fun _ => ?_)
      refine x_aload_n C dX5_go_43 rfl ?_
      refine x_get C kf_X5_7 mput_0 rfl dX5_go_44 ?_
      refine x_bipush (v := 33) C dX5_go_47 (by decide) ?_
      refine x_bipush (v := 84) C dX5_go_49 (by decide) ?_
      refine x_iload_n C dX5_go_51 rfl ?_
      refine x_imul C dX5_go_52 ?_
      refine x_iadd C dX5_go_53 ?_
      refine x_iload_n C dX5_go_54 rfl ?_
      refine x_iadd C dX5_go_55 ?_
      refine x_iconst (v := 0) C dX5_go_56 (by decide) ?_
      refine x_iast2 C mput_1 (ix_k _ _) (by omega) (by decide) (flu_w hk hi _) (mput_st _) dX5_go_57 ?_
      refine x_iinc C dX5_go_58 rfl (nI_inc _) (by decide) rfl ?_
      refine x_goto C 37 dX5_go_61 (by decide) ?_
      refine xX.cl ih (mcg zwL_s) (And.intro rfl (And.intro rfl (And.intro rfl trivial))) rfl
  refine x_aload_n C dX5_go_0 rfl ?_
  refine x_iload_n C dX5_go_1 rfl ?_
  refine x_callV C (c_X5_isSpeaker_k hk) kv_X5_isSpeaker kl_X5_45 dX5_go_2 mput_0 rfl rfl rfl rfl (Nat.le_of_ble_eq_true rfl) (Nat.le_of_ble_eq_true rfl) (Nat.le_of_ble_eq_true rfl) (Nat.le_of_ble_eq_true rfl) (Nat.le_of_ble_eq_true rfl) ?_
  refine x_bne C 10 dX5_go_5 (by decide) (fun _ => ?_) (fun h => absurd hp1 h)
  refine x_aload_n C dX5_go_10 rfl ?_
  refine x_callV C (c_X5_record hz h0) kv_X5_record kl_X5_86 dX5_go_11 mput_0 rfl rfl rfl rfl (Nat.le_of_ble_eq_true rfl) (Nat.le_of_ble_eq_true rfl) (Nat.le_of_ble_eq_true rfl) (Nat.le_of_ble_eq_true rfl) (Nat.le_of_ble_eq_true rfl) ?_
  refine x_aload_n C dX5_go_14 rfl ?_
  refine x_iload_n C dX5_go_15 rfl ?_
  refine x_iconst (v := 0) C dX5_go_16 (by decide) ?_
  refine x_iconst (v := 0) C dX5_go_17 (by decide) ?_
  refine x_callV C (c_X5_setPart0 hk 0 0 rfl) kv_X5_setPart kl_X5_77 dX5_go_18 mput_0 rfl rfl rfl rfl (Nat.le_of_ble_eq_true rfl) (Nat.le_of_ble_eq_true rfl) (Nat.le_of_ble_eq_true rfl) (Nat.le_of_ble_eq_true rfl) (Nat.le_of_ble_eq_true rfl) ?_
  refine x_aload_n C dX5_go_21 rfl ?_
  refine x_iload_n C dX5_go_22 rfl ?_
  refine x_iconst (v := 1) C dX5_go_23 (by decide) ?_
  refine x_iconst (v := 0) C dX5_go_24 (by decide) ?_
  refine x_callV C (c_X5_setPart1 hk 0) kv_X5_setPart kl_X5_77 dX5_go_25 mput_0 rfl rfl rfl rfl (Nat.le_of_ble_eq_true rfl) (Nat.le_of_ble_eq_true rfl) (Nat.le_of_ble_eq_true rfl) (Nat.le_of_ble_eq_true rfl) (Nat.le_of_ble_eq_true rfl) ?_
  refine x_aload_n C dX5_go_28 rfl ?_
  refine x_iload_n C dX5_go_29 rfl ?_
  refine x_iconst (v := 2) C dX5_go_30 (by decide) ?_
  refine x_iconst (v := 0) C dX5_go_31 (by decide) ?_
  refine x_callV C (c_X5_setPart2 hk 0) kv_X5_setPart kl_X5_77 dX5_go_32 mput_0 rfl rfl rfl rfl (Nat.le_of_ble_eq_true rfl) (Nat.le_of_ble_eq_true rfl) (Nat.le_of_ble_eq_true rfl) (Nat.le_of_ble_eq_true rfl) (Nat.le_of_ble_eq_true rfl) ?_
  refine x_iconst (v := 0) C dX5_go_35 (by decide) ?_
  refine x_istore_n C dX5_go_36 (by decide) rfl ?_
  refine xX.cl (hl 0 (by omega)) (mcg zwL_0.symm) (And.intro rfl (And.intro rfl (And.intro rfl trivial))) rfl
set_option maxRecDepth 100000 in
set_option maxHeartbeats 1000000 in
theorem c_X5_go_no {l : Launch} {E : xEnv} {B N : Nat} {σ : Sg} {M : Nat} {U : Vs} {kp ho tx sc : Fn} {x : Int32} (hno : ¬ ∃ k, k < 8 ∧ x = nI k ∧ U 10 k = 1) : xM l yX5_go cX5_go 3 (some .int) 3 65 0 0 E B [.ref M, .int x] N (mput E σ M U kp ho tx sc) N (mput E σ M U kp ho tx sc) (some (.int (-1))) := by
  refine xM_of [some (.ref _), some (.int _), none] (by decide +kernel) (Nat.le_of_ble_eq_true rfl) rfl (fun k0 C Z => ?_)
  refine x_aload_n C dX5_go_0 rfl ?_
  refine x_iload_n C dX5_go_1 rfl ?_
  refine x_callV C (c_X5_isSpeaker_no hno) kv_X5_isSpeaker kl_X5_45 dX5_go_2 mput_0 rfl rfl rfl rfl (Nat.le_of_ble_eq_true rfl) (Nat.le_of_ble_eq_true rfl) (Nat.le_of_ble_eq_true rfl) (Nat.le_of_ble_eq_true rfl) (Nat.le_of_ble_eq_true rfl) ?_
  refine x_if_ne C 10 dX5_go_5 (by decide) (fun h => absurd rfl h) (fun _ => ?_)
  refine x_iconst (v := (-1)) C dX5_go_8 (by decide) ?_
  exact x_zret C Z dX5_go_9 rfl (Nat.le_of_ble_eq_true rfl) (Nat.le_of_ble_eq_true rfl) rfl rfl rfl
set_option maxRecDepth 100000 in
set_option maxHeartbeats 1000000 in
theorem c_X5_set_ok {l : Launch} {E : xEnv} {B N : Nat} {σ : Sg} {M : Nat} {U : Vs} {kp ho tx sc : Fn} {z : Nat} (hz : z ≤ 6) (h0 : sc 0 = nI z) {j : Nat} {v : Int32} (hj : j < 4) (h1 : ¬ v < leS j) (h2 : ¬ moS j < v) : xM l yX5_set cX5_set 5 (some .int) 2 45 0 0 E B [.ref M, .int (nI j), .int v] N (mput E σ M U kp ho tx sc) N (mput E σ M (up2 U 8 j v) kp (rcH ho U z) tx (upd sc 0 (nI (min 6 (z + 1))))) (some (.int (U 8 j))) := by
  rcases (show j = 0 ∨ j = 1 ∨ j = 2 ∨ j = 3 by omega) with rfl | rfl | rfl | rfl
  · refine xM_of [some (.ref _), some (.int _), some (.int _), none, none] (by decide +kernel) (Nat.le_of_ble_eq_true rfl) rfl (fun k0 C Z => ?_)
    refine x_iload_n C dX5_set_0 rfl ?_
    refine x_callS C (c_X5_isSetting _) ks_X5_isSetting kl_X5_115 dX5_set_1 rfl rfl rfl rfl (Nat.le_of_ble_eq_true rfl) (Nat.le_of_ble_eq_true rfl) (Nat.le_of_ble_eq_true rfl) (Nat.le_of_ble_eq_true rfl) (Nat.le_of_ble_eq_true rfl) ?_
    refine x_bne C 9 dX5_set_4 (by decide) (fun _ => ?_) (fun h => absurd (bd_in (c := 4) hj (by decide)) h)
    refine x_iload_n C dX5_set_9 rfl ?_
    refine x_if_ne C 17 dX5_set_10 (by decide) (fun h => absurd (by decide) h) (fun _ => ?_)
    refine x_iconst (v := 1) C dX5_set_13 (by decide) ?_
    refine x_goto C 27 dX5_set_14 (by decide) ?_
    refine x_istore_n C dX5_set_27 (by decide) rfl ?_
    refine x_iload_n C dX5_set_28 rfl ?_
    refine x_iload_n C dX5_set_29 rfl ?_
    refine x_iload_n C dX5_set_30 rfl ?_
    refine x_iconst (v := 2) C dX5_set_31 (by decide) ?_
    refine x_ic_ge C 40 dX5_set_32 (by decide) (fun h => absurd h (by decide)) (fun _ => ?_)
    refine x_bipush (v := 9) C dX5_set_35 (by decide) ?_
    refine x_goto C 52 dX5_set_37 (by decide) ?_
    refine x_callS C (c_X5_within _ _ _) ks_X5_within kl_X5_30 dX5_set_52 rfl rfl rfl rfl (Nat.le_of_ble_eq_true rfl) (Nat.le_of_ble_eq_true rfl) (Nat.le_of_ble_eq_true rfl) (Nat.le_of_ble_eq_true rfl) (Nat.le_of_ble_eq_true rfl) ?_
    refine x_bne C 61 dX5_set_55 (by decide) (fun _ => ?_) (fun h => absurd ⟨Int32.not_lt.mp h1, Int32.not_lt.mp h2⟩ h)
    refine x_aload_n C dX5_set_61 rfl ?_
    refine x_callV C (c_X5_record hz h0) kv_X5_record kl_X5_86 dX5_set_62 mput_0 rfl rfl rfl rfl (Nat.le_of_ble_eq_true rfl) (Nat.le_of_ble_eq_true rfl) (Nat.le_of_ble_eq_true rfl) (Nat.le_of_ble_eq_true rfl) (Nat.le_of_ble_eq_true rfl) ?_
    refine x_aload_n C dX5_set_65 rfl ?_
    refine x_get C kf_X5_7 mput_0 rfl dX5_set_66 ?_
    refine x_iconst (v := 5) C dX5_set_69 (by decide) ?_
    refine x_iload_n C dX5_set_70 rfl ?_
    refine x_iadd C dX5_set_71 ?_
    refine x_iald2 C mput_1 (ix_8 _) (by omega) (by decide) dX5_set_72 ?_
    rw [fl_8 (by decide)]
    refine x_istore C dX5_set_73 (by decide) rfl ?_
    refine x_aload_n C dX5_set_75 rfl ?_
    refine x_get C kf_X5_7 mput_0 rfl dX5_set_76 ?_
    refine x_iconst (v := 5) C dX5_set_79 (by decide) ?_
    refine x_iload_n C dX5_set_80 rfl ?_
    refine x_iadd C dX5_set_81 ?_
    refine x_iload_n C dX5_set_82 rfl ?_
    refine x_iast2 C mput_1 (ix_8 _) (by omega) (by decide) (flu_8 (by decide) _) (mput_st _) dX5_set_83 ?_
    refine x_iload C dX5_set_84 rfl ?_
    exact x_zret C Z dX5_set_86 rfl (Nat.le_of_ble_eq_true rfl) (Nat.le_of_ble_eq_true rfl) rfl rfl rfl
  · refine xM_of [some (.ref _), some (.int _), some (.int _), none, none] (by decide +kernel) (Nat.le_of_ble_eq_true rfl) rfl (fun k0 C Z => ?_)
    refine x_iload_n C dX5_set_0 rfl ?_
    refine x_callS C (c_X5_isSetting _) ks_X5_isSetting kl_X5_115 dX5_set_1 rfl rfl rfl rfl (Nat.le_of_ble_eq_true rfl) (Nat.le_of_ble_eq_true rfl) (Nat.le_of_ble_eq_true rfl) (Nat.le_of_ble_eq_true rfl) (Nat.le_of_ble_eq_true rfl) ?_
    refine x_bne C 9 dX5_set_4 (by decide) (fun _ => ?_) (fun h => absurd (bd_in (c := 4) hj (by decide)) h)
    refine x_iload_n C dX5_set_9 rfl ?_
    refine x_if_ne C 17 dX5_set_10 (by decide) (fun _ => ?_) (fun h => absurd h (by decide))
    refine x_iload_n C dX5_set_17 rfl ?_
    refine x_iconst (v := 2) C dX5_set_18 (by decide) ?_
    refine x_ic_ne C 26 dX5_set_19 (by decide) (fun _ => ?_) (fun h => absurd h (by decide))
    refine x_iconst (v := 0) C dX5_set_26 (by decide) ?_
    refine x_istore_n C dX5_set_27 (by decide) rfl ?_
    refine x_iload_n C dX5_set_28 rfl ?_
    refine x_iload_n C dX5_set_29 rfl ?_
    refine x_iload_n C dX5_set_30 rfl ?_
    refine x_iconst (v := 2) C dX5_set_31 (by decide) ?_
    refine x_ic_ge C 40 dX5_set_32 (by decide) (fun h => absurd h (by decide)) (fun _ => ?_)
    refine x_bipush (v := 9) C dX5_set_35 (by decide) ?_
    refine x_goto C 52 dX5_set_37 (by decide) ?_
    refine x_callS C (c_X5_within _ _ _) ks_X5_within kl_X5_30 dX5_set_52 rfl rfl rfl rfl (Nat.le_of_ble_eq_true rfl) (Nat.le_of_ble_eq_true rfl) (Nat.le_of_ble_eq_true rfl) (Nat.le_of_ble_eq_true rfl) (Nat.le_of_ble_eq_true rfl) ?_
    refine x_bne C 61 dX5_set_55 (by decide) (fun _ => ?_) (fun h => absurd ⟨Int32.not_lt.mp h1, Int32.not_lt.mp h2⟩ h)
    refine x_aload_n C dX5_set_61 rfl ?_
    refine x_callV C (c_X5_record hz h0) kv_X5_record kl_X5_86 dX5_set_62 mput_0 rfl rfl rfl rfl (Nat.le_of_ble_eq_true rfl) (Nat.le_of_ble_eq_true rfl) (Nat.le_of_ble_eq_true rfl) (Nat.le_of_ble_eq_true rfl) (Nat.le_of_ble_eq_true rfl) ?_
    refine x_aload_n C dX5_set_65 rfl ?_
    refine x_get C kf_X5_7 mput_0 rfl dX5_set_66 ?_
    refine x_iconst (v := 5) C dX5_set_69 (by decide) ?_
    refine x_iload_n C dX5_set_70 rfl ?_
    refine x_iadd C dX5_set_71 ?_
    refine x_iald2 C mput_1 (ix_8 _) (by omega) (by decide) dX5_set_72 ?_
    rw [fl_8 (by decide)]
    refine x_istore C dX5_set_73 (by decide) rfl ?_
    refine x_aload_n C dX5_set_75 rfl ?_
    refine x_get C kf_X5_7 mput_0 rfl dX5_set_76 ?_
    refine x_iconst (v := 5) C dX5_set_79 (by decide) ?_
    refine x_iload_n C dX5_set_80 rfl ?_
    refine x_iadd C dX5_set_81 ?_
    refine x_iload_n C dX5_set_82 rfl ?_
    refine x_iast2 C mput_1 (ix_8 _) (by omega) (by decide) (flu_8 (by decide) _) (mput_st _) dX5_set_83 ?_
    refine x_iload C dX5_set_84 rfl ?_
    exact x_zret C Z dX5_set_86 rfl (Nat.le_of_ble_eq_true rfl) (Nat.le_of_ble_eq_true rfl) rfl rfl rfl
  · refine xM_of [some (.ref _), some (.int _), some (.int _), none, none] (by decide +kernel) (Nat.le_of_ble_eq_true rfl) rfl (fun k0 C Z => ?_)
    refine x_iload_n C dX5_set_0 rfl ?_
    refine x_callS C (c_X5_isSetting _) ks_X5_isSetting kl_X5_115 dX5_set_1 rfl rfl rfl rfl (Nat.le_of_ble_eq_true rfl) (Nat.le_of_ble_eq_true rfl) (Nat.le_of_ble_eq_true rfl) (Nat.le_of_ble_eq_true rfl) (Nat.le_of_ble_eq_true rfl) ?_
    refine x_bne C 9 dX5_set_4 (by decide) (fun _ => ?_) (fun h => absurd (bd_in (c := 4) hj (by decide)) h)
    refine x_iload_n C dX5_set_9 rfl ?_
    refine x_if_ne C 17 dX5_set_10 (by decide) (fun _ => ?_) (fun h => absurd h (by decide))
    refine x_iload_n C dX5_set_17 rfl ?_
    refine x_iconst (v := 2) C dX5_set_18 (by decide) ?_
    refine x_ic_ne C 26 dX5_set_19 (by decide) (fun h => absurd (by decide) h) (fun _ => ?_)
    refine x_iconst (v := 5) C dX5_set_22 (by decide) ?_
    refine x_goto C 27 dX5_set_23 (by decide) ?_
    refine x_istore_n C dX5_set_27 (by decide) rfl ?_
    refine x_iload_n C dX5_set_28 rfl ?_
    refine x_iload_n C dX5_set_29 rfl ?_
    refine x_iload_n C dX5_set_30 rfl ?_
    refine x_iconst (v := 2) C dX5_set_31 (by decide) ?_
    refine x_ic_ge C 40 dX5_set_32 (by decide) (fun _ => ?_) (fun h => absurd (by decide) h)
    refine x_iload_n C dX5_set_40 rfl ?_
    refine x_iconst (v := 2) C dX5_set_41 (by decide) ?_
    refine x_ic_ne C 50 dX5_set_42 (by decide) (fun h => absurd (by decide) h) (fun _ => ?_)
    refine x_bipush (v := 99) C dX5_set_45 (by decide) ?_
    refine x_goto C 52 dX5_set_47 (by decide) ?_
    refine x_callS C (c_X5_within _ _ _) ks_X5_within kl_X5_30 dX5_set_52 rfl rfl rfl rfl (Nat.le_of_ble_eq_true rfl) (Nat.le_of_ble_eq_true rfl) (Nat.le_of_ble_eq_true rfl) (Nat.le_of_ble_eq_true rfl) (Nat.le_of_ble_eq_true rfl) ?_
    refine x_bne C 61 dX5_set_55 (by decide) (fun _ => ?_) (fun h => absurd ⟨Int32.not_lt.mp h1, Int32.not_lt.mp h2⟩ h)
    refine x_aload_n C dX5_set_61 rfl ?_
    refine x_callV C (c_X5_record hz h0) kv_X5_record kl_X5_86 dX5_set_62 mput_0 rfl rfl rfl rfl (Nat.le_of_ble_eq_true rfl) (Nat.le_of_ble_eq_true rfl) (Nat.le_of_ble_eq_true rfl) (Nat.le_of_ble_eq_true rfl) (Nat.le_of_ble_eq_true rfl) ?_
    refine x_aload_n C dX5_set_65 rfl ?_
    refine x_get C kf_X5_7 mput_0 rfl dX5_set_66 ?_
    refine x_iconst (v := 5) C dX5_set_69 (by decide) ?_
    refine x_iload_n C dX5_set_70 rfl ?_
    refine x_iadd C dX5_set_71 ?_
    refine x_iald2 C mput_1 (ix_8 _) (by omega) (by decide) dX5_set_72 ?_
    rw [fl_8 (by decide)]
    refine x_istore C dX5_set_73 (by decide) rfl ?_
    refine x_aload_n C dX5_set_75 rfl ?_
    refine x_get C kf_X5_7 mput_0 rfl dX5_set_76 ?_
    refine x_iconst (v := 5) C dX5_set_79 (by decide) ?_
    refine x_iload_n C dX5_set_80 rfl ?_
    refine x_iadd C dX5_set_81 ?_
    refine x_iload_n C dX5_set_82 rfl ?_
    refine x_iast2 C mput_1 (ix_8 _) (by omega) (by decide) (flu_8 (by decide) _) (mput_st _) dX5_set_83 ?_
    refine x_iload C dX5_set_84 rfl ?_
    exact x_zret C Z dX5_set_86 rfl (Nat.le_of_ble_eq_true rfl) (Nat.le_of_ble_eq_true rfl) rfl rfl rfl
  · refine xM_of [some (.ref _), some (.int _), some (.int _), none, none] (by decide +kernel) (Nat.le_of_ble_eq_true rfl) rfl (fun k0 C Z => ?_)
    refine x_iload_n C dX5_set_0 rfl ?_
    refine x_callS C (c_X5_isSetting _) ks_X5_isSetting kl_X5_115 dX5_set_1 rfl rfl rfl rfl (Nat.le_of_ble_eq_true rfl) (Nat.le_of_ble_eq_true rfl) (Nat.le_of_ble_eq_true rfl) (Nat.le_of_ble_eq_true rfl) (Nat.le_of_ble_eq_true rfl) ?_
    refine x_bne C 9 dX5_set_4 (by decide) (fun _ => ?_) (fun h => absurd (bd_in (c := 4) hj (by decide)) h)
    refine x_iload_n C dX5_set_9 rfl ?_
    refine x_if_ne C 17 dX5_set_10 (by decide) (fun _ => ?_) (fun h => absurd h (by decide))
    refine x_iload_n C dX5_set_17 rfl ?_
    refine x_iconst (v := 2) C dX5_set_18 (by decide) ?_
    refine x_ic_ne C 26 dX5_set_19 (by decide) (fun _ => ?_) (fun h => absurd h (by decide))
    refine x_iconst (v := 0) C dX5_set_26 (by decide) ?_
    refine x_istore_n C dX5_set_27 (by decide) rfl ?_
    refine x_iload_n C dX5_set_28 rfl ?_
    refine x_iload_n C dX5_set_29 rfl ?_
    refine x_iload_n C dX5_set_30 rfl ?_
    refine x_iconst (v := 2) C dX5_set_31 (by decide) ?_
    refine x_ic_ge C 40 dX5_set_32 (by decide) (fun _ => ?_) (fun h => absurd (by decide) h)
    refine x_iload_n C dX5_set_40 rfl ?_
    refine x_iconst (v := 2) C dX5_set_41 (by decide) ?_
    refine x_ic_ne C 50 dX5_set_42 (by decide) (fun _ => ?_) (fun h => absurd h (by decide))
    refine x_bipush (v := 100) C dX5_set_50 (by decide) ?_
    refine x_callS C (c_X5_within _ _ _) ks_X5_within kl_X5_30 dX5_set_52 rfl rfl rfl rfl (Nat.le_of_ble_eq_true rfl) (Nat.le_of_ble_eq_true rfl) (Nat.le_of_ble_eq_true rfl) (Nat.le_of_ble_eq_true rfl) (Nat.le_of_ble_eq_true rfl) ?_
    refine x_bne C 61 dX5_set_55 (by decide) (fun _ => ?_) (fun h => absurd ⟨Int32.not_lt.mp h1, Int32.not_lt.mp h2⟩ h)
    refine x_aload_n C dX5_set_61 rfl ?_
    refine x_callV C (c_X5_record hz h0) kv_X5_record kl_X5_86 dX5_set_62 mput_0 rfl rfl rfl rfl (Nat.le_of_ble_eq_true rfl) (Nat.le_of_ble_eq_true rfl) (Nat.le_of_ble_eq_true rfl) (Nat.le_of_ble_eq_true rfl) (Nat.le_of_ble_eq_true rfl) ?_
    refine x_aload_n C dX5_set_65 rfl ?_
    refine x_get C kf_X5_7 mput_0 rfl dX5_set_66 ?_
    refine x_iconst (v := 5) C dX5_set_69 (by decide) ?_
    refine x_iload_n C dX5_set_70 rfl ?_
    refine x_iadd C dX5_set_71 ?_
    refine x_iald2 C mput_1 (ix_8 _) (by omega) (by decide) dX5_set_72 ?_
    rw [fl_8 (by decide)]
    refine x_istore C dX5_set_73 (by decide) rfl ?_
    refine x_aload_n C dX5_set_75 rfl ?_
    refine x_get C kf_X5_7 mput_0 rfl dX5_set_76 ?_
    refine x_iconst (v := 5) C dX5_set_79 (by decide) ?_
    refine x_iload_n C dX5_set_80 rfl ?_
    refine x_iadd C dX5_set_81 ?_
    refine x_iload_n C dX5_set_82 rfl ?_
    refine x_iast2 C mput_1 (ix_8 _) (by omega) (by decide) (flu_8 (by decide) _) (mput_st _) dX5_set_83 ?_
    refine x_iload C dX5_set_84 rfl ?_
    exact x_zret C Z dX5_set_86 rfl (Nat.le_of_ble_eq_true rfl) (Nat.le_of_ble_eq_true rfl) rfl rfl rfl
set_option maxRecDepth 100000 in
set_option maxHeartbeats 1000000 in
theorem c_X5_set_bad {l : Launch} {E : xEnv} {B N : Nat} {σ : Sg} {M : Nat} {U : Vs} {kp ho tx sc : Fn} {j : Nat} {v : Int32} (hj : j < 4) (hb : ¬ (¬ v < leS j ∧ ¬ moS j < v)) : xM l yX5_set cX5_set 5 (some .int) 2 45 0 0 E B [.ref M, .int (nI j), .int v] N (mput E σ M U kp ho tx sc) N (mput E σ M U kp ho tx sc) (some (.int (-2))) := by
  rcases (show j = 0 ∨ j = 1 ∨ j = 2 ∨ j = 3 by omega) with rfl | rfl | rfl | rfl
  · refine xM_of [some (.ref _), some (.int _), some (.int _), none, none] (by decide +kernel) (Nat.le_of_ble_eq_true rfl) rfl (fun k0 C Z => ?_)
    refine x_iload_n C dX5_set_0 rfl ?_
    refine x_callS C (c_X5_isSetting _) ks_X5_isSetting kl_X5_115 dX5_set_1 rfl rfl rfl rfl (Nat.le_of_ble_eq_true rfl) (Nat.le_of_ble_eq_true rfl) (Nat.le_of_ble_eq_true rfl) (Nat.le_of_ble_eq_true rfl) (Nat.le_of_ble_eq_true rfl) ?_
    refine x_bne C 9 dX5_set_4 (by decide) (fun _ => ?_) (fun h => absurd (bd_in (c := 4) hj (by decide)) h)
    refine x_iload_n C dX5_set_9 rfl ?_
    refine x_if_ne C 17 dX5_set_10 (by decide) (fun h => absurd (by decide) h) (fun _ => ?_)
    refine x_iconst (v := 1) C dX5_set_13 (by decide) ?_
    refine x_goto C 27 dX5_set_14 (by decide) ?_
    refine x_istore_n C dX5_set_27 (by decide) rfl ?_
    refine x_iload_n C dX5_set_28 rfl ?_
    refine x_iload_n C dX5_set_29 rfl ?_
    refine x_iload_n C dX5_set_30 rfl ?_
    refine x_iconst (v := 2) C dX5_set_31 (by decide) ?_
    refine x_ic_ge C 40 dX5_set_32 (by decide) (fun h => absurd h (by decide)) (fun _ => ?_)
    refine x_bipush (v := 9) C dX5_set_35 (by decide) ?_
    refine x_goto C 52 dX5_set_37 (by decide) ?_
    refine x_callS C (c_X5_within _ _ _) ks_X5_within kl_X5_30 dX5_set_52 rfl rfl rfl rfl (Nat.le_of_ble_eq_true rfl) (Nat.le_of_ble_eq_true rfl) (Nat.le_of_ble_eq_true rfl) (Nat.le_of_ble_eq_true rfl) (Nat.le_of_ble_eq_true rfl) ?_
    refine x_bne C 61 dX5_set_55 (by decide) (fun h => absurd h (fun z => hb ⟨Int32.not_lt.mpr z.1, Int32.not_lt.mpr z.2⟩)) (fun _ => ?_)
    refine x_bipush (v := (-2)) C dX5_set_58 (by decide) ?_
    exact x_zret C Z dX5_set_60 rfl (Nat.le_of_ble_eq_true rfl) (Nat.le_of_ble_eq_true rfl) rfl rfl rfl
  · refine xM_of [some (.ref _), some (.int _), some (.int _), none, none] (by decide +kernel) (Nat.le_of_ble_eq_true rfl) rfl (fun k0 C Z => ?_)
    refine x_iload_n C dX5_set_0 rfl ?_
    refine x_callS C (c_X5_isSetting _) ks_X5_isSetting kl_X5_115 dX5_set_1 rfl rfl rfl rfl (Nat.le_of_ble_eq_true rfl) (Nat.le_of_ble_eq_true rfl) (Nat.le_of_ble_eq_true rfl) (Nat.le_of_ble_eq_true rfl) (Nat.le_of_ble_eq_true rfl) ?_
    refine x_bne C 9 dX5_set_4 (by decide) (fun _ => ?_) (fun h => absurd (bd_in (c := 4) hj (by decide)) h)
    refine x_iload_n C dX5_set_9 rfl ?_
    refine x_if_ne C 17 dX5_set_10 (by decide) (fun _ => ?_) (fun h => absurd h (by decide))
    refine x_iload_n C dX5_set_17 rfl ?_
    refine x_iconst (v := 2) C dX5_set_18 (by decide) ?_
    refine x_ic_ne C 26 dX5_set_19 (by decide) (fun _ => ?_) (fun h => absurd h (by decide))
    refine x_iconst (v := 0) C dX5_set_26 (by decide) ?_
    refine x_istore_n C dX5_set_27 (by decide) rfl ?_
    refine x_iload_n C dX5_set_28 rfl ?_
    refine x_iload_n C dX5_set_29 rfl ?_
    refine x_iload_n C dX5_set_30 rfl ?_
    refine x_iconst (v := 2) C dX5_set_31 (by decide) ?_
    refine x_ic_ge C 40 dX5_set_32 (by decide) (fun h => absurd h (by decide)) (fun _ => ?_)
    refine x_bipush (v := 9) C dX5_set_35 (by decide) ?_
    refine x_goto C 52 dX5_set_37 (by decide) ?_
    refine x_callS C (c_X5_within _ _ _) ks_X5_within kl_X5_30 dX5_set_52 rfl rfl rfl rfl (Nat.le_of_ble_eq_true rfl) (Nat.le_of_ble_eq_true rfl) (Nat.le_of_ble_eq_true rfl) (Nat.le_of_ble_eq_true rfl) (Nat.le_of_ble_eq_true rfl) ?_
    refine x_bne C 61 dX5_set_55 (by decide) (fun h => absurd h (fun z => hb ⟨Int32.not_lt.mpr z.1, Int32.not_lt.mpr z.2⟩)) (fun _ => ?_)
    refine x_bipush (v := (-2)) C dX5_set_58 (by decide) ?_
    exact x_zret C Z dX5_set_60 rfl (Nat.le_of_ble_eq_true rfl) (Nat.le_of_ble_eq_true rfl) rfl rfl rfl
  · refine xM_of [some (.ref _), some (.int _), some (.int _), none, none] (by decide +kernel) (Nat.le_of_ble_eq_true rfl) rfl (fun k0 C Z => ?_)
    refine x_iload_n C dX5_set_0 rfl ?_
    refine x_callS C (c_X5_isSetting _) ks_X5_isSetting kl_X5_115 dX5_set_1 rfl rfl rfl rfl (Nat.le_of_ble_eq_true rfl) (Nat.le_of_ble_eq_true rfl) (Nat.le_of_ble_eq_true rfl) (Nat.le_of_ble_eq_true rfl) (Nat.le_of_ble_eq_true rfl) ?_
    refine x_bne C 9 dX5_set_4 (by decide) (fun _ => ?_) (fun h => absurd (bd_in (c := 4) hj (by decide)) h)
    refine x_iload_n C dX5_set_9 rfl ?_
    refine x_if_ne C 17 dX5_set_10 (by decide) (fun _ => ?_) (fun h => absurd h (by decide))
    refine x_iload_n C dX5_set_17 rfl ?_
    refine x_iconst (v := 2) C dX5_set_18 (by decide) ?_
    refine x_ic_ne C 26 dX5_set_19 (by decide) (fun h => absurd (by decide) h) (fun _ => ?_)
    refine x_iconst (v := 5) C dX5_set_22 (by decide) ?_
    refine x_goto C 27 dX5_set_23 (by decide) ?_
    refine x_istore_n C dX5_set_27 (by decide) rfl ?_
    refine x_iload_n C dX5_set_28 rfl ?_
    refine x_iload_n C dX5_set_29 rfl ?_
    refine x_iload_n C dX5_set_30 rfl ?_
    refine x_iconst (v := 2) C dX5_set_31 (by decide) ?_
    refine x_ic_ge C 40 dX5_set_32 (by decide) (fun _ => ?_) (fun h => absurd (by decide) h)
    refine x_iload_n C dX5_set_40 rfl ?_
    refine x_iconst (v := 2) C dX5_set_41 (by decide) ?_
    refine x_ic_ne C 50 dX5_set_42 (by decide) (fun h => absurd (by decide) h) (fun _ => ?_)
    refine x_bipush (v := 99) C dX5_set_45 (by decide) ?_
    refine x_goto C 52 dX5_set_47 (by decide) ?_
    refine x_callS C (c_X5_within _ _ _) ks_X5_within kl_X5_30 dX5_set_52 rfl rfl rfl rfl (Nat.le_of_ble_eq_true rfl) (Nat.le_of_ble_eq_true rfl) (Nat.le_of_ble_eq_true rfl) (Nat.le_of_ble_eq_true rfl) (Nat.le_of_ble_eq_true rfl) ?_
    refine x_bne C 61 dX5_set_55 (by decide) (fun h => absurd h (fun z => hb ⟨Int32.not_lt.mpr z.1, Int32.not_lt.mpr z.2⟩)) (fun _ => ?_)
    refine x_bipush (v := (-2)) C dX5_set_58 (by decide) ?_
    exact x_zret C Z dX5_set_60 rfl (Nat.le_of_ble_eq_true rfl) (Nat.le_of_ble_eq_true rfl) rfl rfl rfl
  · refine xM_of [some (.ref _), some (.int _), some (.int _), none, none] (by decide +kernel) (Nat.le_of_ble_eq_true rfl) rfl (fun k0 C Z => ?_)
    refine x_iload_n C dX5_set_0 rfl ?_
    refine x_callS C (c_X5_isSetting _) ks_X5_isSetting kl_X5_115 dX5_set_1 rfl rfl rfl rfl (Nat.le_of_ble_eq_true rfl) (Nat.le_of_ble_eq_true rfl) (Nat.le_of_ble_eq_true rfl) (Nat.le_of_ble_eq_true rfl) (Nat.le_of_ble_eq_true rfl) ?_
    refine x_bne C 9 dX5_set_4 (by decide) (fun _ => ?_) (fun h => absurd (bd_in (c := 4) hj (by decide)) h)
    refine x_iload_n C dX5_set_9 rfl ?_
    refine x_if_ne C 17 dX5_set_10 (by decide) (fun _ => ?_) (fun h => absurd h (by decide))
    refine x_iload_n C dX5_set_17 rfl ?_
    refine x_iconst (v := 2) C dX5_set_18 (by decide) ?_
    refine x_ic_ne C 26 dX5_set_19 (by decide) (fun _ => ?_) (fun h => absurd h (by decide))
    refine x_iconst (v := 0) C dX5_set_26 (by decide) ?_
    refine x_istore_n C dX5_set_27 (by decide) rfl ?_
    refine x_iload_n C dX5_set_28 rfl ?_
    refine x_iload_n C dX5_set_29 rfl ?_
    refine x_iload_n C dX5_set_30 rfl ?_
    refine x_iconst (v := 2) C dX5_set_31 (by decide) ?_
    refine x_ic_ge C 40 dX5_set_32 (by decide) (fun _ => ?_) (fun h => absurd (by decide) h)
    refine x_iload_n C dX5_set_40 rfl ?_
    refine x_iconst (v := 2) C dX5_set_41 (by decide) ?_
    refine x_ic_ne C 50 dX5_set_42 (by decide) (fun _ => ?_) (fun h => absurd h (by decide))
    refine x_bipush (v := 100) C dX5_set_50 (by decide) ?_
    refine x_callS C (c_X5_within _ _ _) ks_X5_within kl_X5_30 dX5_set_52 rfl rfl rfl rfl (Nat.le_of_ble_eq_true rfl) (Nat.le_of_ble_eq_true rfl) (Nat.le_of_ble_eq_true rfl) (Nat.le_of_ble_eq_true rfl) (Nat.le_of_ble_eq_true rfl) ?_
    refine x_bne C 61 dX5_set_55 (by decide) (fun h => absurd h (fun z => hb ⟨Int32.not_lt.mpr z.1, Int32.not_lt.mpr z.2⟩)) (fun _ => ?_)
    refine x_bipush (v := (-2)) C dX5_set_58 (by decide) ?_
    exact x_zret C Z dX5_set_60 rfl (Nat.le_of_ble_eq_true rfl) (Nat.le_of_ble_eq_true rfl) rfl rfl rfl
set_option maxRecDepth 100000 in
set_option maxHeartbeats 1000000 in
theorem c_X5_set_no {l : Launch} {E : xEnv} {B N : Nat} {σ : Sg} {M : Nat} {U : Vs} {kp ho tx sc : Fn} {x v : Int32} (hb : ¬ (0 ≤ x ∧ x < 4)) : xM l yX5_set cX5_set 5 (some .int) 2 45 0 0 E B [.ref M, .int x, .int v] N (mput E σ M U kp ho tx sc) N (mput E σ M U kp ho tx sc) (some (.int (-1))) := by
  refine xM_of [some (.ref _), some (.int _), some (.int _), none, none] (by decide +kernel) (Nat.le_of_ble_eq_true rfl) rfl (fun k0 C Z => ?_)
  refine x_iload_n C dX5_set_0 rfl ?_
  refine x_callS C (c_X5_isSetting _) ks_X5_isSetting kl_X5_115 dX5_set_1 rfl rfl rfl rfl (Nat.le_of_ble_eq_true rfl) (Nat.le_of_ble_eq_true rfl) (Nat.le_of_ble_eq_true rfl) (Nat.le_of_ble_eq_true rfl) (Nat.le_of_ble_eq_true rfl) ?_
  refine x_bne C 9 dX5_set_4 (by decide) (fun h => absurd h hb) (fun _ => ?_)
  refine x_iconst (v := (-1)) C dX5_set_7 (by decide) ?_
  exact x_zret C Z dX5_set_8 rfl (Nat.le_of_ble_eq_true rfl) (Nat.le_of_ble_eq_true rfl) rfl rfl rfl
set_option maxRecDepth 100000 in
set_option maxHeartbeats 1000000 in
theorem c_X5_setSeed_ok {l : Launch} {E : xEnv} {B N : Nat} {σ : Sg} {M : Nat} {U : Vs} {kp ho tx sc : Fn} {z : Nat} (hz : z ≤ 6) (h0 : sc 0 = nI z) {q : Nat} (hq : q < 65536) : xM l yX5_setSeed cX5_setSeed 3 (some .int) 2 45 0 0 E B [.ref M, .int (nI q)] N (mput E σ M U kp ho tx sc) N (mput E σ M (up2 U 9 0 (nI q)) kp (rcH ho U z) tx (upd sc 0 (nI (min 6 (z + 1))))) (some (.int (U 9 0))) := by
  refine xM_of [some (.ref _), some (.int _), none] (by decide +kernel) (Nat.le_of_ble_eq_true rfl) rfl (fun k0 C Z => ?_)
  refine x_iload_n C dX5_setSeed_0 rfl ?_
  refine x_iconst (v := 0) C dX5_setSeed_1 (by decide) ?_
  refine x_ldc C kk_X5_118 dX5_setSeed_2 ?_
  refine x_callS C (c_X5_within _ _ _) ks_X5_within kl_X5_30 dX5_setSeed_4 rfl rfl rfl rfl (Nat.le_of_ble_eq_true rfl) (Nat.le_of_ble_eq_true rfl) (Nat.le_of_ble_eq_true rfl) (Nat.le_of_ble_eq_true rfl) (Nat.le_of_ble_eq_true rfl) ?_
  refine x_bne C 13 dX5_setSeed_7 (by decide) (fun _ => ?_) (fun h => absurd ⟨nI_pos' (by omega), nI_le (b := 65535) (by omega) (by omega)⟩ h)
  refine x_aload_n C dX5_setSeed_13 rfl ?_
  refine x_callV C (c_X5_record hz h0) kv_X5_record kl_X5_86 dX5_setSeed_14 mput_0 rfl rfl rfl rfl (Nat.le_of_ble_eq_true rfl) (Nat.le_of_ble_eq_true rfl) (Nat.le_of_ble_eq_true rfl) (Nat.le_of_ble_eq_true rfl) (Nat.le_of_ble_eq_true rfl) ?_
  refine x_aload_n C dX5_setSeed_17 rfl ?_
  refine x_get C kf_X5_7 mput_0 rfl dX5_setSeed_18 ?_
  refine x_iconst (v := 0) C dX5_setSeed_21 (by decide) ?_
  refine x_iald2 C mput_1 rfl (by decide) (by decide) dX5_setSeed_22 ?_
  rw [fl_9 (j := 0) (by decide)]
  refine x_istore_n C dX5_setSeed_23 (by decide) rfl ?_
  refine x_aload_n C dX5_setSeed_24 rfl ?_
  refine x_get C kf_X5_7 mput_0 rfl dX5_setSeed_25 ?_
  refine x_iconst (v := 0) C dX5_setSeed_28 (by decide) ?_
  refine x_iload_n C dX5_setSeed_29 rfl ?_
  refine x_iast2 C mput_1 rfl (by decide) (by decide) (flu_9 (q := 0) (by decide) _) (mput_st _) dX5_setSeed_30 ?_
  refine x_iload_n C dX5_setSeed_31 rfl ?_
  exact x_zret C Z dX5_setSeed_32 rfl (Nat.le_of_ble_eq_true rfl) (Nat.le_of_ble_eq_true rfl) rfl rfl rfl
set_option maxRecDepth 100000 in
set_option maxHeartbeats 1000000 in
theorem c_X5_setSeed_bad {l : Launch} {E : xEnv} {B N : Nat} {σ : Sg} {M : Nat} {U : Vs} {kp ho tx sc : Fn} {x : Int32} (hb : ¬ (0 ≤ x ∧ x ≤ 65535)) : xM l yX5_setSeed cX5_setSeed 3 (some .int) 2 45 0 0 E B [.ref M, .int x] N (mput E σ M U kp ho tx sc) N (mput E σ M U kp ho tx sc) (some (.int (-2))) := by
  refine xM_of [some (.ref _), some (.int _), none] (by decide +kernel) (Nat.le_of_ble_eq_true rfl) rfl (fun k0 C Z => ?_)
  refine x_iload_n C dX5_setSeed_0 rfl ?_
  refine x_iconst (v := 0) C dX5_setSeed_1 (by decide) ?_
  refine x_ldc C kk_X5_118 dX5_setSeed_2 ?_
  refine x_callS C (c_X5_within _ _ _) ks_X5_within kl_X5_30 dX5_setSeed_4 rfl rfl rfl rfl (Nat.le_of_ble_eq_true rfl) (Nat.le_of_ble_eq_true rfl) (Nat.le_of_ble_eq_true rfl) (Nat.le_of_ble_eq_true rfl) (Nat.le_of_ble_eq_true rfl) ?_
  refine x_bne C 13 dX5_setSeed_7 (by decide) (fun h => absurd h hb) (fun _ => ?_)
  refine x_bipush (v := (-2)) C dX5_setSeed_10 (by decide) ?_
  exact x_zret C Z dX5_setSeed_12 rfl (Nat.le_of_ble_eq_true rfl) (Nat.le_of_ble_eq_true rfl) rfl rfl rfl
set_option maxRecDepth 100000 in
set_option maxHeartbeats 1000000 in
theorem c_X5_teach_ok {l : Launch} {E : xEnv} {B N : Nat} {σ : Sg} {M : Nat} {U : Vs} {kp ho tx sc : Fn} {z : Nat} (hz : z ≤ 6) (h0 : sc 0 = nI z) {k : Nat} (hk : k < 8) (hp1 : U 10 k = 1) {mm ww : Nat} (hm : mm < 6) (hw : ww < 14) {x : Int32} (h1 : ¬ x < 0) (h2 : ¬ 99 < x) : xM l yX5_teach cX5_teach 6 (some .int) 2 45 0 0 E B [.ref M, .int (nI k), .int (nI mm), .int (nI ww), .int x] N (mput E σ M U kp ho tx sc) N (mput E σ M (up2 U k (14 * mm + ww) x) kp (rcH ho U z) tx (upd sc 0 (nI (min 6 (z + 1))))) (some (.int (U k (14 * mm + ww)))) := by
  refine xM_of [some (.ref _), some (.int _), some (.int _), some (.int _), some (.int _), none] (by decide +kernel) (Nat.le_of_ble_eq_true rfl) rfl (fun k0 C Z => ?_)
  refine x_aload_n C dX5_teach_0 rfl ?_
  refine x_iload_n C dX5_teach_1 rfl ?_
  refine x_callV C (c_X5_isSpeaker_k hk) kv_X5_isSpeaker kl_X5_45 dX5_teach_2 mput_0 rfl rfl rfl rfl (Nat.le_of_ble_eq_true rfl) (Nat.le_of_ble_eq_true rfl) (Nat.le_of_ble_eq_true rfl) (Nat.le_of_ble_eq_true rfl) (Nat.le_of_ble_eq_true rfl) ?_
  refine x_beq C 22 dX5_teach_5 (by decide) (fun h => absurd hp1 h) (fun _ => ?_)
  refine x_iload_n C dX5_teach_8 rfl ?_
  refine x_callS C (c_X5_isMeaning _) ks_X5_isMeaning kl_X5_80 dX5_teach_9 rfl rfl rfl rfl (Nat.le_of_ble_eq_true rfl) (Nat.le_of_ble_eq_true rfl) (Nat.le_of_ble_eq_true rfl) (Nat.le_of_ble_eq_true rfl) (Nat.le_of_ble_eq_true rfl) ?_
  refine x_beq C 22 dX5_teach_12 (by decide) (fun h => absurd (bd_in (c := 6) hm (by decide)) h) (fun _ => ?_)
  refine x_iload_n C dX5_teach_15 rfl ?_
  refine x_callS C (c_X5_isWord _) ks_X5_isWord kl_X5_119 dX5_teach_16 rfl rfl rfl rfl (Nat.le_of_ble_eq_true rfl) (Nat.le_of_ble_eq_true rfl) (Nat.le_of_ble_eq_true rfl) (Nat.le_of_ble_eq_true rfl) (Nat.le_of_ble_eq_true rfl) ?_
  refine x_bne C 24 dX5_teach_19 (by decide) (fun _ => ?_) (fun h => absurd (bd_in (c := 14) hw (by decide)) h)
  refine x_iload C dX5_teach_24 rfl ?_
  refine x_iconst (v := 0) C dX5_teach_26 (by decide) ?_
  refine x_bipush (v := 99) C dX5_teach_27 (by decide) ?_
  refine x_callS C (c_X5_within _ _ _) ks_X5_within kl_X5_30 dX5_teach_29 rfl rfl rfl rfl (Nat.le_of_ble_eq_true rfl) (Nat.le_of_ble_eq_true rfl) (Nat.le_of_ble_eq_true rfl) (Nat.le_of_ble_eq_true rfl) (Nat.le_of_ble_eq_true rfl) ?_
  refine x_bne C 38 dX5_teach_32 (by decide) (fun _ => ?_) (fun h => absurd ⟨Int32.not_lt.mp h1, Int32.not_lt.mp h2⟩ h)
  refine x_aload_n C dX5_teach_38 rfl ?_
  refine x_callV C (c_X5_record hz h0) kv_X5_record kl_X5_86 dX5_teach_39 mput_0 rfl rfl rfl rfl (Nat.le_of_ble_eq_true rfl) (Nat.le_of_ble_eq_true rfl) (Nat.le_of_ble_eq_true rfl) (Nat.le_of_ble_eq_true rfl) (Nat.le_of_ble_eq_true rfl) ?_
  refine x_aload_n C dX5_teach_42 rfl ?_
  refine x_iload_n C dX5_teach_43 rfl ?_
  refine x_iload_n C dX5_teach_44 rfl ?_
  refine x_iload_n C dX5_teach_45 rfl ?_
  refine x_callV C (c_X5_weightOf hk hm hw) kv_X5_weightOf kl_X5_42 dX5_teach_46 mput_0 rfl rfl rfl rfl (Nat.le_of_ble_eq_true rfl) (Nat.le_of_ble_eq_true rfl) (Nat.le_of_ble_eq_true rfl) (Nat.le_of_ble_eq_true rfl) (Nat.le_of_ble_eq_true rfl) ?_
  refine x_istore C dX5_teach_49 (by decide) rfl ?_
  refine x_aload_n C dX5_teach_51 rfl ?_
  refine x_get C kf_X5_7 mput_0 rfl dX5_teach_52 ?_
  refine x_iload_n C dX5_teach_55 rfl ?_
  refine x_iload_n C dX5_teach_56 rfl ?_
  refine x_iload_n C dX5_teach_57 rfl ?_
  refine x_callS C (c_X5_weightAt k mm ww) ks_X5_weightAt kl_X5_38 dX5_teach_58 rfl rfl rfl rfl (Nat.le_of_ble_eq_true rfl) (Nat.le_of_ble_eq_true rfl) (Nat.le_of_ble_eq_true rfl) (Nat.le_of_ble_eq_true rfl) (Nat.le_of_ble_eq_true rfl) ?_
  refine x_iload C dX5_teach_61 rfl ?_
  refine x_iast2 C mput_1 rfl (by omega) (by decide) (flu_w hk (by omega) _) (mput_st _) dX5_teach_63 ?_
  refine x_iload C dX5_teach_64 rfl ?_
  exact x_zret C Z dX5_teach_66 rfl (Nat.le_of_ble_eq_true rfl) (Nat.le_of_ble_eq_true rfl) rfl rfl rfl
set_option maxRecDepth 100000 in
set_option maxHeartbeats 1000000 in
theorem c_X5_teach_bad {l : Launch} {E : xEnv} {B N : Nat} {σ : Sg} {M : Nat} {U : Vs} {kp ho tx sc : Fn} {k : Nat} (hk : k < 8) (hp1 : U 10 k = 1) {mm ww : Nat} (hm : mm < 6) (hw : ww < 14) {x : Int32} (hb : ¬ (0 ≤ x ∧ x ≤ 99)) : xM l yX5_teach cX5_teach 6 (some .int) 2 45 0 0 E B [.ref M, .int (nI k), .int (nI mm), .int (nI ww), .int x] N (mput E σ M U kp ho tx sc) N (mput E σ M U kp ho tx sc) (some (.int (-2))) := by
  refine xM_of [some (.ref _), some (.int _), some (.int _), some (.int _), some (.int _), none] (by decide +kernel) (Nat.le_of_ble_eq_true rfl) rfl (fun k0 C Z => ?_)
  refine x_aload_n C dX5_teach_0 rfl ?_
  refine x_iload_n C dX5_teach_1 rfl ?_
  refine x_callV C (c_X5_isSpeaker_k hk) kv_X5_isSpeaker kl_X5_45 dX5_teach_2 mput_0 rfl rfl rfl rfl (Nat.le_of_ble_eq_true rfl) (Nat.le_of_ble_eq_true rfl) (Nat.le_of_ble_eq_true rfl) (Nat.le_of_ble_eq_true rfl) (Nat.le_of_ble_eq_true rfl) ?_
  refine x_beq C 22 dX5_teach_5 (by decide) (fun h => absurd hp1 h) (fun _ => ?_)
  refine x_iload_n C dX5_teach_8 rfl ?_
  refine x_callS C (c_X5_isMeaning _) ks_X5_isMeaning kl_X5_80 dX5_teach_9 rfl rfl rfl rfl (Nat.le_of_ble_eq_true rfl) (Nat.le_of_ble_eq_true rfl) (Nat.le_of_ble_eq_true rfl) (Nat.le_of_ble_eq_true rfl) (Nat.le_of_ble_eq_true rfl) ?_
  refine x_beq C 22 dX5_teach_12 (by decide) (fun h => absurd (bd_in (c := 6) hm (by decide)) h) (fun _ => ?_)
  refine x_iload_n C dX5_teach_15 rfl ?_
  refine x_callS C (c_X5_isWord _) ks_X5_isWord kl_X5_119 dX5_teach_16 rfl rfl rfl rfl (Nat.le_of_ble_eq_true rfl) (Nat.le_of_ble_eq_true rfl) (Nat.le_of_ble_eq_true rfl) (Nat.le_of_ble_eq_true rfl) (Nat.le_of_ble_eq_true rfl) ?_
  refine x_bne C 24 dX5_teach_19 (by decide) (fun _ => ?_) (fun h => absurd (bd_in (c := 14) hw (by decide)) h)
  refine x_iload C dX5_teach_24 rfl ?_
  refine x_iconst (v := 0) C dX5_teach_26 (by decide) ?_
  refine x_bipush (v := 99) C dX5_teach_27 (by decide) ?_
  refine x_callS C (c_X5_within _ _ _) ks_X5_within kl_X5_30 dX5_teach_29 rfl rfl rfl rfl (Nat.le_of_ble_eq_true rfl) (Nat.le_of_ble_eq_true rfl) (Nat.le_of_ble_eq_true rfl) (Nat.le_of_ble_eq_true rfl) (Nat.le_of_ble_eq_true rfl) ?_
  refine x_bne C 38 dX5_teach_32 (by decide) (fun h => absurd h hb) (fun _ => ?_)
  refine x_bipush (v := (-2)) C dX5_teach_35 (by decide) ?_
  exact x_zret C Z dX5_teach_37 rfl (Nat.le_of_ble_eq_true rfl) (Nat.le_of_ble_eq_true rfl) rfl rfl rfl
set_option maxRecDepth 100000 in
set_option maxHeartbeats 1000000 in
theorem c_X5_teach_n1 {l : Launch} {E : xEnv} {B N : Nat} {σ : Sg} {M : Nat} {U : Vs} {kp ho tx sc : Fn} {x : Int32} (hno : ¬ ∃ k, k < 8 ∧ x = nI k ∧ U 10 k = 1) {m w v : Int32} : xM l yX5_teach cX5_teach 6 (some .int) 2 45 0 0 E B [.ref M, .int x, .int m, .int w, .int v] N (mput E σ M U kp ho tx sc) N (mput E σ M U kp ho tx sc) (some (.int (-1))) := by
  refine xM_of [some (.ref _), some (.int _), some (.int _), some (.int _), some (.int _), none] (by decide +kernel) (Nat.le_of_ble_eq_true rfl) rfl (fun k0 C Z => ?_)
  refine x_aload_n C dX5_teach_0 rfl ?_
  refine x_iload_n C dX5_teach_1 rfl ?_
  refine x_callV C (c_X5_isSpeaker_no hno) kv_X5_isSpeaker kl_X5_45 dX5_teach_2 mput_0 rfl rfl rfl rfl (Nat.le_of_ble_eq_true rfl) (Nat.le_of_ble_eq_true rfl) (Nat.le_of_ble_eq_true rfl) (Nat.le_of_ble_eq_true rfl) (Nat.le_of_ble_eq_true rfl) ?_
  refine x_if_eq C 22 dX5_teach_5 (by decide) (fun _ => ?_) (fun h => absurd rfl h)
  refine x_iconst (v := (-1)) C dX5_teach_22 (by decide) ?_
  exact x_zret C Z dX5_teach_23 rfl (Nat.le_of_ble_eq_true rfl) (Nat.le_of_ble_eq_true rfl) rfl rfl rfl
set_option maxRecDepth 100000 in
set_option maxHeartbeats 1000000 in
theorem c_X5_teach_n2 {l : Launch} {E : xEnv} {B N : Nat} {σ : Sg} {M : Nat} {U : Vs} {kp ho tx sc : Fn} {k : Nat} (hk : k < 8) (hp1 : U 10 k = 1) {m w v : Int32} (hb : ¬ (0 ≤ m ∧ m < 6)) : xM l yX5_teach cX5_teach 6 (some .int) 2 45 0 0 E B [.ref M, .int (nI k), .int m, .int w, .int v] N (mput E σ M U kp ho tx sc) N (mput E σ M U kp ho tx sc) (some (.int (-1))) := by
  refine xM_of [some (.ref _), some (.int _), some (.int _), some (.int _), some (.int _), none] (by decide +kernel) (Nat.le_of_ble_eq_true rfl) rfl (fun k0 C Z => ?_)
  refine x_aload_n C dX5_teach_0 rfl ?_
  refine x_iload_n C dX5_teach_1 rfl ?_
  refine x_callV C (c_X5_isSpeaker_k hk) kv_X5_isSpeaker kl_X5_45 dX5_teach_2 mput_0 rfl rfl rfl rfl (Nat.le_of_ble_eq_true rfl) (Nat.le_of_ble_eq_true rfl) (Nat.le_of_ble_eq_true rfl) (Nat.le_of_ble_eq_true rfl) (Nat.le_of_ble_eq_true rfl) ?_
  refine x_beq C 22 dX5_teach_5 (by decide) (fun h => absurd hp1 h) (fun _ => ?_)
  refine x_iload_n C dX5_teach_8 rfl ?_
  refine x_callS C (c_X5_isMeaning _) ks_X5_isMeaning kl_X5_80 dX5_teach_9 rfl rfl rfl rfl (Nat.le_of_ble_eq_true rfl) (Nat.le_of_ble_eq_true rfl) (Nat.le_of_ble_eq_true rfl) (Nat.le_of_ble_eq_true rfl) (Nat.le_of_ble_eq_true rfl) ?_
  refine x_beq C 22 dX5_teach_12 (by decide) (fun _ => ?_) (fun h => absurd h hb)
  refine x_iconst (v := (-1)) C dX5_teach_22 (by decide) ?_
  exact x_zret C Z dX5_teach_23 rfl (Nat.le_of_ble_eq_true rfl) (Nat.le_of_ble_eq_true rfl) rfl rfl rfl
set_option maxRecDepth 100000 in
set_option maxHeartbeats 1000000 in
theorem c_X5_teach_n3 {l : Launch} {E : xEnv} {B N : Nat} {σ : Sg} {M : Nat} {U : Vs} {kp ho tx sc : Fn} {k : Nat} (hk : k < 8) (hp1 : U 10 k = 1) {mm : Nat} {w v : Int32} (hm : mm < 6) (hb : ¬ (0 ≤ w ∧ w < 14)) : xM l yX5_teach cX5_teach 6 (some .int) 2 45 0 0 E B [.ref M, .int (nI k), .int (nI mm), .int w, .int v] N (mput E σ M U kp ho tx sc) N (mput E σ M U kp ho tx sc) (some (.int (-1))) := by
  refine xM_of [some (.ref _), some (.int _), some (.int _), some (.int _), some (.int _), none] (by decide +kernel) (Nat.le_of_ble_eq_true rfl) rfl (fun k0 C Z => ?_)
  refine x_aload_n C dX5_teach_0 rfl ?_
  refine x_iload_n C dX5_teach_1 rfl ?_
  refine x_callV C (c_X5_isSpeaker_k hk) kv_X5_isSpeaker kl_X5_45 dX5_teach_2 mput_0 rfl rfl rfl rfl (Nat.le_of_ble_eq_true rfl) (Nat.le_of_ble_eq_true rfl) (Nat.le_of_ble_eq_true rfl) (Nat.le_of_ble_eq_true rfl) (Nat.le_of_ble_eq_true rfl) ?_
  refine x_beq C 22 dX5_teach_5 (by decide) (fun h => absurd hp1 h) (fun _ => ?_)
  refine x_iload_n C dX5_teach_8 rfl ?_
  refine x_callS C (c_X5_isMeaning _) ks_X5_isMeaning kl_X5_80 dX5_teach_9 rfl rfl rfl rfl (Nat.le_of_ble_eq_true rfl) (Nat.le_of_ble_eq_true rfl) (Nat.le_of_ble_eq_true rfl) (Nat.le_of_ble_eq_true rfl) (Nat.le_of_ble_eq_true rfl) ?_
  refine x_beq C 22 dX5_teach_12 (by decide) (fun h => absurd (bd_in (c := 6) hm (by decide)) h) (fun _ => ?_)
  refine x_iload_n C dX5_teach_15 rfl ?_
  refine x_callS C (c_X5_isWord _) ks_X5_isWord kl_X5_119 dX5_teach_16 rfl rfl rfl rfl (Nat.le_of_ble_eq_true rfl) (Nat.le_of_ble_eq_true rfl) (Nat.le_of_ble_eq_true rfl) (Nat.le_of_ble_eq_true rfl) (Nat.le_of_ble_eq_true rfl) ?_
  refine x_bne C 24 dX5_teach_19 (by decide) (fun h => absurd h hb) (fun _ => ?_)
  refine x_iconst (v := (-1)) C dX5_teach_22 (by decide) ?_
  exact x_zret C Z dX5_teach_23 rfl (Nat.le_of_ble_eq_true rfl) (Nat.le_of_ble_eq_true rfl) rfl rfl rfl
set_option maxRecDepth 100000 in
set_option maxHeartbeats 1000000 in
theorem c_X5_setAge_ok {l : Launch} {E : xEnv} {B N : Nat} {σ : Sg} {M : Nat} {U : Vs} {kp ho tx sc : Fn} {z : Nat} (hz : z ≤ 6) (h0 : sc 0 = nI z) {k : Nat} (hk : k < 8) (hp1 : U 10 k = 1) {x : Int32} (h1 : ¬ x < 0) (h2 : ¬ 99 < x) : xM l yX5_setAge cX5_setAge 4 (some .int) 2 45 0 0 E B [.ref M, .int (nI k), .int x] N (mput E σ M U kp ho tx sc) N (mput E σ M (up2 U 11 k x) kp (rcH ho U z) tx (upd sc 0 (nI (min 6 (z + 1))))) (some (.int (U 11 k))) := by
  refine xM_of [some (.ref _), some (.int _), some (.int _), none] (by decide +kernel) (Nat.le_of_ble_eq_true rfl) rfl (fun k0 C Z => ?_)
  refine x_aload_n C dX5_setAge_0 rfl ?_
  refine x_iload_n C dX5_setAge_1 rfl ?_
  refine x_callV C (c_X5_isSpeaker_k hk) kv_X5_isSpeaker kl_X5_45 dX5_setAge_2 mput_0 rfl rfl rfl rfl (Nat.le_of_ble_eq_true rfl) (Nat.le_of_ble_eq_true rfl) (Nat.le_of_ble_eq_true rfl) (Nat.le_of_ble_eq_true rfl) (Nat.le_of_ble_eq_true rfl) ?_
  refine x_bne C 10 dX5_setAge_5 (by decide) (fun _ => ?_) (fun h => absurd hp1 h)
  refine x_iload_n C dX5_setAge_10 rfl ?_
  refine x_iconst (v := 0) C dX5_setAge_11 (by decide) ?_
  refine x_bipush (v := 99) C dX5_setAge_12 (by decide) ?_
  refine x_callS C (c_X5_within _ _ _) ks_X5_within kl_X5_30 dX5_setAge_14 rfl rfl rfl rfl (Nat.le_of_ble_eq_true rfl) (Nat.le_of_ble_eq_true rfl) (Nat.le_of_ble_eq_true rfl) (Nat.le_of_ble_eq_true rfl) (Nat.le_of_ble_eq_true rfl) ?_
  refine x_bne C 23 dX5_setAge_17 (by decide) (fun _ => ?_) (fun h => absurd ⟨Int32.not_lt.mp h1, Int32.not_lt.mp h2⟩ h)
  refine x_aload_n C dX5_setAge_23 rfl ?_
  refine x_callV C (c_X5_record hz h0) kv_X5_record kl_X5_86 dX5_setAge_24 mput_0 rfl rfl rfl rfl (Nat.le_of_ble_eq_true rfl) (Nat.le_of_ble_eq_true rfl) (Nat.le_of_ble_eq_true rfl) (Nat.le_of_ble_eq_true rfl) (Nat.le_of_ble_eq_true rfl) ?_
  refine x_aload_n C dX5_setAge_27 rfl ?_
  refine x_iload_n C dX5_setAge_28 rfl ?_
  refine x_iconst (v := 1) C dX5_setAge_29 (by decide) ?_
  refine x_callV C (c_X5_part1 hk) kv_X5_part kl_X5_34 dX5_setAge_30 mput_0 rfl rfl rfl rfl (Nat.le_of_ble_eq_true rfl) (Nat.le_of_ble_eq_true rfl) (Nat.le_of_ble_eq_true rfl) (Nat.le_of_ble_eq_true rfl) (Nat.le_of_ble_eq_true rfl) ?_
  refine x_istore_n C dX5_setAge_33 (by decide) rfl ?_
  refine x_aload_n C dX5_setAge_34 rfl ?_
  refine x_iload_n C dX5_setAge_35 rfl ?_
  refine x_iconst (v := 1) C dX5_setAge_36 (by decide) ?_
  refine x_iload_n C dX5_setAge_37 rfl ?_
  refine x_callV C (c_X5_setPart1 hk _) kv_X5_setPart kl_X5_77 dX5_setAge_38 mput_0 rfl rfl rfl rfl (Nat.le_of_ble_eq_true rfl) (Nat.le_of_ble_eq_true rfl) (Nat.le_of_ble_eq_true rfl) (Nat.le_of_ble_eq_true rfl) (Nat.le_of_ble_eq_true rfl) ?_
  refine x_iload_n C dX5_setAge_41 rfl ?_
  exact x_zret C Z dX5_setAge_42 rfl (Nat.le_of_ble_eq_true rfl) (Nat.le_of_ble_eq_true rfl) rfl rfl rfl
set_option maxRecDepth 100000 in
set_option maxHeartbeats 1000000 in
theorem c_X5_setAge_bad {l : Launch} {E : xEnv} {B N : Nat} {σ : Sg} {M : Nat} {U : Vs} {kp ho tx sc : Fn} {k : Nat} (hk : k < 8) (hp1 : U 10 k = 1) {x : Int32} (hb : ¬ (0 ≤ x ∧ x ≤ 99)) : xM l yX5_setAge cX5_setAge 4 (some .int) 2 45 0 0 E B [.ref M, .int (nI k), .int x] N (mput E σ M U kp ho tx sc) N (mput E σ M U kp ho tx sc) (some (.int (-2))) := by
  refine xM_of [some (.ref _), some (.int _), some (.int _), none] (by decide +kernel) (Nat.le_of_ble_eq_true rfl) rfl (fun k0 C Z => ?_)
  refine x_aload_n C dX5_setAge_0 rfl ?_
  refine x_iload_n C dX5_setAge_1 rfl ?_
  refine x_callV C (c_X5_isSpeaker_k hk) kv_X5_isSpeaker kl_X5_45 dX5_setAge_2 mput_0 rfl rfl rfl rfl (Nat.le_of_ble_eq_true rfl) (Nat.le_of_ble_eq_true rfl) (Nat.le_of_ble_eq_true rfl) (Nat.le_of_ble_eq_true rfl) (Nat.le_of_ble_eq_true rfl) ?_
  refine x_bne C 10 dX5_setAge_5 (by decide) (fun _ => ?_) (fun h => absurd hp1 h)
  refine x_iload_n C dX5_setAge_10 rfl ?_
  refine x_iconst (v := 0) C dX5_setAge_11 (by decide) ?_
  refine x_bipush (v := 99) C dX5_setAge_12 (by decide) ?_
  refine x_callS C (c_X5_within _ _ _) ks_X5_within kl_X5_30 dX5_setAge_14 rfl rfl rfl rfl (Nat.le_of_ble_eq_true rfl) (Nat.le_of_ble_eq_true rfl) (Nat.le_of_ble_eq_true rfl) (Nat.le_of_ble_eq_true rfl) (Nat.le_of_ble_eq_true rfl) ?_
  refine x_bne C 23 dX5_setAge_17 (by decide) (fun h => absurd h hb) (fun _ => ?_)
  refine x_bipush (v := (-2)) C dX5_setAge_20 (by decide) ?_
  exact x_zret C Z dX5_setAge_22 rfl (Nat.le_of_ble_eq_true rfl) (Nat.le_of_ble_eq_true rfl) rfl rfl rfl
set_option maxRecDepth 100000 in
set_option maxHeartbeats 1000000 in
theorem c_X5_setAge_no {l : Launch} {E : xEnv} {B N : Nat} {σ : Sg} {M : Nat} {U : Vs} {kp ho tx sc : Fn} {x : Int32} (hno : ¬ ∃ k, k < 8 ∧ x = nI k ∧ U 10 k = 1) {v : Int32} : xM l yX5_setAge cX5_setAge 4 (some .int) 2 45 0 0 E B [.ref M, .int x, .int v] N (mput E σ M U kp ho tx sc) N (mput E σ M U kp ho tx sc) (some (.int (-1))) := by
  refine xM_of [some (.ref _), some (.int _), some (.int _), none] (by decide +kernel) (Nat.le_of_ble_eq_true rfl) rfl (fun k0 C Z => ?_)
  refine x_aload_n C dX5_setAge_0 rfl ?_
  refine x_iload_n C dX5_setAge_1 rfl ?_
  refine x_callV C (c_X5_isSpeaker_no hno) kv_X5_isSpeaker kl_X5_45 dX5_setAge_2 mput_0 rfl rfl rfl rfl (Nat.le_of_ble_eq_true rfl) (Nat.le_of_ble_eq_true rfl) (Nat.le_of_ble_eq_true rfl) (Nat.le_of_ble_eq_true rfl) (Nat.le_of_ble_eq_true rfl) ?_
  refine x_if_ne C 10 dX5_setAge_5 (by decide) (fun h => absurd rfl h) (fun _ => ?_)
  refine x_iconst (v := (-1)) C dX5_setAge_8 (by decide) ?_
  exact x_zret C Z dX5_setAge_9 rfl (Nat.le_of_ble_eq_true rfl) (Nat.le_of_ble_eq_true rfl) rfl rfl rfl
set_option maxRecDepth 100000 in
set_option maxHeartbeats 1000000 in
theorem c_X5_meet_ok {l : Launch} {E : xEnv} {B N : Nat} {σ : Sg} {M : Nat} {U : Vs} {kp ho tx sc : Fn} {z : Nat} (hz : z ≤ 6) (h0 : sc 0 = nI z) {k1 : Nat} (hk1 : k1 < 8) (hp1 : U 10 k1 = 1){k2 : Nat} (hk2 : k2 < 8) (hp2 : U 10 k2 = 1) {m : Nat} (hm : m < 6) (hne : k1 ≠ k2) (hs : sok U) : xM l yX5_meet cX5_meet 5 (some .int) 5 118 0 0 E B [.ref M, .int (nI k1), .int (nI k2), .int (nI m)] N (mput E σ M U kp ho tx sc) N (mput E σ M (mtV U k1 k2 m) kp (rcH ho U z) tx (upd (upd (upd sc 0 (nI (min 6 (z + 1)))) 2 (nI (mt1 U k1 k2 m).2.1)) 3 (nI (mt1 U k1 k2 m).2.2))) (some (.int (10 * nI (mt1 U k1 k2 m).2.1 + nI (mt1 U k1 k2 m).2.2))) := by
  refine xM_of [some (.ref _), some (.int _), some (.int _), some (.int _), none] (by decide +kernel) (Nat.le_of_ble_eq_true rfl) rfl (fun k0 C Z => ?_)
  refine x_aload_n C dX5_meet_0 rfl ?_
  refine x_iload_n C dX5_meet_1 rfl ?_
  refine x_iload_n C dX5_meet_2 rfl ?_
  refine x_iload_n C dX5_meet_3 rfl ?_
  refine x_callV C (c_X5_whyNotMet_ok hk1 hp1 hk2 hp2 hm hne) kv_X5_whyNotMet kl_X5_83 dX5_meet_4 mput_0 rfl rfl rfl rfl (Nat.le_of_ble_eq_true rfl) (Nat.le_of_ble_eq_true rfl) (Nat.le_of_ble_eq_true rfl) (Nat.le_of_ble_eq_true rfl) (Nat.le_of_ble_eq_true rfl) ?_
  refine x_istore C dX5_meet_7 (by decide) rfl ?_
  refine x_iload C dX5_meet_9 rfl ?_
  refine x_if_ge C 17 dX5_meet_11 (by decide) (fun _ => ?_) (fun h => absurd (Int32.le_refl _) h)
  refine x_aload_n C dX5_meet_17 rfl ?_
  refine x_callV C (c_X5_record hz h0) kv_X5_record kl_X5_86 dX5_meet_18 mput_0 rfl rfl rfl rfl (Nat.le_of_ble_eq_true rfl) (Nat.le_of_ble_eq_true rfl) (Nat.le_of_ble_eq_true rfl) (Nat.le_of_ble_eq_true rfl) (Nat.le_of_ble_eq_true rfl) ?_
  refine x_aload_n C dX5_meet_21 rfl ?_
  refine x_iload_n C dX5_meet_22 rfl ?_
  refine x_iload_n C dX5_meet_23 rfl ?_
  refine x_iload_n C dX5_meet_24 rfl ?_
  refine x_callV C (c_X5_meets hk1 hk2 hm hs) kv_X5_meets kl_X5_89 dX5_meet_25 mput_0 rfl rfl rfl rfl (Nat.le_of_ble_eq_true rfl) (Nat.le_of_ble_eq_true rfl) (Nat.le_of_ble_eq_true rfl) (Nat.le_of_ble_eq_true rfl) (Nat.le_of_ble_eq_true rfl) ?_
  refine x_pop C dX5_meet_28 rfl ?_
  refine x_bipush (v := 10) C dX5_meet_29 (by decide) ?_
  refine x_aload_n C dX5_meet_31 rfl ?_
  refine x_get C kf_X5_61 mput_0 rfl dX5_meet_32 ?_
  rw [pk_un (by decide), pk_us]
  refine x_imul C dX5_meet_35 ?_
  refine x_aload_n C dX5_meet_36 rfl ?_
  refine x_get C kf_X5_70 mput_0 rfl dX5_meet_37 ?_
  rw [pk_us]
  refine x_iadd C dX5_meet_40 ?_
  exact x_zret C Z dX5_meet_41 rfl (Nat.le_of_ble_eq_true rfl) (Nat.le_of_ble_eq_true rfl) rfl rfl rfl
set_option maxRecDepth 100000 in
set_option maxHeartbeats 1000000 in
theorem c_X5_meet_same {l : Launch} {E : xEnv} {B N : Nat} {σ : Sg} {M : Nat} {U : Vs} {kp ho tx sc : Fn} {k1 : Nat} (hk1 : k1 < 8) (hp1 : U 10 k1 = 1) {m : Nat} (hm : m < 6) : xM l yX5_meet cX5_meet 5 (some .int) 5 118 0 0 E B [.ref M, .int (nI k1), .int (nI k1), .int (nI m)] N (mput E σ M U kp ho tx sc) N (mput E σ M U kp ho tx sc) (some (.int (-3))) := by
  refine xM_of [some (.ref _), some (.int _), some (.int _), some (.int _), none] (by decide +kernel) (Nat.le_of_ble_eq_true rfl) rfl (fun k0 C Z => ?_)
  refine x_aload_n C dX5_meet_0 rfl ?_
  refine x_iload_n C dX5_meet_1 rfl ?_
  refine x_iload_n C dX5_meet_2 rfl ?_
  refine x_iload_n C dX5_meet_3 rfl ?_
  refine x_callV C (c_X5_whyNotMet_same hk1 hp1 hm) kv_X5_whyNotMet kl_X5_83 dX5_meet_4 mput_0 rfl rfl rfl rfl (Nat.le_of_ble_eq_true rfl) (Nat.le_of_ble_eq_true rfl) (Nat.le_of_ble_eq_true rfl) (Nat.le_of_ble_eq_true rfl) (Nat.le_of_ble_eq_true rfl) ?_
  refine x_istore C dX5_meet_7 (by decide) rfl ?_
  refine x_iload C dX5_meet_9 rfl ?_
  refine x_if_ge C 17 dX5_meet_11 (by decide) (fun h => absurd h (by decide)) (fun _ => ?_)
  refine x_iload C dX5_meet_14 rfl ?_
  exact x_zret C Z dX5_meet_16 rfl (Nat.le_of_ble_eq_true rfl) (Nat.le_of_ble_eq_true rfl) rfl rfl rfl
set_option maxRecDepth 100000 in
set_option maxHeartbeats 1000000 in
theorem c_X5_meet_n1 {l : Launch} {E : xEnv} {B N : Nat} {σ : Sg} {M : Nat} {U : Vs} {kp ho tx sc : Fn} {x : Int32} (hno : ¬ ∃ k, k < 8 ∧ x = nI k ∧ U 10 k = 1) {y m : Int32} : xM l yX5_meet cX5_meet 5 (some .int) 5 118 0 0 E B [.ref M, .int x, .int y, .int m] N (mput E σ M U kp ho tx sc) N (mput E σ M U kp ho tx sc) (some (.int (-1))) := by
  refine xM_of [some (.ref _), some (.int _), some (.int _), some (.int _), none] (by decide +kernel) (Nat.le_of_ble_eq_true rfl) rfl (fun k0 C Z => ?_)
  refine x_aload_n C dX5_meet_0 rfl ?_
  refine x_iload_n C dX5_meet_1 rfl ?_
  refine x_iload_n C dX5_meet_2 rfl ?_
  refine x_iload_n C dX5_meet_3 rfl ?_
  refine x_callV C (c_X5_whyNotMet_n1 hno) kv_X5_whyNotMet kl_X5_83 dX5_meet_4 mput_0 rfl rfl rfl rfl (Nat.le_of_ble_eq_true rfl) (Nat.le_of_ble_eq_true rfl) (Nat.le_of_ble_eq_true rfl) (Nat.le_of_ble_eq_true rfl) (Nat.le_of_ble_eq_true rfl) ?_
  refine x_istore C dX5_meet_7 (by decide) rfl ?_
  refine x_iload C dX5_meet_9 rfl ?_
  refine x_if_ge C 17 dX5_meet_11 (by decide) (fun h => absurd h (by decide)) (fun _ => ?_)
  refine x_iload C dX5_meet_14 rfl ?_
  exact x_zret C Z dX5_meet_16 rfl (Nat.le_of_ble_eq_true rfl) (Nat.le_of_ble_eq_true rfl) rfl rfl rfl
set_option maxRecDepth 100000 in
set_option maxHeartbeats 1000000 in
theorem c_X5_meet_n2 {l : Launch} {E : xEnv} {B N : Nat} {σ : Sg} {M : Nat} {U : Vs} {kp ho tx sc : Fn} {k1 : Nat} (hk1 : k1 < 8) (hp1 : U 10 k1 = 1){y : Int32} (hny : ¬ ∃ k, k < 8 ∧ y = nI k ∧ U 10 k = 1) {m : Int32} : xM l yX5_meet cX5_meet 5 (some .int) 5 118 0 0 E B [.ref M, .int (nI k1), .int y, .int m] N (mput E σ M U kp ho tx sc) N (mput E σ M U kp ho tx sc) (some (.int (-1))) := by
  refine xM_of [some (.ref _), some (.int _), some (.int _), some (.int _), none] (by decide +kernel) (Nat.le_of_ble_eq_true rfl) rfl (fun k0 C Z => ?_)
  refine x_aload_n C dX5_meet_0 rfl ?_
  refine x_iload_n C dX5_meet_1 rfl ?_
  refine x_iload_n C dX5_meet_2 rfl ?_
  refine x_iload_n C dX5_meet_3 rfl ?_
  refine x_callV C (c_X5_whyNotMet_n2 hk1 hp1 hny) kv_X5_whyNotMet kl_X5_83 dX5_meet_4 mput_0 rfl rfl rfl rfl (Nat.le_of_ble_eq_true rfl) (Nat.le_of_ble_eq_true rfl) (Nat.le_of_ble_eq_true rfl) (Nat.le_of_ble_eq_true rfl) (Nat.le_of_ble_eq_true rfl) ?_
  refine x_istore C dX5_meet_7 (by decide) rfl ?_
  refine x_iload C dX5_meet_9 rfl ?_
  refine x_if_ge C 17 dX5_meet_11 (by decide) (fun h => absurd h (by decide)) (fun _ => ?_)
  refine x_iload C dX5_meet_14 rfl ?_
  exact x_zret C Z dX5_meet_16 rfl (Nat.le_of_ble_eq_true rfl) (Nat.le_of_ble_eq_true rfl) rfl rfl rfl
set_option maxRecDepth 100000 in
set_option maxHeartbeats 1000000 in
theorem c_X5_meet_n3 {l : Launch} {E : xEnv} {B N : Nat} {σ : Sg} {M : Nat} {U : Vs} {kp ho tx sc : Fn} {k1 : Nat} (hk1 : k1 < 8) (hp1 : U 10 k1 = 1){k2 : Nat} (hk2 : k2 < 8) (hp2 : U 10 k2 = 1) {m : Int32} (hb : ¬ (0 ≤ m ∧ m < 6)) : xM l yX5_meet cX5_meet 5 (some .int) 5 118 0 0 E B [.ref M, .int (nI k1), .int (nI k2), .int m] N (mput E σ M U kp ho tx sc) N (mput E σ M U kp ho tx sc) (some (.int (-1))) := by
  refine xM_of [some (.ref _), some (.int _), some (.int _), some (.int _), none] (by decide +kernel) (Nat.le_of_ble_eq_true rfl) rfl (fun k0 C Z => ?_)
  refine x_aload_n C dX5_meet_0 rfl ?_
  refine x_iload_n C dX5_meet_1 rfl ?_
  refine x_iload_n C dX5_meet_2 rfl ?_
  refine x_iload_n C dX5_meet_3 rfl ?_
  refine x_callV C (c_X5_whyNotMet_n3 hk1 hp1 hk2 hp2 hb) kv_X5_whyNotMet kl_X5_83 dX5_meet_4 mput_0 rfl rfl rfl rfl (Nat.le_of_ble_eq_true rfl) (Nat.le_of_ble_eq_true rfl) (Nat.le_of_ble_eq_true rfl) (Nat.le_of_ble_eq_true rfl) (Nat.le_of_ble_eq_true rfl) ?_
  refine x_istore C dX5_meet_7 (by decide) rfl ?_
  refine x_iload C dX5_meet_9 rfl ?_
  refine x_if_ge C 17 dX5_meet_11 (by decide) (fun h => absurd h (by decide)) (fun _ => ?_)
  refine x_iload C dX5_meet_14 rfl ?_
  exact x_zret C Z dX5_meet_16 rfl (Nat.le_of_ble_eq_true rfl) (Nat.le_of_ble_eq_true rfl) rfl rfl rfl
set_option maxRecDepth 100000 in
set_option maxHeartbeats 1000000 in
theorem c_X5_chat_ok {l : Launch} {E : xEnv} {B N : Nat} {σ : Sg} {M : Nat} {U : Vs} {kp ho tx sc : Fn} {z : Nat} (hz : z ≤ 6) (h0 : sc 0 = nI z) {q : Nat} (h1 : 1 ≤ q) (h2 : q ≤ 200) {c : Nat} (hc : cnN (U 10) 8 = c) (hc2 : 2 ≤ c) (hs : sok U) : xM l yX5_chat cX5_chat 3 (some .int) 6 145 0 0 E B [.ref M, .int (nI q)] N (mput E σ M U kp ho tx sc) N (mput E σ M (chL U c q) kp (rcH ho U z) tx (scC U c (upd sc 0 (nI (min 6 (z + 1)))) q)) (some (.int (chL U c q 9 2 - U 9 2))) := by
  refine xM_of [some (.ref _), some (.int _), none] (by decide +kernel) (Nat.le_of_ble_eq_true rfl) rfl (fun k0 C Z => ?_)
  refine x_aload_n C dX5_chat_0 rfl ?_
  refine x_iload_n C dX5_chat_1 rfl ?_
  refine x_callV C (c_X5_whyNotChat_ok h1 h2 (by rw [hc]; exact hc2)) kv_X5_whyNotChat kl_X5_99 dX5_chat_2 mput_0 rfl rfl rfl rfl (Nat.le_of_ble_eq_true rfl) (Nat.le_of_ble_eq_true rfl) (Nat.le_of_ble_eq_true rfl) (Nat.le_of_ble_eq_true rfl) (Nat.le_of_ble_eq_true rfl) ?_
  refine x_istore_n C dX5_chat_5 (by decide) rfl ?_
  refine x_iload_n C dX5_chat_6 rfl ?_
  refine x_if_ge C 12 dX5_chat_7 (by decide) (fun _ => ?_) (fun h => absurd (Int32.le_refl _) h)
  refine x_aload_n C dX5_chat_12 rfl ?_
  refine x_callV C (c_X5_record hz h0) kv_X5_record kl_X5_86 dX5_chat_13 mput_0 rfl rfl rfl rfl (Nat.le_of_ble_eq_true rfl) (Nat.le_of_ble_eq_true rfl) (Nat.le_of_ble_eq_true rfl) (Nat.le_of_ble_eq_true rfl) (Nat.le_of_ble_eq_true rfl) ?_
  refine x_aload_n C dX5_chat_16 rfl ?_
  refine x_iload_n C dX5_chat_17 rfl ?_
  refine x_callV C (c_X5_chats (by omega) hc hc2 hs) kv_X5_chats kl_X5_102 dX5_chat_18 mput_0 rfl rfl rfl rfl (Nat.le_of_ble_eq_true rfl) (Nat.le_of_ble_eq_true rfl) (Nat.le_of_ble_eq_true rfl) (Nat.le_of_ble_eq_true rfl) (Nat.le_of_ble_eq_true rfl) ?_
  exact x_zret C Z dX5_chat_21 rfl (Nat.le_of_ble_eq_true rfl) (Nat.le_of_ble_eq_true rfl) rfl rfl rfl
set_option maxRecDepth 100000 in
set_option maxHeartbeats 1000000 in
theorem c_X5_chat_few {l : Launch} {E : xEnv} {B N : Nat} {σ : Sg} {M : Nat} {U : Vs} {kp ho tx sc : Fn} {q : Nat} (h1 : 1 ≤ q) (h2 : q ≤ 200) (hc : ¬ 2 ≤ cnN (U 10) 8) : xM l yX5_chat cX5_chat 3 (some .int) 6 145 0 0 E B [.ref M, .int (nI q)] N (mput E σ M U kp ho tx sc) N (mput E σ M U kp ho tx sc) (some (.int (-3))) := by
  refine xM_of [some (.ref _), some (.int _), none] (by decide +kernel) (Nat.le_of_ble_eq_true rfl) rfl (fun k0 C Z => ?_)
  refine x_aload_n C dX5_chat_0 rfl ?_
  refine x_iload_n C dX5_chat_1 rfl ?_
  refine x_callV C (c_X5_whyNotChat_few h1 h2 hc) kv_X5_whyNotChat kl_X5_99 dX5_chat_2 mput_0 rfl rfl rfl rfl (Nat.le_of_ble_eq_true rfl) (Nat.le_of_ble_eq_true rfl) (Nat.le_of_ble_eq_true rfl) (Nat.le_of_ble_eq_true rfl) (Nat.le_of_ble_eq_true rfl) ?_
  refine x_istore_n C dX5_chat_5 (by decide) rfl ?_
  refine x_iload_n C dX5_chat_6 rfl ?_
  refine x_if_ge C 12 dX5_chat_7 (by decide) (fun h => absurd h (by decide)) (fun _ => ?_)
  refine x_iload_n C dX5_chat_10 rfl ?_
  exact x_zret C Z dX5_chat_11 rfl (Nat.le_of_ble_eq_true rfl) (Nat.le_of_ble_eq_true rfl) rfl rfl rfl
set_option maxRecDepth 100000 in
set_option maxHeartbeats 1000000 in
theorem c_X5_chat_bad {l : Launch} {E : xEnv} {B N : Nat} {σ : Sg} {M : Nat} {U : Vs} {kp ho tx sc : Fn} {x : Int32} (hb : ¬ (1 ≤ x ∧ x ≤ 200)) : xM l yX5_chat cX5_chat 3 (some .int) 6 145 0 0 E B [.ref M, .int x] N (mput E σ M U kp ho tx sc) N (mput E σ M U kp ho tx sc) (some (.int (-2))) := by
  refine xM_of [some (.ref _), some (.int _), none] (by decide +kernel) (Nat.le_of_ble_eq_true rfl) rfl (fun k0 C Z => ?_)
  refine x_aload_n C dX5_chat_0 rfl ?_
  refine x_iload_n C dX5_chat_1 rfl ?_
  refine x_callV C (c_X5_whyNotChat_bad hb) kv_X5_whyNotChat kl_X5_99 dX5_chat_2 mput_0 rfl rfl rfl rfl (Nat.le_of_ble_eq_true rfl) (Nat.le_of_ble_eq_true rfl) (Nat.le_of_ble_eq_true rfl) (Nat.le_of_ble_eq_true rfl) (Nat.le_of_ble_eq_true rfl) ?_
  refine x_istore_n C dX5_chat_5 (by decide) rfl ?_
  refine x_iload_n C dX5_chat_6 rfl ?_
  refine x_if_ge C 12 dX5_chat_7 (by decide) (fun h => absurd h (by decide)) (fun _ => ?_)
  refine x_iload_n C dX5_chat_10 rfl ?_
  exact x_zret C Z dX5_chat_11 rfl (Nat.le_of_ble_eq_true rfl) (Nat.le_of_ble_eq_true rfl) rfl rfl rfl
set_option maxRecDepth 100000 in
set_option maxHeartbeats 1000000 in
theorem c_X5_ifChat_few {l : Launch} {E : xEnv} {B N : Nat} {σ : Sg} {M : Nat} {U : Vs} {kp ho tx sc : Fn} {q : Nat} (h1 : 1 ≤ q) (h2 : q ≤ 200) (hc : ¬ 2 ≤ cnN (U 10) 8) : xM l yX5_ifChat cX5_ifChat 4 (some .int) 6 145 0 0 E B [.ref M, .int (nI q)] N (mput E σ M U kp ho tx sc) N (mput E σ M U kp ho tx sc) (some (.int (-3))) := by
  refine xM_of [some (.ref _), some (.int _), none, none] (by decide +kernel) (Nat.le_of_ble_eq_true rfl) rfl (fun k0 C Z => ?_)
  refine x_aload_n C dX5_ifChat_0 rfl ?_
  refine x_iload_n C dX5_ifChat_1 rfl ?_
  refine x_callV C (c_X5_whyNotChat_few h1 h2 hc) kv_X5_whyNotChat kl_X5_99 dX5_ifChat_2 mput_0 rfl rfl rfl rfl (Nat.le_of_ble_eq_true rfl) (Nat.le_of_ble_eq_true rfl) (Nat.le_of_ble_eq_true rfl) (Nat.le_of_ble_eq_true rfl) (Nat.le_of_ble_eq_true rfl) ?_
  refine x_istore_n C dX5_ifChat_5 (by decide) rfl ?_
  refine x_iload_n C dX5_ifChat_6 rfl ?_
  refine x_if_ge C 12 dX5_ifChat_7 (by decide) (fun h => absurd h (by decide)) (fun _ => ?_)
  refine x_iload_n C dX5_ifChat_10 rfl ?_
  exact x_zret C Z dX5_ifChat_11 rfl (Nat.le_of_ble_eq_true rfl) (Nat.le_of_ble_eq_true rfl) rfl rfl rfl
set_option maxRecDepth 100000 in
set_option maxHeartbeats 1000000 in
theorem c_X5_ifChat_bad {l : Launch} {E : xEnv} {B N : Nat} {σ : Sg} {M : Nat} {U : Vs} {kp ho tx sc : Fn} {x : Int32} (hb : ¬ (1 ≤ x ∧ x ≤ 200)) : xM l yX5_ifChat cX5_ifChat 4 (some .int) 6 145 0 0 E B [.ref M, .int x] N (mput E σ M U kp ho tx sc) N (mput E σ M U kp ho tx sc) (some (.int (-2))) := by
  refine xM_of [some (.ref _), some (.int _), none, none] (by decide +kernel) (Nat.le_of_ble_eq_true rfl) rfl (fun k0 C Z => ?_)
  refine x_aload_n C dX5_ifChat_0 rfl ?_
  refine x_iload_n C dX5_ifChat_1 rfl ?_
  refine x_callV C (c_X5_whyNotChat_bad hb) kv_X5_whyNotChat kl_X5_99 dX5_ifChat_2 mput_0 rfl rfl rfl rfl (Nat.le_of_ble_eq_true rfl) (Nat.le_of_ble_eq_true rfl) (Nat.le_of_ble_eq_true rfl) (Nat.le_of_ble_eq_true rfl) (Nat.le_of_ble_eq_true rfl) ?_
  refine x_istore_n C dX5_ifChat_5 (by decide) rfl ?_
  refine x_iload_n C dX5_ifChat_6 rfl ?_
  refine x_if_ge C 12 dX5_ifChat_7 (by decide) (fun h => absurd h (by decide)) (fun _ => ?_)
  refine x_iload_n C dX5_ifChat_10 rfl ?_
  exact x_zret C Z dX5_ifChat_11 rfl (Nat.le_of_ble_eq_true rfl) (Nat.le_of_ble_eq_true rfl) rfl rfl rfl
set_option maxRecDepth 100000 in
set_option maxHeartbeats 1000000 in
theorem c_X5_ifChat_ok {l : Launch} {E : xEnv} {B N : Nat} {σ : Sg} {M : Nat} {U : Vs} {kp ho tx sc : Fn} {q : Nat} (h1 : 1 ≤ q) (h2 : q ≤ 200) {c : Nat} (hc : cnN (U 10) 8 = c) (hc2 : 2 ≤ c) (hs : sok U) : xM l yX5_ifChat cX5_ifChat 4 (some .int) 6 145 0 0 E B [.ref M, .int (nI q)] N (mput E σ M U kp ho tx sc) N (mput E σ M U (cpA kp (flat U) 0 0 705) ho tx (scC U c sc q)) (some (.int (chL U c q 9 2 - U 9 2))) := by
  refine xM_of [some (.ref _), some (.int _), none, none] (by decide +kernel) (Nat.le_of_ble_eq_true rfl) rfl (fun k0 C Z => ?_)
  refine x_aload_n C dX5_ifChat_0 rfl ?_
  refine x_iload_n C dX5_ifChat_1 rfl ?_
  refine x_callV C (c_X5_whyNotChat_ok h1 h2 (by rw [hc]; exact hc2)) kv_X5_whyNotChat kl_X5_99 dX5_ifChat_2 mput_0 rfl rfl rfl rfl (Nat.le_of_ble_eq_true rfl) (Nat.le_of_ble_eq_true rfl) (Nat.le_of_ble_eq_true rfl) (Nat.le_of_ble_eq_true rfl) (Nat.le_of_ble_eq_true rfl) ?_
  refine x_istore_n C dX5_ifChat_5 (by decide) rfl ?_
  refine x_iload_n C dX5_ifChat_6 rfl ?_
  refine x_if_ge C 12 dX5_ifChat_7 (by decide) (fun _ => ?_) (fun h => absurd (Int32.le_refl _) h)
  refine x_aload_n C dX5_ifChat_12 rfl ?_
  refine x_get C kf_X5_7 mput_0 rfl dX5_ifChat_13 ?_
  refine x_iconst (v := 0) C dX5_ifChat_16 (by decide) ?_
  refine x_aload_n C dX5_ifChat_17 rfl ?_
  refine x_get C kf_X5_13 mput_0 rfl dX5_ifChat_18 ?_
  refine x_iconst (v := 0) C dX5_ifChat_21 (by decide) ?_
  refine x_callS C (c_X5_copies (f0 := 0) (t0 := 0) mput_1 mput_2 (by omega) (by omega) (by omega) (by decide) (by decide) (fun _ _ => rfl) (mput_kp _)) ks_X5_copies kl_X5_26 dX5_ifChat_22 rfl rfl rfl rfl (Nat.le_of_ble_eq_true rfl) (Nat.le_of_ble_eq_true rfl) (Nat.le_of_ble_eq_true rfl) (Nat.le_of_ble_eq_true rfl) (Nat.le_of_ble_eq_true rfl) ?_
  refine x_aload_n C dX5_ifChat_25 rfl ?_
  refine x_iload_n C dX5_ifChat_26 rfl ?_
  refine x_callV C (c_X5_chats (by omega) hc hc2 hs) kv_X5_chats kl_X5_102 dX5_ifChat_27 mput_0 rfl rfl rfl rfl (Nat.le_of_ble_eq_true rfl) (Nat.le_of_ble_eq_true rfl) (Nat.le_of_ble_eq_true rfl) (Nat.le_of_ble_eq_true rfl) (Nat.le_of_ble_eq_true rfl) ?_
  refine x_istore_n C dX5_ifChat_30 (by decide) rfl ?_
  refine x_aload_n C dX5_ifChat_31 rfl ?_
  refine x_get C kf_X5_13 mput_0 rfl dX5_ifChat_32 ?_
  refine x_iconst (v := 0) C dX5_ifChat_35 (by decide) ?_
  refine x_aload_n C dX5_ifChat_36 rfl ?_
  refine x_get C kf_X5_7 mput_0 rfl dX5_ifChat_37 ?_
  refine x_iconst (v := 0) C dX5_ifChat_40 (by decide) ?_
  refine x_callS C (c_X5_copies (f0 := 0) (t0 := 0) mput_2 mput_1 (by omega) (by omega) (by omega) (by decide) (by decide) (fun j hj => cpA_b hj) (mput_st U)) ks_X5_copies kl_X5_26 dX5_ifChat_41 rfl rfl rfl rfl (Nat.le_of_ble_eq_true rfl) (Nat.le_of_ble_eq_true rfl) (Nat.le_of_ble_eq_true rfl) (Nat.le_of_ble_eq_true rfl) (Nat.le_of_ble_eq_true rfl) ?_
  refine x_iload_n C dX5_ifChat_44 rfl ?_
  exact x_zret C Z dX5_ifChat_45 rfl (Nat.le_of_ble_eq_true rfl) (Nat.le_of_ble_eq_true rfl) rfl rfl rfl
set_option maxRecDepth 100000 in
set_option maxHeartbeats 1000000 in
theorem c_X5_age_ok {l : Launch} {E : xEnv} {B N : Nat} {σ : Sg} {M : Nat} {U : Vs} {kp ho tx sc : Fn} {z : Nat} (hz : z ≤ 6) (h0 : sc 0 = nI z) {q : Nat} (h1 : 1 ≤ q) (h2 : q ≤ 99) (hr : rgW U) : xM l yX5_age cX5_age 4 (some .int) 5 112 0 0 E B [.ref M, .int (nI q)] N (mput E σ M U kp ho tx sc) N (mput E σ M (yrL U q) kp (rcH ho U z) tx (upd sc 0 (nI (min 6 (z + 1))))) (some (.int (yrL U q 9 3 - U 9 3))) := by
  refine xM_of [some (.ref _), some (.int _), none, none] (by decide +kernel) (Nat.le_of_ble_eq_true rfl) rfl (fun k0 C Z => ?_)
  have hl : ∀ i, i ≤ q → xX k0 N 0 0 (mput E σ M (yrL U i) kp (rcH ho U z) tx (upd sc 0 (nI (min 6 (z + 1))))) 26 [some (.ref M), some (.int (nI q)), some (.int (U 9 3)), some (.int (nI i))] [] := by
    refine x_for q ?_ ?_
    · refine x_iload_n C dX5_age_26 rfl ?_
      refine x_iload_n C dX5_age_27 rfl ?_
      refine x_ic_ge C 41 dX5_age_28 (by decide) (fun _ => ?_) (fun h => absurd (nI_le (Nat.le_refl _) (by omega)) h)
      refine x_aload_n C dX5_age_41 rfl ?_
      refine x_get C kf_X5_7 mput_0 rfl dX5_age_42 ?_
      refine x_iconst (v := 3) C dX5_age_45 (by decide) ?_
      refine x_iald2 C mput_1 rfl (by decide) (by decide) dX5_age_46 ?_
      rw [fl_9 (j := 3) (by decide)]
      refine x_iload_n C dX5_age_47 rfl ?_
      refine x_isub C dX5_age_48 ?_
      exact x_zret C Z dX5_age_49 rfl (Nat.le_of_ble_eq_true rfl) (Nat.le_of_ble_eq_true rfl) rfl rfl rfl
    · intro i hi ih
      refine x_iload_n C dX5_age_26 rfl ?_
      refine x_iload_n C dX5_age_27 rfl ?_
      refine x_ic_ge C 41 dX5_age_28 (by decide) (fun h => absurd h (nI_ge hi (by omega))) (fun _ => ?_)
      refine x_aload_n C dX5_age_31 rfl ?_
      refine x_callV C (c_X5_passesYear (yrL_rg hr i)) kv_X5_passesYear kl_X5_112 dX5_age_32 mput_0 rfl rfl rfl rfl (Nat.le_of_ble_eq_true rfl) (Nat.le_of_ble_eq_true rfl) (Nat.le_of_ble_eq_true rfl) (Nat.le_of_ble_eq_true rfl) (Nat.le_of_ble_eq_true rfl) ?_
      refine x_iinc C dX5_age_35 rfl (nI_inc _) (by decide) rfl ?_
      refine x_goto C 26 dX5_age_38 (by decide) ?_
      refine xX.cl ih rfl (And.intro rfl (And.intro rfl (And.intro rfl (And.intro rfl trivial)))) rfl
  refine x_iload_n C dX5_age_0 rfl ?_
  refine x_iconst (v := 1) C dX5_age_1 (by decide) ?_
  refine x_bipush (v := 99) C dX5_age_2 (by decide) ?_
  refine x_callS C (c_X5_within _ _ _) ks_X5_within kl_X5_30 dX5_age_4 rfl rfl rfl rfl (Nat.le_of_ble_eq_true rfl) (Nat.le_of_ble_eq_true rfl) (Nat.le_of_ble_eq_true rfl) (Nat.le_of_ble_eq_true rfl) (Nat.le_of_ble_eq_true rfl) ?_
  refine x_bne C 13 dX5_age_7 (by decide) (fun _ => ?_) (fun h => absurd ⟨nI_le (a := 1) h1 (by omega), nI_le (b := 99) h2 (by omega)⟩ h)
  refine x_aload_n C dX5_age_13 rfl ?_
  refine x_callV C (c_X5_record hz h0) kv_X5_record kl_X5_86 dX5_age_14 mput_0 rfl rfl rfl rfl (Nat.le_of_ble_eq_true rfl) (Nat.le_of_ble_eq_true rfl) (Nat.le_of_ble_eq_true rfl) (Nat.le_of_ble_eq_true rfl) (Nat.le_of_ble_eq_true rfl) ?_
  refine x_aload_n C dX5_age_17 rfl ?_
  refine x_get C kf_X5_7 mput_0 rfl dX5_age_18 ?_
  refine x_iconst (v := 3) C dX5_age_21 (by decide) ?_
  refine x_iald2 C mput_1 rfl (by decide) (by decide) dX5_age_22 ?_
  rw [fl_9 (j := 3) (by decide)]
  refine x_istore_n C dX5_age_23 (by decide) rfl ?_
  refine x_iconst (v := 0) C dX5_age_24 (by decide) ?_
  refine x_istore_n C dX5_age_25 (by decide) rfl ?_
  refine xX.cl (hl 0 (by omega)) rfl (And.intro rfl (And.intro rfl (And.intro rfl (And.intro rfl trivial)))) rfl
set_option maxRecDepth 100000 in
set_option maxHeartbeats 1000000 in
theorem c_X5_age_bad {l : Launch} {E : xEnv} {B N : Nat} {σ : Sg} {M : Nat} {U : Vs} {kp ho tx sc : Fn} {x : Int32} (hb : ¬ (1 ≤ x ∧ x ≤ 99)) : xM l yX5_age cX5_age 4 (some .int) 5 112 0 0 E B [.ref M, .int x] N (mput E σ M U kp ho tx sc) N (mput E σ M U kp ho tx sc) (some (.int (-2))) := by
  refine xM_of [some (.ref _), some (.int _), none, none] (by decide +kernel) (Nat.le_of_ble_eq_true rfl) rfl (fun k0 C Z => ?_)
  refine x_iload_n C dX5_age_0 rfl ?_
  refine x_iconst (v := 1) C dX5_age_1 (by decide) ?_
  refine x_bipush (v := 99) C dX5_age_2 (by decide) ?_
  refine x_callS C (c_X5_within _ _ _) ks_X5_within kl_X5_30 dX5_age_4 rfl rfl rfl rfl (Nat.le_of_ble_eq_true rfl) (Nat.le_of_ble_eq_true rfl) (Nat.le_of_ble_eq_true rfl) (Nat.le_of_ble_eq_true rfl) (Nat.le_of_ble_eq_true rfl) ?_
  refine x_bne C 13 dX5_age_7 (by decide) (fun h => absurd h hb) (fun _ => ?_)
  refine x_bipush (v := (-2)) C dX5_age_10 (by decide) ?_
  exact x_zret C Z dX5_age_12 rfl (Nat.le_of_ble_eq_true rfl) (Nat.le_of_ble_eq_true rfl) rfl rfl rfl
set_option maxRecDepth 100000 in
set_option maxHeartbeats 1000000 in
theorem c_X5_ifMet_ok {l : Launch} {E : xEnv} {B N : Nat} {σ : Sg} {M : Nat} {U : Vs} {kp ho tx sc : Fn} {k1 : Nat} (hk1 : k1 < 8) (hp1 : U 10 k1 = 1){k2 : Nat} (hk2 : k2 < 8) (hp2 : U 10 k2 = 1) {m j : Nat} (hm : m < 6) (hj : j < 4) (hne : k1 ≠ k2) (hs : sok U) : xM l yX5_ifMet cX5_ifMet 8 (some .int) 5 118 0 0 E B [.ref M, .int (nI k1), .int (nI k2), .int (nI m), .int (nI j)] N (mput E σ M U kp ho tx sc) N (mput E σ M U (cpA kp (flat U) 0 0 705) ho tx (upd (upd sc 2 (nI (mt1 U k1 k2 m).2.1)) 3 (nI (mt1 U k1 k2 m).2.2))) (some (.int (imS U k1 k2 m j))) := by
  rcases (show j = 0 ∨ j = 1 ∨ j = 2 ∨ j = 3 by omega) with rfl | rfl | rfl | rfl
  · refine xM_of [some (.ref _), some (.int _), some (.int _), some (.int _), some (.int _), none, none, none] (by decide +kernel) (Nat.le_of_ble_eq_true rfl) rfl (fun k0 C Z => ?_)
    refine x_aload_n C dX5_ifMet_0 rfl ?_
    refine x_iload_n C dX5_ifMet_1 rfl ?_
    refine x_iload_n C dX5_ifMet_2 rfl ?_
    refine x_iload_n C dX5_ifMet_3 rfl ?_
    refine x_callV C (c_X5_whyNotMet_ok hk1 hp1 hk2 hp2 hm hne) kv_X5_whyNotMet kl_X5_83 dX5_ifMet_4 mput_0 rfl rfl rfl rfl (Nat.le_of_ble_eq_true rfl) (Nat.le_of_ble_eq_true rfl) (Nat.le_of_ble_eq_true rfl) (Nat.le_of_ble_eq_true rfl) (Nat.le_of_ble_eq_true rfl) ?_
    refine x_istore C dX5_ifMet_7 (by decide) rfl ?_
    refine x_iload C dX5_ifMet_9 rfl ?_
    refine x_iconst (v := (-1)) C dX5_ifMet_11 (by decide) ?_
    refine x_ic_ne C 17 dX5_ifMet_12 (by decide) (fun _ => ?_) (fun h => absurd h (by decide))
    refine x_iload C dX5_ifMet_17 rfl ?_
    refine x_iconst (v := 0) C dX5_ifMet_19 (by decide) ?_
    refine x_iconst (v := 3) C dX5_ifMet_20 (by decide) ?_
    refine x_callS C (c_X5_within _ _ _) ks_X5_within kl_X5_30 dX5_ifMet_21 rfl rfl rfl rfl (Nat.le_of_ble_eq_true rfl) (Nat.le_of_ble_eq_true rfl) (Nat.le_of_ble_eq_true rfl) (Nat.le_of_ble_eq_true rfl) (Nat.le_of_ble_eq_true rfl) ?_
    refine x_bne C 30 dX5_ifMet_24 (by decide) (fun _ => ?_) (fun h => absurd ⟨nI_pos' (by omega), nI_le (b := 3) (by omega) (by omega)⟩ h)
    refine x_iload C dX5_ifMet_30 rfl ?_
    refine x_if_ge C 38 dX5_ifMet_32 (by decide) (fun _ => ?_) (fun h => absurd (Int32.le_refl _) h)
    refine x_aload_n C dX5_ifMet_38 rfl ?_
    refine x_get C kf_X5_7 mput_0 rfl dX5_ifMet_39 ?_
    refine x_iconst (v := 0) C dX5_ifMet_42 (by decide) ?_
    refine x_aload_n C dX5_ifMet_43 rfl ?_
    refine x_get C kf_X5_13 mput_0 rfl dX5_ifMet_44 ?_
    refine x_iconst (v := 0) C dX5_ifMet_47 (by decide) ?_
    refine x_callS C (c_X5_copies (f0 := 0) (t0 := 0) mput_1 mput_2 (by omega) (by omega) (by omega) (by decide) (by decide) (fun _ _ => rfl) (mput_kp _)) ks_X5_copies kl_X5_26 dX5_ifMet_48 rfl rfl rfl rfl (Nat.le_of_ble_eq_true rfl) (Nat.le_of_ble_eq_true rfl) (Nat.le_of_ble_eq_true rfl) (Nat.le_of_ble_eq_true rfl) (Nat.le_of_ble_eq_true rfl) ?_
    refine x_aload_n C dX5_ifMet_51 rfl ?_
    refine x_iload_n C dX5_ifMet_52 rfl ?_
    refine x_iload_n C dX5_ifMet_53 rfl ?_
    refine x_iload_n C dX5_ifMet_54 rfl ?_
    refine x_callV C (c_X5_meets hk1 hk2 hm hs) kv_X5_meets kl_X5_89 dX5_ifMet_55 mput_0 rfl rfl rfl rfl (Nat.le_of_ble_eq_true rfl) (Nat.le_of_ble_eq_true rfl) (Nat.le_of_ble_eq_true rfl) (Nat.le_of_ble_eq_true rfl) (Nat.le_of_ble_eq_true rfl) ?_
    refine x_istore C dX5_ifMet_58 (by decide) rfl ?_
    refine x_aload_n C dX5_ifMet_60 rfl ?_
    refine x_iload_n C dX5_ifMet_61 rfl ?_
    refine x_iload_n C dX5_ifMet_62 rfl ?_
    refine x_callV C (c_X5_agreements hk1 hk2) kv_X5_agreements kl_X5_137 dX5_ifMet_63 mput_0 rfl rfl rfl rfl (Nat.le_of_ble_eq_true rfl) (Nat.le_of_ble_eq_true rfl) (Nat.le_of_ble_eq_true rfl) (Nat.le_of_ble_eq_true rfl) (Nat.le_of_ble_eq_true rfl) ?_
    refine x_istore C dX5_ifMet_66 (by decide) rfl ?_
    refine x_aload_n C dX5_ifMet_68 rfl ?_
    refine x_get C kf_X5_13 mput_0 rfl dX5_ifMet_69 ?_
    refine x_iconst (v := 0) C dX5_ifMet_72 (by decide) ?_
    refine x_aload_n C dX5_ifMet_73 rfl ?_
    refine x_get C kf_X5_7 mput_0 rfl dX5_ifMet_74 ?_
    refine x_iconst (v := 0) C dX5_ifMet_77 (by decide) ?_
    refine x_callS C (c_X5_copies (f0 := 0) (t0 := 0) mput_2 mput_1 (by omega) (by omega) (by omega) (by decide) (by decide) (fun j hj => cpA_b hj) (mput_st U)) ks_X5_copies kl_X5_26 dX5_ifMet_78 rfl rfl rfl rfl (Nat.le_of_ble_eq_true rfl) (Nat.le_of_ble_eq_true rfl) (Nat.le_of_ble_eq_true rfl) (Nat.le_of_ble_eq_true rfl) (Nat.le_of_ble_eq_true rfl) ?_
    refine x_iload C dX5_ifMet_81 rfl ?_
    refine x_if_ne C 93 dX5_ifMet_83 (by decide) (fun h => absurd (by decide) h) (fun _ => ?_)
    refine x_aload_n C dX5_ifMet_86 rfl ?_
    refine x_get C kf_X5_61 mput_0 rfl dX5_ifMet_87 ?_
    refine x_goto C 127 dX5_ifMet_90 (by decide) ?_
    exact x_zret C Z dX5_ifMet_127 rfl (Nat.le_of_ble_eq_true rfl) (Nat.le_of_ble_eq_true rfl) rfl rfl ((pk_un (by decide)).trans (pk_us.trans imS_0.symm))
  · refine xM_of [some (.ref _), some (.int _), some (.int _), some (.int _), some (.int _), none, none, none] (by decide +kernel) (Nat.le_of_ble_eq_true rfl) rfl (fun k0 C Z => ?_)
    refine x_aload_n C dX5_ifMet_0 rfl ?_
    refine x_iload_n C dX5_ifMet_1 rfl ?_
    refine x_iload_n C dX5_ifMet_2 rfl ?_
    refine x_iload_n C dX5_ifMet_3 rfl ?_
    refine x_callV C (c_X5_whyNotMet_ok hk1 hp1 hk2 hp2 hm hne) kv_X5_whyNotMet kl_X5_83 dX5_ifMet_4 mput_0 rfl rfl rfl rfl (Nat.le_of_ble_eq_true rfl) (Nat.le_of_ble_eq_true rfl) (Nat.le_of_ble_eq_true rfl) (Nat.le_of_ble_eq_true rfl) (Nat.le_of_ble_eq_true rfl) ?_
    refine x_istore C dX5_ifMet_7 (by decide) rfl ?_
    refine x_iload C dX5_ifMet_9 rfl ?_
    refine x_iconst (v := (-1)) C dX5_ifMet_11 (by decide) ?_
    refine x_ic_ne C 17 dX5_ifMet_12 (by decide) (fun _ => ?_) (fun h => absurd h (by decide))
    refine x_iload C dX5_ifMet_17 rfl ?_
    refine x_iconst (v := 0) C dX5_ifMet_19 (by decide) ?_
    refine x_iconst (v := 3) C dX5_ifMet_20 (by decide) ?_
    refine x_callS C (c_X5_within _ _ _) ks_X5_within kl_X5_30 dX5_ifMet_21 rfl rfl rfl rfl (Nat.le_of_ble_eq_true rfl) (Nat.le_of_ble_eq_true rfl) (Nat.le_of_ble_eq_true rfl) (Nat.le_of_ble_eq_true rfl) (Nat.le_of_ble_eq_true rfl) ?_
    refine x_bne C 30 dX5_ifMet_24 (by decide) (fun _ => ?_) (fun h => absurd ⟨nI_pos' (by omega), nI_le (b := 3) (by omega) (by omega)⟩ h)
    refine x_iload C dX5_ifMet_30 rfl ?_
    refine x_if_ge C 38 dX5_ifMet_32 (by decide) (fun _ => ?_) (fun h => absurd (Int32.le_refl _) h)
    refine x_aload_n C dX5_ifMet_38 rfl ?_
    refine x_get C kf_X5_7 mput_0 rfl dX5_ifMet_39 ?_
    refine x_iconst (v := 0) C dX5_ifMet_42 (by decide) ?_
    refine x_aload_n C dX5_ifMet_43 rfl ?_
    refine x_get C kf_X5_13 mput_0 rfl dX5_ifMet_44 ?_
    refine x_iconst (v := 0) C dX5_ifMet_47 (by decide) ?_
    refine x_callS C (c_X5_copies (f0 := 0) (t0 := 0) mput_1 mput_2 (by omega) (by omega) (by omega) (by decide) (by decide) (fun _ _ => rfl) (mput_kp _)) ks_X5_copies kl_X5_26 dX5_ifMet_48 rfl rfl rfl rfl (Nat.le_of_ble_eq_true rfl) (Nat.le_of_ble_eq_true rfl) (Nat.le_of_ble_eq_true rfl) (Nat.le_of_ble_eq_true rfl) (Nat.le_of_ble_eq_true rfl) ?_
    refine x_aload_n C dX5_ifMet_51 rfl ?_
    refine x_iload_n C dX5_ifMet_52 rfl ?_
    refine x_iload_n C dX5_ifMet_53 rfl ?_
    refine x_iload_n C dX5_ifMet_54 rfl ?_
    refine x_callV C (c_X5_meets hk1 hk2 hm hs) kv_X5_meets kl_X5_89 dX5_ifMet_55 mput_0 rfl rfl rfl rfl (Nat.le_of_ble_eq_true rfl) (Nat.le_of_ble_eq_true rfl) (Nat.le_of_ble_eq_true rfl) (Nat.le_of_ble_eq_true rfl) (Nat.le_of_ble_eq_true rfl) ?_
    refine x_istore C dX5_ifMet_58 (by decide) rfl ?_
    refine x_aload_n C dX5_ifMet_60 rfl ?_
    refine x_iload_n C dX5_ifMet_61 rfl ?_
    refine x_iload_n C dX5_ifMet_62 rfl ?_
    refine x_callV C (c_X5_agreements hk1 hk2) kv_X5_agreements kl_X5_137 dX5_ifMet_63 mput_0 rfl rfl rfl rfl (Nat.le_of_ble_eq_true rfl) (Nat.le_of_ble_eq_true rfl) (Nat.le_of_ble_eq_true rfl) (Nat.le_of_ble_eq_true rfl) (Nat.le_of_ble_eq_true rfl) ?_
    refine x_istore C dX5_ifMet_66 (by decide) rfl ?_
    refine x_aload_n C dX5_ifMet_68 rfl ?_
    refine x_get C kf_X5_13 mput_0 rfl dX5_ifMet_69 ?_
    refine x_iconst (v := 0) C dX5_ifMet_72 (by decide) ?_
    refine x_aload_n C dX5_ifMet_73 rfl ?_
    refine x_get C kf_X5_7 mput_0 rfl dX5_ifMet_74 ?_
    refine x_iconst (v := 0) C dX5_ifMet_77 (by decide) ?_
    refine x_callS C (c_X5_copies (f0 := 0) (t0 := 0) mput_2 mput_1 (by omega) (by omega) (by omega) (by decide) (by decide) (fun j hj => cpA_b hj) (mput_st U)) ks_X5_copies kl_X5_26 dX5_ifMet_78 rfl rfl rfl rfl (Nat.le_of_ble_eq_true rfl) (Nat.le_of_ble_eq_true rfl) (Nat.le_of_ble_eq_true rfl) (Nat.le_of_ble_eq_true rfl) (Nat.le_of_ble_eq_true rfl) ?_
    refine x_iload C dX5_ifMet_81 rfl ?_
    refine x_if_ne C 93 dX5_ifMet_83 (by decide) (fun _ => ?_) (fun h => absurd h (by decide))
    refine x_iload C dX5_ifMet_93 rfl ?_
    refine x_iconst (v := 1) C dX5_ifMet_95 (by decide) ?_
    refine x_ic_ne C 106 dX5_ifMet_96 (by decide) (fun h => absurd (by decide) h) (fun _ => ?_)
    refine x_aload_n C dX5_ifMet_99 rfl ?_
    refine x_get C kf_X5_70 mput_0 rfl dX5_ifMet_100 ?_
    refine x_goto C 127 dX5_ifMet_103 (by decide) ?_
    exact x_zret C Z dX5_ifMet_127 rfl (Nat.le_of_ble_eq_true rfl) (Nat.le_of_ble_eq_true rfl) rfl rfl (pk_us.trans imS_1.symm)
  · refine xM_of [some (.ref _), some (.int _), some (.int _), some (.int _), some (.int _), none, none, none] (by decide +kernel) (Nat.le_of_ble_eq_true rfl) rfl (fun k0 C Z => ?_)
    refine x_aload_n C dX5_ifMet_0 rfl ?_
    refine x_iload_n C dX5_ifMet_1 rfl ?_
    refine x_iload_n C dX5_ifMet_2 rfl ?_
    refine x_iload_n C dX5_ifMet_3 rfl ?_
    refine x_callV C (c_X5_whyNotMet_ok hk1 hp1 hk2 hp2 hm hne) kv_X5_whyNotMet kl_X5_83 dX5_ifMet_4 mput_0 rfl rfl rfl rfl (Nat.le_of_ble_eq_true rfl) (Nat.le_of_ble_eq_true rfl) (Nat.le_of_ble_eq_true rfl) (Nat.le_of_ble_eq_true rfl) (Nat.le_of_ble_eq_true rfl) ?_
    refine x_istore C dX5_ifMet_7 (by decide) rfl ?_
    refine x_iload C dX5_ifMet_9 rfl ?_
    refine x_iconst (v := (-1)) C dX5_ifMet_11 (by decide) ?_
    refine x_ic_ne C 17 dX5_ifMet_12 (by decide) (fun _ => ?_) (fun h => absurd h (by decide))
    refine x_iload C dX5_ifMet_17 rfl ?_
    refine x_iconst (v := 0) C dX5_ifMet_19 (by decide) ?_
    refine x_iconst (v := 3) C dX5_ifMet_20 (by decide) ?_
    refine x_callS C (c_X5_within _ _ _) ks_X5_within kl_X5_30 dX5_ifMet_21 rfl rfl rfl rfl (Nat.le_of_ble_eq_true rfl) (Nat.le_of_ble_eq_true rfl) (Nat.le_of_ble_eq_true rfl) (Nat.le_of_ble_eq_true rfl) (Nat.le_of_ble_eq_true rfl) ?_
    refine x_bne C 30 dX5_ifMet_24 (by decide) (fun _ => ?_) (fun h => absurd ⟨nI_pos' (by omega), nI_le (b := 3) (by omega) (by omega)⟩ h)
    refine x_iload C dX5_ifMet_30 rfl ?_
    refine x_if_ge C 38 dX5_ifMet_32 (by decide) (fun _ => ?_) (fun h => absurd (Int32.le_refl _) h)
    refine x_aload_n C dX5_ifMet_38 rfl ?_
    refine x_get C kf_X5_7 mput_0 rfl dX5_ifMet_39 ?_
    refine x_iconst (v := 0) C dX5_ifMet_42 (by decide) ?_
    refine x_aload_n C dX5_ifMet_43 rfl ?_
    refine x_get C kf_X5_13 mput_0 rfl dX5_ifMet_44 ?_
    refine x_iconst (v := 0) C dX5_ifMet_47 (by decide) ?_
    refine x_callS C (c_X5_copies (f0 := 0) (t0 := 0) mput_1 mput_2 (by omega) (by omega) (by omega) (by decide) (by decide) (fun _ _ => rfl) (mput_kp _)) ks_X5_copies kl_X5_26 dX5_ifMet_48 rfl rfl rfl rfl (Nat.le_of_ble_eq_true rfl) (Nat.le_of_ble_eq_true rfl) (Nat.le_of_ble_eq_true rfl) (Nat.le_of_ble_eq_true rfl) (Nat.le_of_ble_eq_true rfl) ?_
    refine x_aload_n C dX5_ifMet_51 rfl ?_
    refine x_iload_n C dX5_ifMet_52 rfl ?_
    refine x_iload_n C dX5_ifMet_53 rfl ?_
    refine x_iload_n C dX5_ifMet_54 rfl ?_
    refine x_callV C (c_X5_meets hk1 hk2 hm hs) kv_X5_meets kl_X5_89 dX5_ifMet_55 mput_0 rfl rfl rfl rfl (Nat.le_of_ble_eq_true rfl) (Nat.le_of_ble_eq_true rfl) (Nat.le_of_ble_eq_true rfl) (Nat.le_of_ble_eq_true rfl) (Nat.le_of_ble_eq_true rfl) ?_
    refine x_istore C dX5_ifMet_58 (by decide) rfl ?_
    refine x_aload_n C dX5_ifMet_60 rfl ?_
    refine x_iload_n C dX5_ifMet_61 rfl ?_
    refine x_iload_n C dX5_ifMet_62 rfl ?_
    refine x_callV C (c_X5_agreements hk1 hk2) kv_X5_agreements kl_X5_137 dX5_ifMet_63 mput_0 rfl rfl rfl rfl (Nat.le_of_ble_eq_true rfl) (Nat.le_of_ble_eq_true rfl) (Nat.le_of_ble_eq_true rfl) (Nat.le_of_ble_eq_true rfl) (Nat.le_of_ble_eq_true rfl) ?_
    refine x_istore C dX5_ifMet_66 (by decide) rfl ?_
    refine x_aload_n C dX5_ifMet_68 rfl ?_
    refine x_get C kf_X5_13 mput_0 rfl dX5_ifMet_69 ?_
    refine x_iconst (v := 0) C dX5_ifMet_72 (by decide) ?_
    refine x_aload_n C dX5_ifMet_73 rfl ?_
    refine x_get C kf_X5_7 mput_0 rfl dX5_ifMet_74 ?_
    refine x_iconst (v := 0) C dX5_ifMet_77 (by decide) ?_
    refine x_callS C (c_X5_copies (f0 := 0) (t0 := 0) mput_2 mput_1 (by omega) (by omega) (by omega) (by decide) (by decide) (fun j hj => cpA_b hj) (mput_st U)) ks_X5_copies kl_X5_26 dX5_ifMet_78 rfl rfl rfl rfl (Nat.le_of_ble_eq_true rfl) (Nat.le_of_ble_eq_true rfl) (Nat.le_of_ble_eq_true rfl) (Nat.le_of_ble_eq_true rfl) (Nat.le_of_ble_eq_true rfl) ?_
    refine x_iload C dX5_ifMet_81 rfl ?_
    refine x_if_ne C 93 dX5_ifMet_83 (by decide) (fun _ => ?_) (fun h => absurd h (by decide))
    refine x_iload C dX5_ifMet_93 rfl ?_
    refine x_iconst (v := 1) C dX5_ifMet_95 (by decide) ?_
    refine x_ic_ne C 106 dX5_ifMet_96 (by decide) (fun _ => ?_) (fun h => absurd h (by decide))
    refine x_iload C dX5_ifMet_106 rfl ?_
    refine x_iconst (v := 2) C dX5_ifMet_108 (by decide) ?_
    refine x_ic_ne C 125 dX5_ifMet_109 (by decide) (fun h => absurd (by decide) h) (fun _ => ?_)
    refine x_iload C dX5_ifMet_112 rfl ?_
    refine x_beq C 121 dX5_ifMet_114 (by decide) (fun h114 => ?_) (fun h114 => ?_)
    · refine x_iconst (v := 0) C dX5_ifMet_121 (by decide) ?_
      refine x_goto C 127 dX5_ifMet_122 (by decide) ?_
      exact x_zret C Z dX5_ifMet_127 rfl (Nat.le_of_ble_eq_true rfl) (Nat.le_of_ble_eq_true rfl) rfl rfl (by rw [imS_2, if_neg h114])
    · refine x_iconst (v := 1) C dX5_ifMet_117 (by decide) ?_
      refine x_goto C 127 dX5_ifMet_118 (by decide) ?_
      exact x_zret C Z dX5_ifMet_127 rfl (Nat.le_of_ble_eq_true rfl) (Nat.le_of_ble_eq_true rfl) rfl rfl (by rw [imS_2, if_pos h114])
  · refine xM_of [some (.ref _), some (.int _), some (.int _), some (.int _), some (.int _), none, none, none] (by decide +kernel) (Nat.le_of_ble_eq_true rfl) rfl (fun k0 C Z => ?_)
    refine x_aload_n C dX5_ifMet_0 rfl ?_
    refine x_iload_n C dX5_ifMet_1 rfl ?_
    refine x_iload_n C dX5_ifMet_2 rfl ?_
    refine x_iload_n C dX5_ifMet_3 rfl ?_
    refine x_callV C (c_X5_whyNotMet_ok hk1 hp1 hk2 hp2 hm hne) kv_X5_whyNotMet kl_X5_83 dX5_ifMet_4 mput_0 rfl rfl rfl rfl (Nat.le_of_ble_eq_true rfl) (Nat.le_of_ble_eq_true rfl) (Nat.le_of_ble_eq_true rfl) (Nat.le_of_ble_eq_true rfl) (Nat.le_of_ble_eq_true rfl) ?_
    refine x_istore C dX5_ifMet_7 (by decide) rfl ?_
    refine x_iload C dX5_ifMet_9 rfl ?_
    refine x_iconst (v := (-1)) C dX5_ifMet_11 (by decide) ?_
    refine x_ic_ne C 17 dX5_ifMet_12 (by decide) (fun _ => ?_) (fun h => absurd h (by decide))
    refine x_iload C dX5_ifMet_17 rfl ?_
    refine x_iconst (v := 0) C dX5_ifMet_19 (by decide) ?_
    refine x_iconst (v := 3) C dX5_ifMet_20 (by decide) ?_
    refine x_callS C (c_X5_within _ _ _) ks_X5_within kl_X5_30 dX5_ifMet_21 rfl rfl rfl rfl (Nat.le_of_ble_eq_true rfl) (Nat.le_of_ble_eq_true rfl) (Nat.le_of_ble_eq_true rfl) (Nat.le_of_ble_eq_true rfl) (Nat.le_of_ble_eq_true rfl) ?_
    refine x_bne C 30 dX5_ifMet_24 (by decide) (fun _ => ?_) (fun h => absurd ⟨nI_pos' (by omega), nI_le (b := 3) (by omega) (by omega)⟩ h)
    refine x_iload C dX5_ifMet_30 rfl ?_
    refine x_if_ge C 38 dX5_ifMet_32 (by decide) (fun _ => ?_) (fun h => absurd (Int32.le_refl _) h)
    refine x_aload_n C dX5_ifMet_38 rfl ?_
    refine x_get C kf_X5_7 mput_0 rfl dX5_ifMet_39 ?_
    refine x_iconst (v := 0) C dX5_ifMet_42 (by decide) ?_
    refine x_aload_n C dX5_ifMet_43 rfl ?_
    refine x_get C kf_X5_13 mput_0 rfl dX5_ifMet_44 ?_
    refine x_iconst (v := 0) C dX5_ifMet_47 (by decide) ?_
    refine x_callS C (c_X5_copies (f0 := 0) (t0 := 0) mput_1 mput_2 (by omega) (by omega) (by omega) (by decide) (by decide) (fun _ _ => rfl) (mput_kp _)) ks_X5_copies kl_X5_26 dX5_ifMet_48 rfl rfl rfl rfl (Nat.le_of_ble_eq_true rfl) (Nat.le_of_ble_eq_true rfl) (Nat.le_of_ble_eq_true rfl) (Nat.le_of_ble_eq_true rfl) (Nat.le_of_ble_eq_true rfl) ?_
    refine x_aload_n C dX5_ifMet_51 rfl ?_
    refine x_iload_n C dX5_ifMet_52 rfl ?_
    refine x_iload_n C dX5_ifMet_53 rfl ?_
    refine x_iload_n C dX5_ifMet_54 rfl ?_
    refine x_callV C (c_X5_meets hk1 hk2 hm hs) kv_X5_meets kl_X5_89 dX5_ifMet_55 mput_0 rfl rfl rfl rfl (Nat.le_of_ble_eq_true rfl) (Nat.le_of_ble_eq_true rfl) (Nat.le_of_ble_eq_true rfl) (Nat.le_of_ble_eq_true rfl) (Nat.le_of_ble_eq_true rfl) ?_
    refine x_istore C dX5_ifMet_58 (by decide) rfl ?_
    refine x_aload_n C dX5_ifMet_60 rfl ?_
    refine x_iload_n C dX5_ifMet_61 rfl ?_
    refine x_iload_n C dX5_ifMet_62 rfl ?_
    refine x_callV C (c_X5_agreements hk1 hk2) kv_X5_agreements kl_X5_137 dX5_ifMet_63 mput_0 rfl rfl rfl rfl (Nat.le_of_ble_eq_true rfl) (Nat.le_of_ble_eq_true rfl) (Nat.le_of_ble_eq_true rfl) (Nat.le_of_ble_eq_true rfl) (Nat.le_of_ble_eq_true rfl) ?_
    refine x_istore C dX5_ifMet_66 (by decide) rfl ?_
    refine x_aload_n C dX5_ifMet_68 rfl ?_
    refine x_get C kf_X5_13 mput_0 rfl dX5_ifMet_69 ?_
    refine x_iconst (v := 0) C dX5_ifMet_72 (by decide) ?_
    refine x_aload_n C dX5_ifMet_73 rfl ?_
    refine x_get C kf_X5_7 mput_0 rfl dX5_ifMet_74 ?_
    refine x_iconst (v := 0) C dX5_ifMet_77 (by decide) ?_
    refine x_callS C (c_X5_copies (f0 := 0) (t0 := 0) mput_2 mput_1 (by omega) (by omega) (by omega) (by decide) (by decide) (fun j hj => cpA_b hj) (mput_st U)) ks_X5_copies kl_X5_26 dX5_ifMet_78 rfl rfl rfl rfl (Nat.le_of_ble_eq_true rfl) (Nat.le_of_ble_eq_true rfl) (Nat.le_of_ble_eq_true rfl) (Nat.le_of_ble_eq_true rfl) (Nat.le_of_ble_eq_true rfl) ?_
    refine x_iload C dX5_ifMet_81 rfl ?_
    refine x_if_ne C 93 dX5_ifMet_83 (by decide) (fun _ => ?_) (fun h => absurd h (by decide))
    refine x_iload C dX5_ifMet_93 rfl ?_
    refine x_iconst (v := 1) C dX5_ifMet_95 (by decide) ?_
    refine x_ic_ne C 106 dX5_ifMet_96 (by decide) (fun _ => ?_) (fun h => absurd h (by decide))
    refine x_iload C dX5_ifMet_106 rfl ?_
    refine x_iconst (v := 2) C dX5_ifMet_108 (by decide) ?_
    refine x_ic_ne C 125 dX5_ifMet_109 (by decide) (fun _ => ?_) (fun h => absurd h (by decide))
    refine x_iload C dX5_ifMet_125 rfl ?_
    exact x_zret C Z dX5_ifMet_127 rfl (Nat.le_of_ble_eq_true rfl) (Nat.le_of_ble_eq_true rfl) rfl rfl imS_3.symm
set_option maxRecDepth 100000 in
set_option maxHeartbeats 1000000 in
theorem c_X5_ifMet_same {l : Launch} {E : xEnv} {B N : Nat} {σ : Sg} {M : Nat} {U : Vs} {kp ho tx sc : Fn} {k1 : Nat} (hk1 : k1 < 8) (hp1 : U 10 k1 = 1) {m : Nat} (hm : m < 6) {j : Nat} (hj : j < 4) : xM l yX5_ifMet cX5_ifMet 8 (some .int) 5 118 0 0 E B [.ref M, .int (nI k1), .int (nI k1), .int (nI m), .int (nI j)] N (mput E σ M U kp ho tx sc) N (mput E σ M U kp ho tx sc) (some (.int (-3))) := by
  refine xM_of [some (.ref _), some (.int _), some (.int _), some (.int _), some (.int _), none, none, none] (by decide +kernel) (Nat.le_of_ble_eq_true rfl) rfl (fun k0 C Z => ?_)
  refine x_aload_n C dX5_ifMet_0 rfl ?_
  refine x_iload_n C dX5_ifMet_1 rfl ?_
  refine x_iload_n C dX5_ifMet_2 rfl ?_
  refine x_iload_n C dX5_ifMet_3 rfl ?_
  refine x_callV C (c_X5_whyNotMet_same hk1 hp1 hm) kv_X5_whyNotMet kl_X5_83 dX5_ifMet_4 mput_0 rfl rfl rfl rfl (Nat.le_of_ble_eq_true rfl) (Nat.le_of_ble_eq_true rfl) (Nat.le_of_ble_eq_true rfl) (Nat.le_of_ble_eq_true rfl) (Nat.le_of_ble_eq_true rfl) ?_
  refine x_istore C dX5_ifMet_7 (by decide) rfl ?_
  refine x_iload C dX5_ifMet_9 rfl ?_
  refine x_iconst (v := (-1)) C dX5_ifMet_11 (by decide) ?_
  refine x_ic_ne C 17 dX5_ifMet_12 (by decide) (fun _ => ?_) (fun h => absurd h (by decide))
  refine x_iload C dX5_ifMet_17 rfl ?_
  refine x_iconst (v := 0) C dX5_ifMet_19 (by decide) ?_
  refine x_iconst (v := 3) C dX5_ifMet_20 (by decide) ?_
  refine x_callS C (c_X5_within _ _ _) ks_X5_within kl_X5_30 dX5_ifMet_21 rfl rfl rfl rfl (Nat.le_of_ble_eq_true rfl) (Nat.le_of_ble_eq_true rfl) (Nat.le_of_ble_eq_true rfl) (Nat.le_of_ble_eq_true rfl) (Nat.le_of_ble_eq_true rfl) ?_
  refine x_bne C 30 dX5_ifMet_24 (by decide) (fun _ => ?_) (fun h => absurd ⟨nI_pos' (by omega), nI_le (b := 3) (by omega) (by omega)⟩ h)
  refine x_iload C dX5_ifMet_30 rfl ?_
  refine x_if_ge C 38 dX5_ifMet_32 (by decide) (fun h => absurd h (by decide)) (fun _ => ?_)
  refine x_iload C dX5_ifMet_35 rfl ?_
  exact x_zret C Z dX5_ifMet_37 rfl (Nat.le_of_ble_eq_true rfl) (Nat.le_of_ble_eq_true rfl) rfl rfl rfl
set_option maxRecDepth 100000 in
set_option maxHeartbeats 1000000 in
theorem c_X5_ifMet_bads {l : Launch} {E : xEnv} {B N : Nat} {σ : Sg} {M : Nat} {U : Vs} {kp ho tx sc : Fn} {k1 : Nat} (hk1 : k1 < 8) (hp1 : U 10 k1 = 1) {m : Nat} (hm : m < 6) {w : Int32} (hw : ¬ (0 ≤ w ∧ w < 4)) : xM l yX5_ifMet cX5_ifMet 8 (some .int) 5 118 0 0 E B [.ref M, .int (nI k1), .int (nI k1), .int (nI m), .int w] N (mput E σ M U kp ho tx sc) N (mput E σ M U kp ho tx sc) (some (.int (-2))) := by
  refine xM_of [some (.ref _), some (.int _), some (.int _), some (.int _), some (.int _), none, none, none] (by decide +kernel) (Nat.le_of_ble_eq_true rfl) rfl (fun k0 C Z => ?_)
  refine x_aload_n C dX5_ifMet_0 rfl ?_
  refine x_iload_n C dX5_ifMet_1 rfl ?_
  refine x_iload_n C dX5_ifMet_2 rfl ?_
  refine x_iload_n C dX5_ifMet_3 rfl ?_
  refine x_callV C (c_X5_whyNotMet_same hk1 hp1 hm) kv_X5_whyNotMet kl_X5_83 dX5_ifMet_4 mput_0 rfl rfl rfl rfl (Nat.le_of_ble_eq_true rfl) (Nat.le_of_ble_eq_true rfl) (Nat.le_of_ble_eq_true rfl) (Nat.le_of_ble_eq_true rfl) (Nat.le_of_ble_eq_true rfl) ?_
  refine x_istore C dX5_ifMet_7 (by decide) rfl ?_
  refine x_iload C dX5_ifMet_9 rfl ?_
  refine x_iconst (v := (-1)) C dX5_ifMet_11 (by decide) ?_
  refine x_ic_ne C 17 dX5_ifMet_12 (by decide) (fun _ => ?_) (fun h => absurd h (by decide))
  refine x_iload C dX5_ifMet_17 rfl ?_
  refine x_iconst (v := 0) C dX5_ifMet_19 (by decide) ?_
  refine x_iconst (v := 3) C dX5_ifMet_20 (by decide) ?_
  refine x_callS C (c_X5_within _ _ _) ks_X5_within kl_X5_30 dX5_ifMet_21 rfl rfl rfl rfl (Nat.le_of_ble_eq_true rfl) (Nat.le_of_ble_eq_true rfl) (Nat.le_of_ble_eq_true rfl) (Nat.le_of_ble_eq_true rfl) (Nat.le_of_ble_eq_true rfl) ?_
  refine x_bne C 30 dX5_ifMet_24 (by decide) (fun h => absurd h (fun z => hw ⟨z.1, (le_s (n := 3) (by decide)).mp z.2⟩)) (fun _ => ?_)
  refine x_bipush (v := (-2)) C dX5_ifMet_27 (by decide) ?_
  exact x_zret C Z dX5_ifMet_29 rfl (Nat.le_of_ble_eq_true rfl) (Nat.le_of_ble_eq_true rfl) rfl rfl rfl
set_option maxRecDepth 100000 in
set_option maxHeartbeats 1000000 in
theorem c_X5_ifMet_n1 {l : Launch} {E : xEnv} {B N : Nat} {σ : Sg} {M : Nat} {U : Vs} {kp ho tx sc : Fn} {x : Int32} (hno : ¬ ∃ k, k < 8 ∧ x = nI k ∧ U 10 k = 1) {y m : Int32} {w : Int32} : xM l yX5_ifMet cX5_ifMet 8 (some .int) 5 118 0 0 E B [.ref M, .int x, .int y, .int m, .int w] N (mput E σ M U kp ho tx sc) N (mput E σ M U kp ho tx sc) (some (.int (-1))) := by
  refine xM_of [some (.ref _), some (.int _), some (.int _), some (.int _), some (.int _), none, none, none] (by decide +kernel) (Nat.le_of_ble_eq_true rfl) rfl (fun k0 C Z => ?_)
  refine x_aload_n C dX5_ifMet_0 rfl ?_
  refine x_iload_n C dX5_ifMet_1 rfl ?_
  refine x_iload_n C dX5_ifMet_2 rfl ?_
  refine x_iload_n C dX5_ifMet_3 rfl ?_
  refine x_callV C (c_X5_whyNotMet_n1 hno) kv_X5_whyNotMet kl_X5_83 dX5_ifMet_4 mput_0 rfl rfl rfl rfl (Nat.le_of_ble_eq_true rfl) (Nat.le_of_ble_eq_true rfl) (Nat.le_of_ble_eq_true rfl) (Nat.le_of_ble_eq_true rfl) (Nat.le_of_ble_eq_true rfl) ?_
  refine x_istore C dX5_ifMet_7 (by decide) rfl ?_
  refine x_iload C dX5_ifMet_9 rfl ?_
  refine x_iconst (v := (-1)) C dX5_ifMet_11 (by decide) ?_
  refine x_ic_ne C 17 dX5_ifMet_12 (by decide) (fun h => absurd rfl h) (fun _ => ?_)
  refine x_iconst (v := (-1)) C dX5_ifMet_15 (by decide) ?_
  exact x_zret C Z dX5_ifMet_16 rfl (Nat.le_of_ble_eq_true rfl) (Nat.le_of_ble_eq_true rfl) rfl rfl rfl
set_option maxRecDepth 100000 in
set_option maxHeartbeats 1000000 in
theorem c_X5_ifMet_n2 {l : Launch} {E : xEnv} {B N : Nat} {σ : Sg} {M : Nat} {U : Vs} {kp ho tx sc : Fn} {k1 : Nat} (hk1 : k1 < 8) (hp1 : U 10 k1 = 1){y : Int32} (hny : ¬ ∃ k, k < 8 ∧ y = nI k ∧ U 10 k = 1) {m : Int32} {w : Int32} : xM l yX5_ifMet cX5_ifMet 8 (some .int) 5 118 0 0 E B [.ref M, .int (nI k1), .int y, .int m, .int w] N (mput E σ M U kp ho tx sc) N (mput E σ M U kp ho tx sc) (some (.int (-1))) := by
  refine xM_of [some (.ref _), some (.int _), some (.int _), some (.int _), some (.int _), none, none, none] (by decide +kernel) (Nat.le_of_ble_eq_true rfl) rfl (fun k0 C Z => ?_)
  refine x_aload_n C dX5_ifMet_0 rfl ?_
  refine x_iload_n C dX5_ifMet_1 rfl ?_
  refine x_iload_n C dX5_ifMet_2 rfl ?_
  refine x_iload_n C dX5_ifMet_3 rfl ?_
  refine x_callV C (c_X5_whyNotMet_n2 hk1 hp1 hny) kv_X5_whyNotMet kl_X5_83 dX5_ifMet_4 mput_0 rfl rfl rfl rfl (Nat.le_of_ble_eq_true rfl) (Nat.le_of_ble_eq_true rfl) (Nat.le_of_ble_eq_true rfl) (Nat.le_of_ble_eq_true rfl) (Nat.le_of_ble_eq_true rfl) ?_
  refine x_istore C dX5_ifMet_7 (by decide) rfl ?_
  refine x_iload C dX5_ifMet_9 rfl ?_
  refine x_iconst (v := (-1)) C dX5_ifMet_11 (by decide) ?_
  refine x_ic_ne C 17 dX5_ifMet_12 (by decide) (fun h => absurd rfl h) (fun _ => ?_)
  refine x_iconst (v := (-1)) C dX5_ifMet_15 (by decide) ?_
  exact x_zret C Z dX5_ifMet_16 rfl (Nat.le_of_ble_eq_true rfl) (Nat.le_of_ble_eq_true rfl) rfl rfl rfl
set_option maxRecDepth 100000 in
set_option maxHeartbeats 1000000 in
theorem c_X5_ifMet_n3 {l : Launch} {E : xEnv} {B N : Nat} {σ : Sg} {M : Nat} {U : Vs} {kp ho tx sc : Fn} {k1 : Nat} (hk1 : k1 < 8) (hp1 : U 10 k1 = 1){k2 : Nat} (hk2 : k2 < 8) (hp2 : U 10 k2 = 1) {m : Int32} (hb : ¬ (0 ≤ m ∧ m < 6)) {w : Int32} : xM l yX5_ifMet cX5_ifMet 8 (some .int) 5 118 0 0 E B [.ref M, .int (nI k1), .int (nI k2), .int m, .int w] N (mput E σ M U kp ho tx sc) N (mput E σ M U kp ho tx sc) (some (.int (-1))) := by
  refine xM_of [some (.ref _), some (.int _), some (.int _), some (.int _), some (.int _), none, none, none] (by decide +kernel) (Nat.le_of_ble_eq_true rfl) rfl (fun k0 C Z => ?_)
  refine x_aload_n C dX5_ifMet_0 rfl ?_
  refine x_iload_n C dX5_ifMet_1 rfl ?_
  refine x_iload_n C dX5_ifMet_2 rfl ?_
  refine x_iload_n C dX5_ifMet_3 rfl ?_
  refine x_callV C (c_X5_whyNotMet_n3 hk1 hp1 hk2 hp2 hb) kv_X5_whyNotMet kl_X5_83 dX5_ifMet_4 mput_0 rfl rfl rfl rfl (Nat.le_of_ble_eq_true rfl) (Nat.le_of_ble_eq_true rfl) (Nat.le_of_ble_eq_true rfl) (Nat.le_of_ble_eq_true rfl) (Nat.le_of_ble_eq_true rfl) ?_
  refine x_istore C dX5_ifMet_7 (by decide) rfl ?_
  refine x_iload C dX5_ifMet_9 rfl ?_
  refine x_iconst (v := (-1)) C dX5_ifMet_11 (by decide) ?_
  refine x_ic_ne C 17 dX5_ifMet_12 (by decide) (fun h => absurd rfl h) (fun _ => ?_)
  refine x_iconst (v := (-1)) C dX5_ifMet_15 (by decide) ?_
  exact x_zret C Z dX5_ifMet_16 rfl (Nat.le_of_ble_eq_true rfl) (Nat.le_of_ble_eq_true rfl) rfl rfl rfl
set_option maxRecDepth 100000 in
set_option maxHeartbeats 1000000 in
theorem c_X5_ifMet_bad {l : Launch} {E : xEnv} {B N : Nat} {σ : Sg} {M : Nat} {U : Vs} {kp ho tx sc : Fn} {k1 : Nat} (hk1 : k1 < 8) (hp1 : U 10 k1 = 1){k2 : Nat} (hk2 : k2 < 8) (hp2 : U 10 k2 = 1) {m : Nat} (hm : m < 6) (hne : k1 ≠ k2) {w : Int32} (hw : ¬ (0 ≤ w ∧ w < 4)) : xM l yX5_ifMet cX5_ifMet 8 (some .int) 5 118 0 0 E B [.ref M, .int (nI k1), .int (nI k2), .int (nI m), .int w] N (mput E σ M U kp ho tx sc) N (mput E σ M U kp ho tx sc) (some (.int (-2))) := by
  refine xM_of [some (.ref _), some (.int _), some (.int _), some (.int _), some (.int _), none, none, none] (by decide +kernel) (Nat.le_of_ble_eq_true rfl) rfl (fun k0 C Z => ?_)
  refine x_aload_n C dX5_ifMet_0 rfl ?_
  refine x_iload_n C dX5_ifMet_1 rfl ?_
  refine x_iload_n C dX5_ifMet_2 rfl ?_
  refine x_iload_n C dX5_ifMet_3 rfl ?_
  refine x_callV C (c_X5_whyNotMet_ok hk1 hp1 hk2 hp2 hm hne) kv_X5_whyNotMet kl_X5_83 dX5_ifMet_4 mput_0 rfl rfl rfl rfl (Nat.le_of_ble_eq_true rfl) (Nat.le_of_ble_eq_true rfl) (Nat.le_of_ble_eq_true rfl) (Nat.le_of_ble_eq_true rfl) (Nat.le_of_ble_eq_true rfl) ?_
  refine x_istore C dX5_ifMet_7 (by decide) rfl ?_
  refine x_iload C dX5_ifMet_9 rfl ?_
  refine x_iconst (v := (-1)) C dX5_ifMet_11 (by decide) ?_
  refine x_ic_ne C 17 dX5_ifMet_12 (by decide) (fun _ => ?_) (fun h => absurd h (by decide))
  refine x_iload C dX5_ifMet_17 rfl ?_
  refine x_iconst (v := 0) C dX5_ifMet_19 (by decide) ?_
  refine x_iconst (v := 3) C dX5_ifMet_20 (by decide) ?_
  refine x_callS C (c_X5_within _ _ _) ks_X5_within kl_X5_30 dX5_ifMet_21 rfl rfl rfl rfl (Nat.le_of_ble_eq_true rfl) (Nat.le_of_ble_eq_true rfl) (Nat.le_of_ble_eq_true rfl) (Nat.le_of_ble_eq_true rfl) (Nat.le_of_ble_eq_true rfl) ?_
  refine x_bne C 30 dX5_ifMet_24 (by decide) (fun h => absurd h (fun z => hw ⟨z.1, (le_s (n := 3) (by decide)).mp z.2⟩)) (fun _ => ?_)
  refine x_bipush (v := (-2)) C dX5_ifMet_27 (by decide) ?_
  exact x_zret C Z dX5_ifMet_29 rfl (Nat.le_of_ble_eq_true rfl) (Nat.le_of_ble_eq_true rfl) rfl rfl rfl
