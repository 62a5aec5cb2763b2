set_option maxRecDepth 100000 in
set_option maxHeartbeats 1000000 in
theorem c_X5_readsHabit_F0 {l : Launch} {E : xEnv} {B N : Nat} {σ : Sg} {M : Nat} {U : Vs} {kp ho tx sc : Fn} {n : Nat} (hn : n ≤ 80) (h1 : sc 1 = nI n) {a : Nat} (ha : a ≤ 80) (h4 : sc 4 = nI a) (cf : ¬ (48 ≤ chM n tx a ∧ chM n tx a ≤ 48 + 7)) : xM l yX5_readsHabit cX5_readsHabit 2 (some .boolean) 3 63 0 0 E B [.ref M] N (mput E σ M U kp ho tx sc) N (mput E σ M U kp ho tx (upd (upd (upd sc 5 (chM n tx a - 48)) 6 ((upd sc 5 (chM n tx a - 48)) 5)) 7 ((upd (upd sc 5 (chM n tx a - 48)) 6 ((upd sc 5 (chM n tx a - 48)) 5)) 5))) (some (.int 0)) := by
  refine xM_of [some (.ref _), none] (by decide +kernel) (Nat.le_of_ble_eq_true rfl) rfl (fun k0 C Z => ?_)
  refine x_aload_n C dX5_readsHabit_0 rfl ?_
  refine x_bipush (v := 7) C dX5_readsHabit_1 (by decide) ?_
  refine x_callV C (c_X5_readsDigit_f (a := a) (c := 7) hn (by simp [upd, h1]) (by omega) (by simp [upd, h4]) cf) kv_X5_readsDigit kl_X5_165 dX5_readsHabit_3 mput_0 rfl rfl rfl rfl (Nat.le_of_ble_eq_true rfl) (Nat.le_of_ble_eq_true rfl) (Nat.le_of_ble_eq_true rfl) (Nat.le_of_ble_eq_true rfl) (Nat.le_of_ble_eq_true rfl) ?_
  refine x_istore_n C dX5_readsHabit_6 (by decide) rfl ?_
  refine x_aload_n C dX5_readsHabit_7 rfl ?_
  refine x_aload_n C dX5_readsHabit_8 rfl ?_
  refine x_get C kf_X5_155 mput_0 rfl dX5_readsHabit_9 ?_
  refine x_put (ty := .int) C kf_X5_168 mput_0 rfl (by decide +kernel) rfl rfl (Nat.le_of_ble_eq_true rfl) (mput_s6 _) dX5_readsHabit_12 ?_
  refine x_iload_n C dX5_readsHabit_15 rfl ?_
  refine x_if_eq C 40 dX5_readsHabit_16 (by decide) (fun _ => ?_) (fun h => absurd rfl h)
  refine x_iconst (v := 0) C dX5_readsHabit_40 (by decide) ?_
  refine x_istore_n C dX5_readsHabit_41 (by decide) rfl ?_
  refine x_aload_n C dX5_readsHabit_42 rfl ?_
  refine x_aload_n C dX5_readsHabit_43 rfl ?_
  refine x_get C kf_X5_155 mput_0 rfl dX5_readsHabit_44 ?_
  refine x_put (ty := .int) C kf_X5_174 mput_0 rfl (by decide +kernel) rfl rfl (Nat.le_of_ble_eq_true rfl) (mput_s7 _) dX5_readsHabit_47 ?_
  refine x_iload_n C dX5_readsHabit_50 rfl ?_
  refine x_if_eq C 92 dX5_readsHabit_51 (by decide) (fun _ => ?_) (fun h => absurd rfl h)
  refine x_iconst (v := 0) C dX5_readsHabit_92 (by decide) ?_
  refine x_istore_n C dX5_readsHabit_93 (by decide) rfl ?_
  refine x_iload_n C dX5_readsHabit_94 rfl ?_
  refine x_if_ne C 100 dX5_readsHabit_95 (by decide) (fun h => absurd rfl h) (fun _ => ?_)
  refine x_iconst (v := 0) C dX5_readsHabit_98 (by decide) ?_
  exact x_zret C Z dX5_readsHabit_99 rfl (Nat.le_of_ble_eq_true rfl) (Nat.le_of_ble_eq_true rfl) rfl rfl rfl
set_option maxRecDepth 100000 in
set_option maxHeartbeats 1000000 in
theorem c_X5_readsHabit_F1 {l : Launch} {E : xEnv} {B N : Nat} {σ : Sg} {M : Nat} {U : Vs} {kp ho tx sc : Fn} {n : Nat} (hn : n ≤ 80) (h1 : sc 1 = nI n) {a : Nat} (ha : a ≤ 80) (h4 : sc 4 = nI a) (c0 : (48 ≤ chM n tx a ∧ chM n tx a ≤ 48 + 7)) (cf : ¬ chM n tx (a + 1) = 46) : xM l yX5_readsHabit cX5_readsHabit 2 (some .boolean) 3 63 0 0 E B [.ref M] N (mput E σ M U kp ho tx sc) N (mput E σ M U kp ho tx (upd (upd (upd (upd sc 5 (chM n tx a - 48)) 4 (nI (a + 1))) 6 ((upd (upd sc 5 (chM n tx a - 48)) 4 (nI (a + 1))) 5)) 7 ((upd (upd (upd sc 5 (chM n tx a - 48)) 4 (nI (a + 1))) 6 ((upd (upd sc 5 (chM n tx a - 48)) 4 (nI (a + 1))) 5)) 5))) (some (.int 0)) := by
  refine xM_of [some (.ref _), none] (by decide +kernel) (Nat.le_of_ble_eq_true rfl) rfl (fun k0 C Z => ?_)
  refine x_aload_n C dX5_readsHabit_0 rfl ?_
  refine x_bipush (v := 7) C dX5_readsHabit_1 (by decide) ?_
  refine x_callV C (c_X5_readsDigit_t (a := a) (c := 7) hn (by simp [upd, h1]) (by omega) (by simp [upd, h4]) c0) kv_X5_readsDigit kl_X5_165 dX5_readsHabit_3 mput_0 rfl rfl rfl rfl (Nat.le_of_ble_eq_true rfl) (Nat.le_of_ble_eq_true rfl) (Nat.le_of_ble_eq_true rfl) (Nat.le_of_ble_eq_true rfl) (Nat.le_of_ble_eq_true rfl) ?_
  refine x_istore_n C dX5_readsHabit_6 (by decide) rfl ?_
  refine x_aload_n C dX5_readsHabit_7 rfl ?_
  refine x_aload_n C dX5_readsHabit_8 rfl ?_
  refine x_get C kf_X5_155 mput_0 rfl dX5_readsHabit_9 ?_
  refine x_put (ty := .int) C kf_X5_168 mput_0 rfl (by decide +kernel) rfl rfl (Nat.le_of_ble_eq_true rfl) (mput_s6 _) dX5_readsHabit_12 ?_
  refine x_iload_n C dX5_readsHabit_15 rfl ?_
  refine x_if_eq C 40 dX5_readsHabit_16 (by decide) (fun h => absurd h (by decide)) (fun _ => ?_)
  refine x_aload_n C dX5_readsHabit_19 rfl ?_
  refine x_bipush (v := 46) C dX5_readsHabit_20 (by decide) ?_
  refine x_callV C (c_X5_isNext_f (a := (a + 1)) (c := 46) hn (by simp [upd, h1]) (by omega) (by simp [upd, h4]) cf) kv_X5_isNext kl_X5_171 dX5_readsHabit_22 mput_0 rfl rfl rfl rfl (Nat.le_of_ble_eq_true rfl) (Nat.le_of_ble_eq_true rfl) (Nat.le_of_ble_eq_true rfl) (Nat.le_of_ble_eq_true rfl) (Nat.le_of_ble_eq_true rfl) ?_
  refine x_if_eq C 40 dX5_readsHabit_25 (by decide) (fun _ => ?_) (fun h => absurd rfl h)
  refine x_iconst (v := 0) C dX5_readsHabit_40 (by decide) ?_
  refine x_istore_n C dX5_readsHabit_41 (by decide) rfl ?_
  refine x_aload_n C dX5_readsHabit_42 rfl ?_
  refine x_aload_n C dX5_readsHabit_43 rfl ?_
  refine x_get C kf_X5_155 mput_0 rfl dX5_readsHabit_44 ?_
  refine x_put (ty := .int) C kf_X5_174 mput_0 rfl (by decide +kernel) rfl rfl (Nat.le_of_ble_eq_true rfl) (mput_s7 _) dX5_readsHabit_47 ?_
  refine x_iload_n C dX5_readsHabit_50 rfl ?_
  refine x_if_eq C 92 dX5_readsHabit_51 (by decide) (fun _ => ?_) (fun h => absurd rfl h)
  refine x_iconst (v := 0) C dX5_readsHabit_92 (by decide) ?_
  refine x_istore_n C dX5_readsHabit_93 (by decide) rfl ?_
  refine x_iload_n C dX5_readsHabit_94 rfl ?_
  refine x_if_ne C 100 dX5_readsHabit_95 (by decide) (fun h => absurd rfl h) (fun _ => ?_)
  refine x_iconst (v := 0) C dX5_readsHabit_98 (by decide) ?_
  exact x_zret C Z dX5_readsHabit_99 rfl (Nat.le_of_ble_eq_true rfl) (Nat.le_of_ble_eq_true rfl) rfl rfl rfl
set_option maxRecDepth 100000 in
set_option maxHeartbeats 1000000 in
theorem c_X5_readsHabit_F2 {l : Launch} {E : xEnv} {B N : Nat} {σ : Sg} {M : Nat} {U : Vs} {kp ho tx sc : Fn} {n : Nat} (hn : n ≤ 80) (h1 : sc 1 = nI n) {a : Nat} (ha : a ≤ 80) (h4 : sc 4 = nI a) (c0 : (48 ≤ chM n tx a ∧ chM n tx a ≤ 48 + 7)) (c1 : chM n tx (a + 1) = 46) (cf : ¬ (48 ≤ chM n tx (a + 2) ∧ chM n tx (a + 2) ≤ 48 + 5)) : xM l yX5_readsHabit cX5_readsHabit 2 (some .boolean) 3 63 0 0 E B [.ref M] N (mput E σ M U kp ho tx sc) N (mput E σ M U kp ho tx (upd (upd (upd (upd (upd (upd sc 5 (chM n tx a - 48)) 4 (nI (a + 1))) 6 ((upd (upd sc 5 (chM n tx a - 48)) 4 (nI (a + 1))) 5)) 4 (nI (a + 2))) 5 (chM n tx (a + 2) - 48)) 7 ((upd (upd (upd (upd (upd sc 5 (chM n tx a - 48)) 4 (nI (a + 1))) 6 ((upd (upd sc 5 (chM n tx a - 48)) 4 (nI (a + 1))) 5)) 4 (nI (a + 2))) 5 (chM n tx (a + 2) - 48)) 5))) (some (.int 0)) := by
  refine xM_of [some (.ref _), none] (by decide +kernel) (Nat.le_of_ble_eq_true rfl) rfl (fun k0 C Z => ?_)
  refine x_aload_n C dX5_readsHabit_0 rfl ?_
  refine x_bipush (v := 7) C dX5_readsHabit_1 (by decide) ?_
  refine x_callV C (c_X5_readsDigit_t (a := a) (c := 7) hn (by simp [upd, h1]) (by omega) (by simp [upd, h4]) c0) kv_X5_readsDigit kl_X5_165 dX5_readsHabit_3 mput_0 rfl rfl rfl rfl (Nat.le_of_ble_eq_true rfl) (Nat.le_of_ble_eq_true rfl) (Nat.le_of_ble_eq_true rfl) (Nat.le_of_ble_eq_true rfl) (Nat.le_of_ble_eq_true rfl) ?_
  refine x_istore_n C dX5_readsHabit_6 (by decide) rfl ?_
  refine x_aload_n C dX5_readsHabit_7 rfl ?_
  refine x_aload_n C dX5_readsHabit_8 rfl ?_
  refine x_get C kf_X5_155 mput_0 rfl dX5_readsHabit_9 ?_
  refine x_put (ty := .int) C kf_X5_168 mput_0 rfl (by decide +kernel) rfl rfl (Nat.le_of_ble_eq_true rfl) (mput_s6 _) dX5_readsHabit_12 ?_
  refine x_iload_n C dX5_readsHabit_15 rfl ?_
  refine x_if_eq C 40 dX5_readsHabit_16 (by decide) (fun h => absurd h (by decide)) (fun _ => ?_)
  refine x_aload_n C dX5_readsHabit_19 rfl ?_
  refine x_bipush (v := 46) C dX5_readsHabit_20 (by decide) ?_
  refine x_callV C (c_X5_isNext_t (a := (a + 1)) (c := 46) hn (by simp [upd, h1]) (by omega) (by simp [upd, h4]) c1) kv_X5_isNext kl_X5_171 dX5_readsHabit_22 mput_0 rfl rfl rfl rfl (Nat.le_of_ble_eq_true rfl) (Nat.le_of_ble_eq_true rfl) (Nat.le_of_ble_eq_true rfl) (Nat.le_of_ble_eq_true rfl) (Nat.le_of_ble_eq_true rfl) ?_
  refine x_if_eq C 40 dX5_readsHabit_25 (by decide) (fun h => absurd h (by decide)) (fun _ => ?_)
  refine x_aload_n C dX5_readsHabit_28 rfl ?_
  refine x_iconst (v := 5) C dX5_readsHabit_29 (by decide) ?_
  refine x_callV C (c_X5_readsDigit_f (a := (a + 2)) (c := 5) hn (by simp [upd, h1]) (by omega) (by simp [upd, h4]) cf) kv_X5_readsDigit kl_X5_165 dX5_readsHabit_30 mput_0 rfl rfl rfl rfl (Nat.le_of_ble_eq_true rfl) (Nat.le_of_ble_eq_true rfl) (Nat.le_of_ble_eq_true rfl) (Nat.le_of_ble_eq_true rfl) (Nat.le_of_ble_eq_true rfl) ?_
  refine x_if_eq C 40 dX5_readsHabit_33 (by decide) (fun _ => ?_) (fun h => absurd rfl h)
  refine x_iconst (v := 0) C dX5_readsHabit_40 (by decide) ?_
  refine x_istore_n C dX5_readsHabit_41 (by decide) rfl ?_
  refine x_aload_n C dX5_readsHabit_42 rfl ?_
  refine x_aload_n C dX5_readsHabit_43 rfl ?_
  refine x_get C kf_X5_155 mput_0 rfl dX5_readsHabit_44 ?_
  refine x_put (ty := .int) C kf_X5_174 mput_0 rfl (by decide +kernel) rfl rfl (Nat.le_of_ble_eq_true rfl) (mput_s7 _) dX5_readsHabit_47 ?_
  refine x_iload_n C dX5_readsHabit_50 rfl ?_
  refine x_if_eq C 92 dX5_readsHabit_51 (by decide) (fun _ => ?_) (fun h => absurd rfl h)
  refine x_iconst (v := 0) C dX5_readsHabit_92 (by decide) ?_
  refine x_istore_n C dX5_readsHabit_93 (by decide) rfl ?_
  refine x_iload_n C dX5_readsHabit_94 rfl ?_
  refine x_if_ne C 100 dX5_readsHabit_95 (by decide) (fun h => absurd rfl h) (fun _ => ?_)
  refine x_iconst (v := 0) C dX5_readsHabit_98 (by decide) ?_
  exact x_zret C Z dX5_readsHabit_99 rfl (Nat.le_of_ble_eq_true rfl) (Nat.le_of_ble_eq_true rfl) rfl rfl rfl
set_option maxRecDepth 100000 in
set_option maxHeartbeats 1000000 in
theorem c_X5_readsHabit_F3 {l : Launch} {E : xEnv} {B N : Nat} {σ : Sg} {M : Nat} {U : Vs} {kp ho tx sc : Fn} {n : Nat} (hn : n ≤ 80) (h1 : sc 1 = nI n) {a : Nat} (ha : a ≤ 80) (h4 : sc 4 = nI a) (c0 : (48 ≤ chM n tx a ∧ chM n tx a ≤ 48 + 7)) (c1 : chM n tx (a + 1) = 46) (c2 : (48 ≤ chM n tx (a + 2) ∧ chM n tx (a + 2) ≤ 48 + 5)) (cf : ¬ chM n tx (a + 3) = 61) : xM l yX5_readsHabit cX5_readsHabit 2 (some .boolean) 3 63 0 0 E B [.ref M] N (mput E σ M U kp ho tx sc) N (mput E σ M U kp ho tx (upd (upd (upd (upd (upd (upd (upd sc 5 (chM n tx a - 48)) 4 (nI (a + 1))) 6 ((upd (upd sc 5 (chM n tx a - 48)) 4 (nI (a + 1))) 5)) 4 (nI (a + 2))) 5 (chM n tx (a + 2) - 48)) 4 (nI (a + 3))) 7 ((upd (upd (upd (upd (upd (upd sc 5 (chM n tx a - 48)) 4 (nI (a + 1))) 6 ((upd (upd sc 5 (chM n tx a - 48)) 4 (nI (a + 1))) 5)) 4 (nI (a + 2))) 5 (chM n tx (a + 2) - 48)) 4 (nI (a + 3))) 5))) (some (.int 0)) := by
  refine xM_of [some (.ref _), none] (by decide +kernel) (Nat.le_of_ble_eq_true rfl) rfl (fun k0 C Z => ?_)
  refine x_aload_n C dX5_readsHabit_0 rfl ?_
  refine x_bipush (v := 7) C dX5_readsHabit_1 (by decide) ?_
  refine x_callV C (c_X5_readsDigit_t (a := a) (c := 7) hn (by simp [upd, h1]) (by omega) (by simp [upd, h4]) c0) kv_X5_readsDigit kl_X5_165 dX5_readsHabit_3 mput_0 rfl rfl rfl rfl (Nat.le_of_ble_eq_true rfl) (Nat.le_of_ble_eq_true rfl) (Nat.le_of_ble_eq_true rfl) (Nat.le_of_ble_eq_true rfl) (Nat.le_of_ble_eq_true rfl) ?_
  refine x_istore_n C dX5_readsHabit_6 (by decide) rfl ?_
  refine x_aload_n C dX5_readsHabit_7 rfl ?_
  refine x_aload_n C dX5_readsHabit_8 rfl ?_
  refine x_get C kf_X5_155 mput_0 rfl dX5_readsHabit_9 ?_
  refine x_put (ty := .int) C kf_X5_168 mput_0 rfl (by decide +kernel) rfl rfl (Nat.le_of_ble_eq_true rfl) (mput_s6 _) dX5_readsHabit_12 ?_
  refine x_iload_n C dX5_readsHabit_15 rfl ?_
  refine x_if_eq C 40 dX5_readsHabit_16 (by decide) (fun h => absurd h (by decide)) (fun _ => ?_)
  refine x_aload_n C dX5_readsHabit_19 rfl ?_
  refine x_bipush (v := 46) C dX5_readsHabit_20 (by decide) ?_
  refine x_callV C (c_X5_isNext_t (a := (a + 1)) (c := 46) hn (by simp [upd, h1]) (by omega) (by simp [upd, h4]) c1) kv_X5_isNext kl_X5_171 dX5_readsHabit_22 mput_0 rfl rfl rfl rfl (Nat.le_of_ble_eq_true rfl) (Nat.le_of_ble_eq_true rfl) (Nat.le_of_ble_eq_true rfl) (Nat.le_of_ble_eq_true rfl) (Nat.le_of_ble_eq_true rfl) ?_
  refine x_if_eq C 40 dX5_readsHabit_25 (by decide) (fun h => absurd h (by decide)) (fun _ => ?_)
  refine x_aload_n C dX5_readsHabit_28 rfl ?_
  refine x_iconst (v := 5) C dX5_readsHabit_29 (by decide) ?_
  refine x_callV C (c_X5_readsDigit_t (a := (a + 2)) (c := 5) hn (by simp [upd, h1]) (by omega) (by simp [upd, h4]) c2) kv_X5_readsDigit kl_X5_165 dX5_readsHabit_30 mput_0 rfl rfl rfl rfl (Nat.le_of_ble_eq_true rfl) (Nat.le_of_ble_eq_true rfl) (Nat.le_of_ble_eq_true rfl) (Nat.le_of_ble_eq_true rfl) (Nat.le_of_ble_eq_true rfl) ?_
  refine x_if_eq C 40 dX5_readsHabit_33 (by decide) (fun h => absurd h (by decide)) (fun _ => ?_)
  refine x_iconst (v := 1) C dX5_readsHabit_36 (by decide) ?_
  refine x_goto C 41 dX5_readsHabit_37 (by decide) ?_
  refine x_istore_n C dX5_readsHabit_41 (by decide) rfl ?_
  refine x_aload_n C dX5_readsHabit_42 rfl ?_
  refine x_aload_n C dX5_readsHabit_43 rfl ?_
  refine x_get C kf_X5_155 mput_0 rfl dX5_readsHabit_44 ?_
  refine x_put (ty := .int) C kf_X5_174 mput_0 rfl (by decide +kernel) rfl rfl (Nat.le_of_ble_eq_true rfl) (mput_s7 _) dX5_readsHabit_47 ?_
  refine x_iload_n C dX5_readsHabit_50 rfl ?_
  refine x_if_eq C 92 dX5_readsHabit_51 (by decide) (fun h => absurd h (by decide)) (fun _ => ?_)
  refine x_aload_n C dX5_readsHabit_54 rfl ?_
  refine x_bipush (v := 61) C dX5_readsHabit_55 (by decide) ?_
  refine x_callV C (c_X5_isNext_f (a := (a + 3)) (c := 61) hn (by simp [upd, h1]) (by omega) (by simp [upd, h4]) cf) kv_X5_isNext kl_X5_171 dX5_readsHabit_57 mput_0 rfl rfl rfl rfl (Nat.le_of_ble_eq_true rfl) (Nat.le_of_ble_eq_true rfl) (Nat.le_of_ble_eq_true rfl) (Nat.le_of_ble_eq_true rfl) (Nat.le_of_ble_eq_true rfl) ?_
  refine x_if_eq C 92 dX5_readsHabit_60 (by decide) (fun _ => ?_) (fun h => absurd rfl h)
  refine x_iconst (v := 0) C dX5_readsHabit_92 (by decide) ?_
  refine x_istore_n C dX5_readsHabit_93 (by decide) rfl ?_
  refine x_iload_n C dX5_readsHabit_94 rfl ?_
  refine x_if_ne C 100 dX5_readsHabit_95 (by decide) (fun h => absurd rfl h) (fun _ => ?_)
  refine x_iconst (v := 0) C dX5_readsHabit_98 (by decide) ?_
  exact x_zret C Z dX5_readsHabit_99 rfl (Nat.le_of_ble_eq_true rfl) (Nat.le_of_ble_eq_true rfl) rfl rfl rfl
set_option maxRecDepth 100000 in
set_option maxHeartbeats 1000000 in
theorem c_X5_readsHabit_F4 {l : Launch} {E : xEnv} {B N : Nat} {σ : Sg} {M : Nat} {U : Vs} {kp ho tx sc : Fn} {n : Nat} (hn : n ≤ 80) (h1 : sc 1 = nI n) {a : Nat} (ha : a ≤ 80) (h4 : sc 4 = nI a) (c0 : (48 ≤ chM n tx a ∧ chM n tx a ≤ 48 + 7)) (c1 : chM n tx (a + 1) = 46) (c2 : (48 ≤ chM n tx (a + 2) ∧ chM n tx (a + 2) ≤ 48 + 5)) (c3 : chM n tx (a + 3) = 61) (cf : ¬ gesP (chM n tx (a + 4))) : xM l yX5_readsHabit cX5_readsHabit 2 (some .boolean) 3 63 0 0 E B [.ref M] N (mput E σ M U kp ho tx sc) N (mput E σ M U kp ho tx (upd (upd (upd (upd (upd (upd (upd (upd (upd sc 5 (chM n tx a - 48)) 4 (nI (a + 1))) 6 ((upd (upd sc 5 (chM n tx a - 48)) 4 (nI (a + 1))) 5)) 4 (nI (a + 2))) 5 (chM n tx (a + 2) - 48)) 4 (nI (a + 3))) 7 ((upd (upd (upd (upd (upd (upd sc 5 (chM n tx a - 48)) 4 (nI (a + 1))) 6 ((upd (upd sc 5 (chM n tx a - 48)) 4 (nI (a + 1))) 5)) 4 (nI (a + 2))) 5 (chM n tx (a + 2) - 48)) 4 (nI (a + 3))) 5)) 4 (nI (a + 4))) 8 6)) (some (.int 0)) := by
  refine xM_of [some (.ref _), none] (by decide +kernel) (Nat.le_of_ble_eq_true rfl) rfl (fun k0 C Z => ?_)
  refine x_aload_n C dX5_readsHabit_0 rfl ?_
  refine x_bipush (v := 7) C dX5_readsHabit_1 (by decide) ?_
  refine x_callV C (c_X5_readsDigit_t (a := a) (c := 7) hn (by simp [upd, h1]) (by omega) (by simp [upd, h4]) c0) kv_X5_readsDigit kl_X5_165 dX5_readsHabit_3 mput_0 rfl rfl rfl rfl (Nat.le_of_ble_eq_true rfl) (Nat.le_of_ble_eq_true rfl) (Nat.le_of_ble_eq_true rfl) (Nat.le_of_ble_eq_true rfl) (Nat.le_of_ble_eq_true rfl) ?_
  refine x_istore_n C dX5_readsHabit_6 (by decide) rfl ?_
  refine x_aload_n C dX5_readsHabit_7 rfl ?_
  refine x_aload_n C dX5_readsHabit_8 rfl ?_
  refine x_get C kf_X5_155 mput_0 rfl dX5_readsHabit_9 ?_
  refine x_put (ty := .int) C kf_X5_168 mput_0 rfl (by decide +kernel) rfl rfl (Nat.le_of_ble_eq_true rfl) (mput_s6 _) dX5_readsHabit_12 ?_
  refine x_iload_n C dX5_readsHabit_15 rfl ?_
  refine x_if_eq C 40 dX5_readsHabit_16 (by decide) (fun h => absurd h (by decide)) (fun _ => ?_)
  refine x_aload_n C dX5_readsHabit_19 rfl ?_
  refine x_bipush (v := 46) C dX5_readsHabit_20 (by decide) ?_
  refine x_callV C (c_X5_isNext_t (a := (a + 1)) (c := 46) hn (by simp [upd, h1]) (by omega) (by simp [upd, h4]) c1) kv_X5_isNext kl_X5_171 dX5_readsHabit_22 mput_0 rfl rfl rfl rfl (Nat.le_of_ble_eq_true rfl) (Nat.le_of_ble_eq_true rfl) (Nat.le_of_ble_eq_true rfl) (Nat.le_of_ble_eq_true rfl) (Nat.le_of_ble_eq_true rfl) ?_
  refine x_if_eq C 40 dX5_readsHabit_25 (by decide) (fun h => absurd h (by decide)) (fun _ => ?_)
  refine x_aload_n C dX5_readsHabit_28 rfl ?_
  refine x_iconst (v := 5) C dX5_readsHabit_29 (by decide) ?_
  refine x_callV C (c_X5_readsDigit_t (a := (a + 2)) (c := 5) hn (by simp [upd, h1]) (by omega) (by simp [upd, h4]) c2) kv_X5_readsDigit kl_X5_165 dX5_readsHabit_30 mput_0 rfl rfl rfl rfl (Nat.le_of_ble_eq_true rfl) (Nat.le_of_ble_eq_true rfl) (Nat.le_of_ble_eq_true rfl) (Nat.le_of_ble_eq_true rfl) (Nat.le_of_ble_eq_true rfl) ?_
  refine x_if_eq C 40 dX5_readsHabit_33 (by decide) (fun h => absurd h (by decide)) (fun _ => ?_)
  refine x_iconst (v := 1) C dX5_readsHabit_36 (by decide) ?_
  refine x_goto C 41 dX5_readsHabit_37 (by decide) ?_
  refine x_istore_n C dX5_readsHabit_41 (by decide) rfl ?_
  refine x_aload_n C dX5_readsHabit_42 rfl ?_
  refine x_aload_n C dX5_readsHabit_43 rfl ?_
  refine x_get C kf_X5_155 mput_0 rfl dX5_readsHabit_44 ?_
  refine x_put (ty := .int) C kf_X5_174 mput_0 rfl (by decide +kernel) rfl rfl (Nat.le_of_ble_eq_true rfl) (mput_s7 _) dX5_readsHabit_47 ?_
  refine x_iload_n C dX5_readsHabit_50 rfl ?_
  refine x_if_eq C 92 dX5_readsHabit_51 (by decide) (fun h => absurd h (by decide)) (fun _ => ?_)
  refine x_aload_n C dX5_readsHabit_54 rfl ?_
  refine x_bipush (v := 61) C dX5_readsHabit_55 (by decide) ?_
  refine x_callV C (c_X5_isNext_t (a := (a + 3)) (c := 61) hn (by simp [upd, h1]) (by omega) (by simp [upd, h4]) c3) kv_X5_isNext kl_X5_171 dX5_readsHabit_57 mput_0 rfl rfl rfl rfl (Nat.le_of_ble_eq_true rfl) (Nat.le_of_ble_eq_true rfl) (Nat.le_of_ble_eq_true rfl) (Nat.le_of_ble_eq_true rfl) (Nat.le_of_ble_eq_true rfl) ?_
  refine x_if_eq C 92 dX5_readsHabit_60 (by decide) (fun h => absurd h (by decide)) (fun _ => ?_)
  refine x_aload_n C dX5_readsHabit_63 rfl ?_
  refine x_callV C (c_X5_readsWord_e (a := a + 4) hn (by simp [upd, h1]) (by omega) (by simp [upd, h4]) cf) kv_X5_readsWord kl_X5_177 dX5_readsHabit_64 mput_0 rfl rfl rfl rfl (Nat.le_of_ble_eq_true rfl) (Nat.le_of_ble_eq_true rfl) (Nat.le_of_ble_eq_true rfl) (Nat.le_of_ble_eq_true rfl) (Nat.le_of_ble_eq_true rfl) ?_
  refine x_if_eq C 92 dX5_readsHabit_67 (by decide) (fun _ => ?_) (fun h => absurd rfl h)
  refine x_iconst (v := 0) C dX5_readsHabit_92 (by decide) ?_
  refine x_istore_n C dX5_readsHabit_93 (by decide) rfl ?_
  refine x_iload_n C dX5_readsHabit_94 rfl ?_
  refine x_if_ne C 100 dX5_readsHabit_95 (by decide) (fun h => absurd rfl h) (fun _ => ?_)
  refine x_iconst (v := 0) C dX5_readsHabit_98 (by decide) ?_
  exact x_zret C Z dX5_readsHabit_99 rfl (Nat.le_of_ble_eq_true rfl) (Nat.le_of_ble_eq_true rfl) rfl rfl rfl
set_option maxRecDepth 100000 in
set_option maxHeartbeats 1000000 in
theorem c_X5_readsHabit_F5 {l : Launch} {E : xEnv} {B N : Nat} {σ : Sg} {M : Nat} {U : Vs} {kp ho tx sc : Fn} {n : Nat} (hn : n ≤ 80) (h1 : sc 1 = nI n) {a : Nat} (ha : a ≤ 80) (h4 : sc 4 = nI a) {L w : Nat} (hL : L ≤ 3) (HW : ∀ sc : Fn, sc 1 = nI n → sc 4 = nI (a + 4) → xM l yX5_readsWord cX5_readsWord 3 (some .boolean) 2 41 0 0 E B [.ref M] N (mput E σ M U kp ho tx sc) N (mput E σ M U kp ho tx (upd (upd sc 4 (nI (a + 4 + L))) 8 (nI w))) (some (.int 1))) (c0 : (48 ≤ chM n tx a ∧ chM n tx a ≤ 48 + 7)) (c1 : chM n tx (a + 1) = 46) (c2 : (48 ≤ chM n tx (a + 2) ∧ chM n tx (a + 2) ≤ 48 + 5)) (c3 : chM n tx (a + 3) = 61) (cf : ¬ chM n tx (a + 4 + L) = 42) : xM l yX5_readsHabit cX5_readsHabit 2 (some .boolean) 3 63 0 0 E B [.ref M] N (mput E σ M U kp ho tx sc) N (mput E σ M U kp ho tx (upd (upd (upd (upd (upd (upd (upd (upd (upd (upd sc 5 (chM n tx a - 48)) 4 (nI (a + 1))) 6 ((upd (upd sc 5 (chM n tx a - 48)) 4 (nI (a + 1))) 5)) 4 (nI (a + 2))) 5 (chM n tx (a + 2) - 48)) 4 (nI (a + 3))) 7 ((upd (upd (upd (upd (upd (upd sc 5 (chM n tx a - 48)) 4 (nI (a + 1))) 6 ((upd (upd sc 5 (chM n tx a - 48)) 4 (nI (a + 1))) 5)) 4 (nI (a + 2))) 5 (chM n tx (a + 2) - 48)) 4 (nI (a + 3))) 5)) 4 (nI (a + 4))) 4 (nI (a + 4 + L))) 8 (nI w))) (some (.int 0)) := by
  refine xM_of [some (.ref _), none] (by decide +kernel) (Nat.le_of_ble_eq_true rfl) rfl (fun k0 C Z => ?_)
  refine x_aload_n C dX5_readsHabit_0 rfl ?_
  refine x_bipush (v := 7) C dX5_readsHabit_1 (by decide) ?_
  refine x_callV C (c_X5_readsDigit_t (a := a) (c := 7) hn (by simp [upd, h1]) (by omega) (by simp [upd, h4]) c0) kv_X5_readsDigit kl_X5_165 dX5_readsHabit_3 mput_0 rfl rfl rfl rfl (Nat.le_of_ble_eq_true rfl) (Nat.le_of_ble_eq_true rfl) (Nat.le_of_ble_eq_true rfl) (Nat.le_of_ble_eq_true rfl) (Nat.le_of_ble_eq_true rfl) ?_
  refine x_istore_n C dX5_readsHabit_6 (by decide) rfl ?_
  refine x_aload_n C dX5_readsHabit_7 rfl ?_
  refine x_aload_n C dX5_readsHabit_8 rfl ?_
  refine x_get C kf_X5_155 mput_0 rfl dX5_readsHabit_9 ?_
  refine x_put (ty := .int) C kf_X5_168 mput_0 rfl (by decide +kernel) rfl rfl (Nat.le_of_ble_eq_true rfl) (mput_s6 _) dX5_readsHabit_12 ?_
  refine x_iload_n C dX5_readsHabit_15 rfl ?_
  refine x_if_eq C 40 dX5_readsHabit_16 (by decide) (fun h => absurd h (by decide)) (fun _ => ?_)
  refine x_aload_n C dX5_readsHabit_19 rfl ?_
  refine x_bipush (v := 46) C dX5_readsHabit_20 (by decide) ?_
  refine x_callV C (c_X5_isNext_t (a := (a + 1)) (c := 46) hn (by simp [upd, h1]) (by omega) (by simp [upd, h4]) c1) kv_X5_isNext kl_X5_171 dX5_readsHabit_22 mput_0 rfl rfl rfl rfl (Nat.le_of_ble_eq_true rfl) (Nat.le_of_ble_eq_true rfl) (Nat.le_of_ble_eq_true rfl) (Nat.le_of_ble_eq_true rfl) (Nat.le_of_ble_eq_true rfl) ?_
  refine x_if_eq C 40 dX5_readsHabit_25 (by decide) (fun h => absurd h (by decide)) (fun _ => ?_)
  refine x_aload_n C dX5_readsHabit_28 rfl ?_
  refine x_iconst (v := 5) C dX5_readsHabit_29 (by decide) ?_
  refine x_callV C (c_X5_readsDigit_t (a := (a + 2)) (c := 5) hn (by simp [upd, h1]) (by omega) (by simp [upd, h4]) c2) kv_X5_readsDigit kl_X5_165 dX5_readsHabit_30 mput_0 rfl rfl rfl rfl (Nat.le_of_ble_eq_true rfl) (Nat.le_of_ble_eq_true rfl) (Nat.le_of_ble_eq_true rfl) (Nat.le_of_ble_eq_true rfl) (Nat.le_of_ble_eq_true rfl) ?_
  refine x_if_eq C 40 dX5_readsHabit_33 (by decide) (fun h => absurd h (by decide)) (fun _ => ?_)
  refine x_iconst (v := 1) C dX5_readsHabit_36 (by decide) ?_
  refine x_goto C 41 dX5_readsHabit_37 (by decide) ?_
  refine x_istore_n C dX5_readsHabit_41 (by decide) rfl ?_
  refine x_aload_n C dX5_readsHabit_42 rfl ?_
  refine x_aload_n C dX5_readsHabit_43 rfl ?_
  refine x_get C kf_X5_155 mput_0 rfl dX5_readsHabit_44 ?_
  refine x_put (ty := .int) C kf_X5_174 mput_0 rfl (by decide +kernel) rfl rfl (Nat.le_of_ble_eq_true rfl) (mput_s7 _) dX5_readsHabit_47 ?_
  refine x_iload_n C dX5_readsHabit_50 rfl ?_
  refine x_if_eq C 92 dX5_readsHabit_51 (by decide) (fun h => absurd h (by decide)) (fun _ => ?_)
  refine x_aload_n C dX5_readsHabit_54 rfl ?_
  refine x_bipush (v := 61) C dX5_readsHabit_55 (by decide) ?_
  refine x_callV C (c_X5_isNext_t (a := (a + 3)) (c := 61) hn (by simp [upd, h1]) (by omega) (by simp [upd, h4]) c3) kv_X5_isNext kl_X5_171 dX5_readsHabit_57 mput_0 rfl rfl rfl rfl (Nat.le_of_ble_eq_true rfl) (Nat.le_of_ble_eq_true rfl) (Nat.le_of_ble_eq_true rfl) (Nat.le_of_ble_eq_true rfl) (Nat.le_of_ble_eq_true rfl) ?_
  refine x_if_eq C 92 dX5_readsHabit_60 (by decide) (fun h => absurd h (by decide)) (fun _ => ?_)
  refine x_aload_n C dX5_readsHabit_63 rfl ?_
  refine x_callV C (HW _ (by simp [upd, h1]) (by simp [upd, h4])) kv_X5_readsWord kl_X5_177 dX5_readsHabit_64 mput_0 rfl rfl rfl rfl (Nat.le_of_ble_eq_true rfl) (Nat.le_of_ble_eq_true rfl) (Nat.le_of_ble_eq_true rfl) (Nat.le_of_ble_eq_true rfl) (Nat.le_of_ble_eq_true rfl) ?_
  refine x_if_eq C 92 dX5_readsHabit_67 (by decide) (fun h => absurd h (by decide)) (fun _ => ?_)
  refine x_aload_n C dX5_readsHabit_70 rfl ?_
  refine x_bipush (v := 42) C dX5_readsHabit_71 (by decide) ?_
  refine x_callV C (c_X5_isNext_f (a := (a + 4 + L)) (c := 42) hn (by simp [upd, h1]) (by omega) (by simp [upd, h4]) cf) kv_X5_isNext kl_X5_171 dX5_readsHabit_73 mput_0 rfl rfl rfl rfl (Nat.le_of_ble_eq_true rfl) (Nat.le_of_ble_eq_true rfl) (Nat.le_of_ble_eq_true rfl) (Nat.le_of_ble_eq_true rfl) (Nat.le_of_ble_eq_true rfl) ?_
  refine x_if_eq C 92 dX5_readsHabit_76 (by decide) (fun _ => ?_) (fun h => absurd rfl h)
  refine x_iconst (v := 0) C dX5_readsHabit_92 (by decide) ?_
  refine x_istore_n C dX5_readsHabit_93 (by decide) rfl ?_
  refine x_iload_n C dX5_readsHabit_94 rfl ?_
  refine x_if_ne C 100 dX5_readsHabit_95 (by decide) (fun h => absurd rfl h) (fun _ => ?_)
  refine x_iconst (v := 0) C dX5_readsHabit_98 (by decide) ?_
  exact x_zret C Z dX5_readsHabit_99 rfl (Nat.le_of_ble_eq_true rfl) (Nat.le_of_ble_eq_true rfl) rfl rfl rfl
set_option maxRecDepth 100000 in
set_option maxHeartbeats 1000000 in
theorem c_X5_readsHabit_F6 {l : Launch} {E : xEnv} {B N : Nat} {σ : Sg} {M : Nat} {U : Vs} {kp ho tx sc : Fn} {n : Nat} (hn : n ≤ 80) (h1 : sc 1 = nI n) {a : Nat} (ha : a ≤ 80) (h4 : sc 4 = nI a) {L w : Nat} (hL : L ≤ 3) (HW : ∀ sc : Fn, sc 1 = nI n → sc 4 = nI (a + 4) → xM l yX5_readsWord cX5_readsWord 3 (some .boolean) 2 41 0 0 E B [.ref M] N (mput E σ M U kp ho tx sc) N (mput E σ M U kp ho tx (upd (upd sc 4 (nI (a + 4 + L))) 8 (nI w))) (some (.int 1))) (c0 : (48 ≤ chM n tx a ∧ chM n tx a ≤ 48 + 7)) (c1 : chM n tx (a + 1) = 46) (c2 : (48 ≤ chM n tx (a + 2) ∧ chM n tx (a + 2) ≤ 48 + 5)) (c3 : chM n tx (a + 3) = 61) (c5 : chM n tx (a + 4 + L) = 42) (cf : ¬ (48 ≤ chM n tx (a + 4 + L + 1) ∧ chM n tx (a + 4 + L + 1) ≤ 48 + 9)) : xM l yX5_readsHabit cX5_readsHabit 2 (some .boolean) 3 63 0 0 E B [.ref M] N (mput E σ M U kp ho tx sc) N (mput E σ M U kp ho tx (upd (upd (upd (upd (upd (upd (upd (upd (upd (upd (upd (upd sc 5 (chM n tx a - 48)) 4 (nI (a + 1))) 6 ((upd (upd sc 5 (chM n tx a - 48)) 4 (nI (a + 1))) 5)) 4 (nI (a + 2))) 5 (chM n tx (a + 2) - 48)) 4 (nI (a + 3))) 7 ((upd (upd (upd (upd (upd (upd sc 5 (chM n tx a - 48)) 4 (nI (a + 1))) 6 ((upd (upd sc 5 (chM n tx a - 48)) 4 (nI (a + 1))) 5)) 4 (nI (a + 2))) 5 (chM n tx (a + 2) - 48)) 4 (nI (a + 3))) 5)) 4 (nI (a + 4))) 4 (nI (a + 4 + L))) 8 (nI w)) 4 (nI (a + 4 + L + 1))) 5 (chM n tx (a + 4 + L + 1) - 48))) (some (.int 0)) := by
  refine xM_of [some (.ref _), none] (by decide +kernel) (Nat.le_of_ble_eq_true rfl) rfl (fun k0 C Z => ?_)
  refine x_aload_n C dX5_readsHabit_0 rfl ?_
  refine x_bipush (v := 7) C dX5_readsHabit_1 (by decide) ?_
  refine x_callV C (c_X5_readsDigit_t (a := a) (c := 7) hn (by simp [upd, h1]) (by omega) (by simp [upd, h4]) c0) kv_X5_readsDigit kl_X5_165 dX5_readsHabit_3 mput_0 rfl rfl rfl rfl (Nat.le_of_ble_eq_true rfl) (Nat.le_of_ble_eq_true rfl) (Nat.le_of_ble_eq_true rfl) (Nat.le_of_ble_eq_true rfl) (Nat.le_of_ble_eq_true rfl) ?_
  refine x_istore_n C dX5_readsHabit_6 (by decide) rfl ?_
  refine x_aload_n C dX5_readsHabit_7 rfl ?_
  refine x_aload_n C dX5_readsHabit_8 rfl ?_
  refine x_get C kf_X5_155 mput_0 rfl dX5_readsHabit_9 ?_
  refine x_put (ty := .int) C kf_X5_168 mput_0 rfl (by decide +kernel) rfl rfl (Nat.le_of_ble_eq_true rfl) (mput_s6 _) dX5_readsHabit_12 ?_
  refine x_iload_n C dX5_readsHabit_15 rfl ?_
  refine x_if_eq C 40 dX5_readsHabit_16 (by decide) (fun h => absurd h (by decide)) (fun _ => ?_)
  refine x_aload_n C dX5_readsHabit_19 rfl ?_
  refine x_bipush (v := 46) C dX5_readsHabit_20 (by decide) ?_
  refine x_callV C (c_X5_isNext_t (a := (a + 1)) (c := 46) hn (by simp [upd, h1]) (by omega) (by simp [upd, h4]) c1) kv_X5_isNext kl_X5_171 dX5_readsHabit_22 mput_0 rfl rfl rfl rfl (Nat.le_of_ble_eq_true rfl) (Nat.le_of_ble_eq_true rfl) (Nat.le_of_ble_eq_true rfl) (Nat.le_of_ble_eq_true rfl) (Nat.le_of_ble_eq_true rfl) ?_
  refine x_if_eq C 40 dX5_readsHabit_25 (by decide) (fun h => absurd h (by decide)) (fun _ => ?_)
  refine x_aload_n C dX5_readsHabit_28 rfl ?_
  refine x_iconst (v := 5) C dX5_readsHabit_29 (by decide) ?_
  refine x_callV C (c_X5_readsDigit_t (a := (a + 2)) (c := 5) hn (by simp [upd, h1]) (by omega) (by simp [upd, h4]) c2) kv_X5_readsDigit kl_X5_165 dX5_readsHabit_30 mput_0 rfl rfl rfl rfl (Nat.le_of_ble_eq_true rfl) (Nat.le_of_ble_eq_true rfl) (Nat.le_of_ble_eq_true rfl) (Nat.le_of_ble_eq_true rfl) (Nat.le_of_ble_eq_true rfl) ?_
  refine x_if_eq C 40 dX5_readsHabit_33 (by decide) (fun h => absurd h (by decide)) (fun _ => ?_)
  refine x_iconst (v := 1) C dX5_readsHabit_36 (by decide) ?_
  refine x_goto C 41 dX5_readsHabit_37 (by decide) ?_
  refine x_istore_n C dX5_readsHabit_41 (by decide) rfl ?_
  refine x_aload_n C dX5_readsHabit_42 rfl ?_
  refine x_aload_n C dX5_readsHabit_43 rfl ?_
  refine x_get C kf_X5_155 mput_0 rfl dX5_readsHabit_44 ?_
  refine x_put (ty := .int) C kf_X5_174 mput_0 rfl (by decide +kernel) rfl rfl (Nat.le_of_ble_eq_true rfl) (mput_s7 _) dX5_readsHabit_47 ?_
  refine x_iload_n C dX5_readsHabit_50 rfl ?_
  refine x_if_eq C 92 dX5_readsHabit_51 (by decide) (fun h => absurd h (by decide)) (fun _ => ?_)
  refine x_aload_n C dX5_readsHabit_54 rfl ?_
  refine x_bipush (v := 61) C dX5_readsHabit_55 (by decide) ?_
  refine x_callV C (c_X5_isNext_t (a := (a + 3)) (c := 61) hn (by simp [upd, h1]) (by omega) (by simp [upd, h4]) c3) kv_X5_isNext kl_X5_171 dX5_readsHabit_57 mput_0 rfl rfl rfl rfl (Nat.le_of_ble_eq_true rfl) (Nat.le_of_ble_eq_true rfl) (Nat.le_of_ble_eq_true rfl) (Nat.le_of_ble_eq_true rfl) (Nat.le_of_ble_eq_true rfl) ?_
  refine x_if_eq C 92 dX5_readsHabit_60 (by decide) (fun h => absurd h (by decide)) (fun _ => ?_)
  refine x_aload_n C dX5_readsHabit_63 rfl ?_
  refine x_callV C (HW _ (by simp [upd, h1]) (by simp [upd, h4])) kv_X5_readsWord kl_X5_177 dX5_readsHabit_64 mput_0 rfl rfl rfl rfl (Nat.le_of_ble_eq_true rfl) (Nat.le_of_ble_eq_true rfl) (Nat.le_of_ble_eq_true rfl) (Nat.le_of_ble_eq_true rfl) (Nat.le_of_ble_eq_true rfl) ?_
  refine x_if_eq C 92 dX5_readsHabit_67 (by decide) (fun h => absurd h (by decide)) (fun _ => ?_)
  refine x_aload_n C dX5_readsHabit_70 rfl ?_
  refine x_bipush (v := 42) C dX5_readsHabit_71 (by decide) ?_
  refine x_callV C (c_X5_isNext_t (a := (a + 4 + L)) (c := 42) hn (by simp [upd, h1]) (by omega) (by simp [upd, h4]) c5) kv_X5_isNext kl_X5_171 dX5_readsHabit_73 mput_0 rfl rfl rfl rfl (Nat.le_of_ble_eq_true rfl) (Nat.le_of_ble_eq_true rfl) (Nat.le_of_ble_eq_true rfl) (Nat.le_of_ble_eq_true rfl) (Nat.le_of_ble_eq_true rfl) ?_
  refine x_if_eq C 92 dX5_readsHabit_76 (by decide) (fun h => absurd h (by decide)) (fun _ => ?_)
  refine x_aload_n C dX5_readsHabit_79 rfl ?_
  refine x_bipush (v := 9) C dX5_readsHabit_80 (by decide) ?_
  refine x_callV C (c_X5_readsDigit_f (a := (a + 4 + L + 1)) (c := 9) hn (by simp [upd, h1]) (by omega) (by simp [upd, h4]) cf) kv_X5_readsDigit kl_X5_165 dX5_readsHabit_82 mput_0 rfl rfl rfl rfl (Nat.le_of_ble_eq_true rfl) (Nat.le_of_ble_eq_true rfl) (Nat.le_of_ble_eq_true rfl) (Nat.le_of_ble_eq_true rfl) (Nat.le_of_ble_eq_true rfl) ?_
  refine x_if_eq C 92 dX5_readsHabit_85 (by decide) (fun _ => ?_) (fun h => absurd rfl h)
  refine x_iconst (v := 0) C dX5_readsHabit_92 (by decide) ?_
  refine x_istore_n C dX5_readsHabit_93 (by decide) rfl ?_
  refine x_iload_n C dX5_readsHabit_94 rfl ?_
  refine x_if_ne C 100 dX5_readsHabit_95 (by decide) (fun h => absurd rfl h) (fun _ => ?_)
  refine x_iconst (v := 0) C dX5_readsHabit_98 (by decide) ?_
  exact x_zret C Z dX5_readsHabit_99 rfl (Nat.le_of_ble_eq_true rfl) (Nat.le_of_ble_eq_true rfl) rfl rfl rfl
set_option maxRecDepth 100000 in
set_option maxHeartbeats 1000000 in
theorem c_X5_readsHabit_K0 {l : Launch} {E : xEnv} {B N : Nat} {σ : Sg} {M : Nat} {U : Vs} {kp ho tx sc : Fn} {n : Nat} (hn : n ≤ 80) (h1 : sc 1 = nI n) {a : Nat} (ha : a ≤ 80) (h4 : sc 4 = nI a) {L w : Nat} (hL : L ≤ 3) (HW : ∀ sc : Fn, sc 1 = nI n → sc 4 = nI (a + 4) → xM l yX5_readsWord cX5_readsWord 3 (some .boolean) 2 41 0 0 E B [.ref M] N (mput E σ M U kp ho tx sc) N (mput E σ M U kp ho tx (upd (upd sc 4 (nI (a + 4 + L))) 8 (nI w))) (some (.int 1))) (c0 : (48 ≤ chM n tx a ∧ chM n tx a ≤ 48 + 7)) (c1 : chM n tx (a + 1) = 46) (c2 : (48 ≤ chM n tx (a + 2) ∧ chM n tx (a + 2) ≤ 48 + 5)) (c3 : chM n tx (a + 3) = 61) (c5 : chM n tx (a + 4 + L) = 42) (c6 : (48 ≤ chM n tx (a + 4 + L + 1) ∧ chM n tx (a + 4 + L + 1) ≤ 48 + 9)) (cd : chM n tx (a + 4 + L + 1) - 48 ≤ 0) : xM l yX5_readsHabit cX5_readsHabit 2 (some .boolean) 3 63 0 0 E B [.ref M] N (mput E σ M U kp ho tx sc) N (mput E σ M U kp ho tx (upd (upd (upd (upd (upd (upd (upd (upd (upd (upd (upd (upd (upd sc 5 (chM n tx a - 48)) 4 (nI (a + 1))) 6 ((upd (upd sc 5 (chM n tx a - 48)) 4 (nI (a + 1))) 5)) 4 (nI (a + 2))) 5 (chM n tx (a + 2) - 48)) 4 (nI (a + 3))) 7 ((upd (upd (upd (upd (upd (upd sc 5 (chM n tx a - 48)) 4 (nI (a + 1))) 6 ((upd (upd sc 5 (chM n tx a - 48)) 4 (nI (a + 1))) 5)) 4 (nI (a + 2))) 5 (chM n tx (a + 2) - 48)) 4 (nI (a + 3))) 5)) 4 (nI (a + 4))) 4 (nI (a + 4 + L))) 8 (nI w)) 4 (nI (a + 4 + L + 1))) 5 (chM n tx (a + 4 + L + 1) - 48)) 4 (nI (a + 4 + L + 2)))) (some (.int 1)) := by
  refine xM_of [some (.ref _), none] (by decide +kernel) (Nat.le_of_ble_eq_true rfl) rfl (fun k0 C Z => ?_)
  refine x_aload_n C dX5_readsHabit_0 rfl ?_
  refine x_bipush (v := 7) C dX5_readsHabit_1 (by decide) ?_
  refine x_callV C (c_X5_readsDigit_t (a := a) (c := 7) hn (by simp [upd, h1]) (by omega) (by simp [upd, h4]) c0) kv_X5_readsDigit kl_X5_165 dX5_readsHabit_3 mput_0 rfl rfl rfl rfl (Nat.le_of_ble_eq_true rfl) (Nat.le_of_ble_eq_true rfl) (Nat.le_of_ble_eq_true rfl) (Nat.le_of_ble_eq_true rfl) (Nat.le_of_ble_eq_true rfl) ?_
  refine x_istore_n C dX5_readsHabit_6 (by decide) rfl ?_
  refine x_aload_n C dX5_readsHabit_7 rfl ?_
  refine x_aload_n C dX5_readsHabit_8 rfl ?_
  refine x_get C kf_X5_155 mput_0 rfl dX5_readsHabit_9 ?_
  refine x_put (ty := .int) C kf_X5_168 mput_0 rfl (by decide +kernel) rfl rfl (Nat.le_of_ble_eq_true rfl) (mput_s6 _) dX5_readsHabit_12 ?_
  refine x_iload_n C dX5_readsHabit_15 rfl ?_
  refine x_if_eq C 40 dX5_readsHabit_16 (by decide) (fun h => absurd h (by decide)) (fun _ => ?_)
  refine x_aload_n C dX5_readsHabit_19 rfl ?_
  refine x_bipush (v := 46) C dX5_readsHabit_20 (by decide) ?_
  refine x_callV C (c_X5_isNext_t (a := (a + 1)) (c := 46) hn (by simp [upd, h1]) (by omega) (by simp [upd, h4]) c1) kv_X5_isNext kl_X5_171 dX5_readsHabit_22 mput_0 rfl rfl rfl rfl (Nat.le_of_ble_eq_true rfl) (Nat.le_of_ble_eq_true rfl) (Nat.le_of_ble_eq_true rfl) (Nat.le_of_ble_eq_true rfl) (Nat.le_of_ble_eq_true rfl) ?_
  refine x_if_eq C 40 dX5_readsHabit_25 (by decide) (fun h => absurd h (by decide)) (fun _ => ?_)
  refine x_aload_n C dX5_readsHabit_28 rfl ?_
  refine x_iconst (v := 5) C dX5_readsHabit_29 (by decide) ?_
  refine x_callV C (c_X5_readsDigit_t (a := (a + 2)) (c := 5) hn (by simp [upd, h1]) (by omega) (by simp [upd, h4]) c2) kv_X5_readsDigit kl_X5_165 dX5_readsHabit_30 mput_0 rfl rfl rfl rfl (Nat.le_of_ble_eq_true rfl) (Nat.le_of_ble_eq_true rfl) (Nat.le_of_ble_eq_true rfl) (Nat.le_of_ble_eq_true rfl) (Nat.le_of_ble_eq_true rfl) ?_
  refine x_if_eq C 40 dX5_readsHabit_33 (by decide) (fun h => absurd h (by decide)) (fun _ => ?_)
  refine x_iconst (v := 1) C dX5_readsHabit_36 (by decide) ?_
  refine x_goto C 41 dX5_readsHabit_37 (by decide) ?_
  refine x_istore_n C dX5_readsHabit_41 (by decide) rfl ?_
  refine x_aload_n C dX5_readsHabit_42 rfl ?_
  refine x_aload_n C dX5_readsHabit_43 rfl ?_
  refine x_get C kf_X5_155 mput_0 rfl dX5_readsHabit_44 ?_
  refine x_put (ty := .int) C kf_X5_174 mput_0 rfl (by decide +kernel) rfl rfl (Nat.le_of_ble_eq_true rfl) (mput_s7 _) dX5_readsHabit_47 ?_
  refine x_iload_n C dX5_readsHabit_50 rfl ?_
  refine x_if_eq C 92 dX5_readsHabit_51 (by decide) (fun h => absurd h (by decide)) (fun _ => ?_)
  refine x_aload_n C dX5_readsHabit_54 rfl ?_
  refine x_bipush (v := 61) C dX5_readsHabit_55 (by decide) ?_
  refine x_callV C (c_X5_isNext_t (a := (a + 3)) (c := 61) hn (by simp [upd, h1]) (by omega) (by simp [upd, h4]) c3) kv_X5_isNext kl_X5_171 dX5_readsHabit_57 mput_0 rfl rfl rfl rfl (Nat.le_of_ble_eq_true rfl) (Nat.le_of_ble_eq_true rfl) (Nat.le_of_ble_eq_true rfl) (Nat.le_of_ble_eq_true rfl) (Nat.le_of_ble_eq_true rfl) ?_
  refine x_if_eq C 92 dX5_readsHabit_60 (by decide) (fun h => absurd h (by decide)) (fun _ => ?_)
  refine x_aload_n C dX5_readsHabit_63 rfl ?_
  refine x_callV C (HW _ (by simp [upd, h1]) (by simp [upd, h4])) kv_X5_readsWord kl_X5_177 dX5_readsHabit_64 mput_0 rfl rfl rfl rfl (Nat.le_of_ble_eq_true rfl) (Nat.le_of_ble_eq_true rfl) (Nat.le_of_ble_eq_true rfl) (Nat.le_of_ble_eq_true rfl) (Nat.le_of_ble_eq_true rfl) ?_
  refine x_if_eq C 92 dX5_readsHabit_67 (by decide) (fun h => absurd h (by decide)) (fun _ => ?_)
  refine x_aload_n C dX5_readsHabit_70 rfl ?_
  refine x_bipush (v := 42) C dX5_readsHabit_71 (by decide) ?_
  refine x_callV C (c_X5_isNext_t (a := (a + 4 + L)) (c := 42) hn (by simp [upd, h1]) (by omega) (by simp [upd, h4]) c5) kv_X5_isNext kl_X5_171 dX5_readsHabit_73 mput_0 rfl rfl rfl rfl (Nat.le_of_ble_eq_true rfl) (Nat.le_of_ble_eq_true rfl) (Nat.le_of_ble_eq_true rfl) (Nat.le_of_ble_eq_true rfl) (Nat.le_of_ble_eq_true rfl) ?_
  refine x_if_eq C 92 dX5_readsHabit_76 (by decide) (fun h => absurd h (by decide)) (fun _ => ?_)
  refine x_aload_n C dX5_readsHabit_79 rfl ?_
  refine x_bipush (v := 9) C dX5_readsHabit_80 (by decide) ?_
  refine x_callV C (c_X5_readsDigit_t (a := (a + 4 + L + 1)) (c := 9) hn (by simp [upd, h1]) (by omega) (by simp [upd, h4]) c6) kv_X5_readsDigit kl_X5_165 dX5_readsHabit_82 mput_0 rfl rfl rfl rfl (Nat.le_of_ble_eq_true rfl) (Nat.le_of_ble_eq_true rfl) (Nat.le_of_ble_eq_true rfl) (Nat.le_of_ble_eq_true rfl) (Nat.le_of_ble_eq_true rfl) ?_
  refine x_if_eq C 92 dX5_readsHabit_85 (by decide) (fun h => absurd h (by decide)) (fun _ => ?_)
  refine x_iconst (v := 1) C dX5_readsHabit_88 (by decide) ?_
  refine x_goto C 93 dX5_readsHabit_89 (by decide) ?_
  refine x_istore_n C dX5_readsHabit_93 (by decide) rfl ?_
  refine x_iload_n C dX5_readsHabit_94 rfl ?_
  refine x_if_ne C 100 dX5_readsHabit_95 (by decide) (fun _ => ?_) (fun h => absurd h (by decide))
  refine x_aload_n C dX5_readsHabit_100 rfl ?_
  refine x_get C kf_X5_155 mput_0 rfl dX5_readsHabit_101 ?_
  rw [pk_un (by decide), pk_us]
  refine x_if_le C 158 dX5_readsHabit_104 (by decide) (fun _ => ?_) (fun h => absurd cd h)
  refine x_iconst (v := 1) C dX5_readsHabit_158 (by decide) ?_
  exact x_zret C Z dX5_readsHabit_159 rfl (Nat.le_of_ble_eq_true rfl) (Nat.le_of_ble_eq_true rfl) rfl rfl rfl
set_option maxRecDepth 100000 in
set_option maxHeartbeats 1000000 in
theorem c_X5_readsHabit_K1 {l : Launch} {E : xEnv} {B N : Nat} {σ : Sg} {M : Nat} {U : Vs} {kp ho tx sc : Fn} {n : Nat} (hn : n ≤ 80) (h1 : sc 1 = nI n) {a : Nat} (ha : a ≤ 80) (h4 : sc 4 = nI a) {L w : Nat} (hL : L ≤ 3) (HW : ∀ sc : Fn, sc 1 = nI n → sc 4 = nI (a + 4) → xM l yX5_readsWord cX5_readsWord 3 (some .boolean) 2 41 0 0 E B [.ref M] N (mput E σ M U kp ho tx sc) N (mput E σ M U kp ho tx (upd (upd sc 4 (nI (a + 4 + L))) 8 (nI w))) (some (.int 1))) (c0 : (48 ≤ chM n tx a ∧ chM n tx a ≤ 48 + 7)) (c1 : chM n tx (a + 1) = 46) (c2 : (48 ≤ chM n tx (a + 2) ∧ chM n tx (a + 2) ≤ 48 + 5)) (c3 : chM n tx (a + 3) = 61) (c5 : chM n tx (a + 4 + L) = 42) (c6 : (48 ≤ chM n tx (a + 4 + L + 1) ∧ chM n tx (a + 4 + L + 1) ≤ 48 + 9)) (cd : ¬ chM n tx (a + 4 + L + 1) - 48 ≤ 0) (ce : ¬ (48 ≤ chM n tx (a + 4 + L + 2) ∧ chM n tx (a + 4 + L + 2) ≤ 57)) : xM l yX5_readsHabit cX5_readsHabit 2 (some .boolean) 3 63 0 0 E B [.ref M] N (mput E σ M U kp ho tx sc) N (mput E σ M U kp ho tx (upd (upd (upd (upd (upd (upd (upd (upd (upd (upd (upd (upd (upd sc 5 (chM n tx a - 48)) 4 (nI (a + 1))) 6 ((upd (upd sc 5 (chM n tx a - 48)) 4 (nI (a + 1))) 5)) 4 (nI (a + 2))) 5 (chM n tx (a + 2) - 48)) 4 (nI (a + 3))) 7 ((upd (upd (upd (upd (upd (upd sc 5 (chM n tx a - 48)) 4 (nI (a + 1))) 6 ((upd (upd sc 5 (chM n tx a - 48)) 4 (nI (a + 1))) 5)) 4 (nI (a + 2))) 5 (chM n tx (a + 2) - 48)) 4 (nI (a + 3))) 5)) 4 (nI (a + 4))) 4 (nI (a + 4 + L))) 8 (nI w)) 4 (nI (a + 4 + L + 1))) 5 (chM n tx (a + 4 + L + 1) - 48)) 4 (nI (a + 4 + L + 2)))) (some (.int 1)) := by
  refine xM_of [some (.ref _), none] (by decide +kernel) (Nat.le_of_ble_eq_true rfl) rfl (fun k0 C Z => ?_)
  refine x_aload_n C dX5_readsHabit_0 rfl ?_
  refine x_bipush (v := 7) C dX5_readsHabit_1 (by decide) ?_
  refine x_callV C (c_X5_readsDigit_t (a := a) (c := 7) hn (by simp [upd, h1]) (by omega) (by simp [upd, h4]) c0) kv_X5_readsDigit kl_X5_165 dX5_readsHabit_3 mput_0 rfl rfl rfl rfl (Nat.le_of_ble_eq_true rfl) (Nat.le_of_ble_eq_true rfl) (Nat.le_of_ble_eq_true rfl) (Nat.le_of_ble_eq_true rfl) (Nat.le_of_ble_eq_true rfl) ?_
  refine x_istore_n C dX5_readsHabit_6 (by decide) rfl ?_
  refine x_aload_n C dX5_readsHabit_7 rfl ?_
  refine x_aload_n C dX5_readsHabit_8 rfl ?_
  refine x_get C kf_X5_155 mput_0 rfl dX5_readsHabit_9 ?_
  refine x_put (ty := .int) C kf_X5_168 mput_0 rfl (by decide +kernel) rfl rfl (Nat.le_of_ble_eq_true rfl) (mput_s6 _) dX5_readsHabit_12 ?_
  refine x_iload_n C dX5_readsHabit_15 rfl ?_
  refine x_if_eq C 40 dX5_readsHabit_16 (by decide) (fun h => absurd h (by decide)) (fun _ => ?_)
  refine x_aload_n C dX5_readsHabit_19 rfl ?_
  refine x_bipush (v := 46) C dX5_readsHabit_20 (by decide) ?_
  refine x_callV C (c_X5_isNext_t (a := (a + 1)) (c := 46) hn (by simp [upd, h1]) (by omega) (by simp [upd, h4]) c1) kv_X5_isNext kl_X5_171 dX5_readsHabit_22 mput_0 rfl rfl rfl rfl (Nat.le_of_ble_eq_true rfl) (Nat.le_of_ble_eq_true rfl) (Nat.le_of_ble_eq_true rfl) (Nat.le_of_ble_eq_true rfl) (Nat.le_of_ble_eq_true rfl) ?_
  refine x_if_eq C 40 dX5_readsHabit_25 (by decide) (fun h => absurd h (by decide)) (fun _ => ?_)
  refine x_aload_n C dX5_readsHabit_28 rfl ?_
  refine x_iconst (v := 5) C dX5_readsHabit_29 (by decide) ?_
  refine x_callV C (c_X5_readsDigit_t (a := (a + 2)) (c := 5) hn (by simp [upd, h1]) (by omega) (by simp [upd, h4]) c2) kv_X5_readsDigit kl_X5_165 dX5_readsHabit_30 mput_0 rfl rfl rfl rfl (Nat.le_of_ble_eq_true rfl) (Nat.le_of_ble_eq_true rfl) (Nat.le_of_ble_eq_true rfl) (Nat.le_of_ble_eq_true rfl) (Nat.le_of_ble_eq_true rfl) ?_
  refine x_if_eq C 40 dX5_readsHabit_33 (by decide) (fun h => absurd h (by decide)) (fun _ => ?_)
  refine x_iconst (v := 1) C dX5_readsHabit_36 (by decide) ?_
  refine x_goto C 41 dX5_readsHabit_37 (by decide) ?_
  refine x_istore_n C dX5_readsHabit_41 (by decide) rfl ?_
  refine x_aload_n C dX5_readsHabit_42 rfl ?_
  refine x_aload_n C dX5_readsHabit_43 rfl ?_
  refine x_get C kf_X5_155 mput_0 rfl dX5_readsHabit_44 ?_
  refine x_put (ty := .int) C kf_X5_174 mput_0 rfl (by decide +kernel) rfl rfl (Nat.le_of_ble_eq_true rfl) (mput_s7 _) dX5_readsHabit_47 ?_
  refine x_iload_n C dX5_readsHabit_50 rfl ?_
  refine x_if_eq C 92 dX5_readsHabit_51 (by decide) (fun h => absurd h (by decide)) (fun _ => ?_)
  refine x_aload_n C dX5_readsHabit_54 rfl ?_
  refine x_bipush (v := 61) C dX5_readsHabit_55 (by decide) ?_
  refine x_callV C (c_X5_isNext_t (a := (a + 3)) (c := 61) hn (by simp [upd, h1]) (by omega) (by simp [upd, h4]) c3) kv_X5_isNext kl_X5_171 dX5_readsHabit_57 mput_0 rfl rfl rfl rfl (Nat.le_of_ble_eq_true rfl) (Nat.le_of_ble_eq_true rfl) (Nat.le_of_ble_eq_true rfl) (Nat.le_of_ble_eq_true rfl) (Nat.le_of_ble_eq_true rfl) ?_
  refine x_if_eq C 92 dX5_readsHabit_60 (by decide) (fun h => absurd h (by decide)) (fun _ => ?_)
  refine x_aload_n C dX5_readsHabit_63 rfl ?_
  refine x_callV C (HW _ (by simp [upd, h1]) (by simp [upd, h4])) kv_X5_readsWord kl_X5_177 dX5_readsHabit_64 mput_0 rfl rfl rfl rfl (Nat.le_of_ble_eq_true rfl) (Nat.le_of_ble_eq_true rfl) (Nat.le_of_ble_eq_true rfl) (Nat.le_of_ble_eq_true rfl) (Nat.le_of_ble_eq_true rfl) ?_
  refine x_if_eq C 92 dX5_readsHabit_67 (by decide) (fun h => absurd h (by decide)) (fun _ => ?_)
  refine x_aload_n C dX5_readsHabit_70 rfl ?_
  refine x_bipush (v := 42) C dX5_readsHabit_71 (by decide) ?_
  refine x_callV C (c_X5_isNext_t (a := (a + 4 + L)) (c := 42) hn (by simp [upd, h1]) (by omega) (by simp [upd, h4]) c5) kv_X5_isNext kl_X5_171 dX5_readsHabit_73 mput_0 rfl rfl rfl rfl (Nat.le_of_ble_eq_true rfl) (Nat.le_of_ble_eq_true rfl) (Nat.le_of_ble_eq_true rfl) (Nat.le_of_ble_eq_true rfl) (Nat.le_of_ble_eq_true rfl) ?_
  refine x_if_eq C 92 dX5_readsHabit_76 (by decide) (fun h => absurd h (by decide)) (fun _ => ?_)
  refine x_aload_n C dX5_readsHabit_79 rfl ?_
  refine x_bipush (v := 9) C dX5_readsHabit_80 (by decide) ?_
  refine x_callV C (c_X5_readsDigit_t (a := (a + 4 + L + 1)) (c := 9) hn (by simp [upd, h1]) (by omega) (by simp [upd, h4]) c6) kv_X5_readsDigit kl_X5_165 dX5_readsHabit_82 mput_0 rfl rfl rfl rfl (Nat.le_of_ble_eq_true rfl) (Nat.le_of_ble_eq_true rfl) (Nat.le_of_ble_eq_true rfl) (Nat.le_of_ble_eq_true rfl) (Nat.le_of_ble_eq_true rfl) ?_
  refine x_if_eq C 92 dX5_readsHabit_85 (by decide) (fun h => absurd h (by decide)) (fun _ => ?_)
  refine x_iconst (v := 1) C dX5_readsHabit_88 (by decide) ?_
  refine x_goto C 93 dX5_readsHabit_89 (by decide) ?_
  refine x_istore_n C dX5_readsHabit_93 (by decide) rfl ?_
  refine x_iload_n C dX5_readsHabit_94 rfl ?_
  refine x_if_ne C 100 dX5_readsHabit_95 (by decide) (fun _ => ?_) (fun h => absurd h (by decide))
  refine x_aload_n C dX5_readsHabit_100 rfl ?_
  refine x_get C kf_X5_155 mput_0 rfl dX5_readsHabit_101 ?_
  rw [pk_un (by decide), pk_us]
  refine x_if_le C 158 dX5_readsHabit_104 (by decide) (fun h => absurd h cd) (fun _ => ?_)
  refine x_aload_n C dX5_readsHabit_107 rfl ?_
  refine x_aload_n C dX5_readsHabit_108 rfl ?_
  refine x_get C kf_X5_149 mput_0 rfl dX5_readsHabit_109 ?_
  rw [pk_us]
  refine x_callV C (c_X5_character (j := a + 4 + L + 2) hn (by simp [upd, h1]) (by omega)) kv_X5_character kl_X5_152 dX5_readsHabit_112 mput_0 rfl rfl rfl rfl (Nat.le_of_ble_eq_true rfl) (Nat.le_of_ble_eq_true rfl) (Nat.le_of_ble_eq_true rfl) (Nat.le_of_ble_eq_true rfl) (Nat.le_of_ble_eq_true rfl) ?_
  refine x_bipush (v := 48) C dX5_readsHabit_115 (by decide) ?_
  refine x_bipush (v := 57) C dX5_readsHabit_117 (by decide) ?_
  refine x_callS C (c_X5_within _ _ _) ks_X5_within kl_X5_30 dX5_readsHabit_119 rfl rfl rfl rfl (Nat.le_of_ble_eq_true rfl) (Nat.le_of_ble_eq_true rfl) (Nat.le_of_ble_eq_true rfl) (Nat.le_of_ble_eq_true rfl) (Nat.le_of_ble_eq_true rfl) ?_
  refine x_beq C 158 dX5_readsHabit_122 (by decide) (fun _ => ?_) (fun h => absurd h ce)
  refine x_iconst (v := 1) C dX5_readsHabit_158 (by decide) ?_
  exact x_zret C Z dX5_readsHabit_159 rfl (Nat.le_of_ble_eq_true rfl) (Nat.le_of_ble_eq_true rfl) rfl rfl rfl
set_option maxRecDepth 100000 in
set_option maxHeartbeats 1000000 in
theorem c_X5_readsHabit_K2 {l : Launch} {E : xEnv} {B N : Nat} {σ : Sg} {M : Nat} {U : Vs} {kp ho tx sc : Fn} {n : Nat} (hn : n ≤ 80) (h1 : sc 1 = nI n) {a : Nat} (ha : a ≤ 80) (h4 : sc 4 = nI a) {L w : Nat} (hL : L ≤ 3) (HW : ∀ sc : Fn, sc 1 = nI n → sc 4 = nI (a + 4) → xM l yX5_readsWord cX5_readsWord 3 (some .boolean) 2 41 0 0 E B [.ref M] N (mput E σ M U kp ho tx sc) N (mput E σ M U kp ho tx (upd (upd sc 4 (nI (a + 4 + L))) 8 (nI w))) (some (.int 1))) (c0 : (48 ≤ chM n tx a ∧ chM n tx a ≤ 48 + 7)) (c1 : chM n tx (a + 1) = 46) (c2 : (48 ≤ chM n tx (a + 2) ∧ chM n tx (a + 2) ≤ 48 + 5)) (c3 : chM n tx (a + 3) = 61) (c5 : chM n tx (a + 4 + L) = 42) (c6 : (48 ≤ chM n tx (a + 4 + L + 1) ∧ chM n tx (a + 4 + L + 1) ≤ 48 + 9)) (cd : ¬ chM n tx (a + 4 + L + 1) - 48 ≤ 0) (ce : (48 ≤ chM n tx (a + 4 + L + 2) ∧ chM n tx (a + 4 + L + 2) ≤ 57)) : xM l yX5_readsHabit cX5_readsHabit 2 (some .boolean) 3 63 0 0 E B [.ref M] N (mput E σ M U kp ho tx sc) N (mput E σ M U kp ho tx (upd (upd (upd (upd (upd (upd (upd (upd (upd (upd (upd (upd (upd (upd (upd sc 5 (chM n tx a - 48)) 4 (nI (a + 1))) 6 ((upd (upd sc 5 (chM n tx a - 48)) 4 (nI (a + 1))) 5)) 4 (nI (a + 2))) 5 (chM n tx (a + 2) - 48)) 4 (nI (a + 3))) 7 ((upd (upd (upd (upd (upd (upd sc 5 (chM n tx a - 48)) 4 (nI (a + 1))) 6 ((upd (upd sc 5 (chM n tx a - 48)) 4 (nI (a + 1))) 5)) 4 (nI (a + 2))) 5 (chM n tx (a + 2) - 48)) 4 (nI (a + 3))) 5)) 4 (nI (a + 4))) 4 (nI (a + 4 + L))) 8 (nI w)) 4 (nI (a + 4 + L + 1))) 5 (chM n tx (a + 4 + L + 1) - 48)) 4 (nI (a + 4 + L + 2))) 5 (10 * (chM n tx (a + 4 + L + 1) - 48) + chM n tx (a + 4 + L + 2) - 48)) 4 (upd (upd (upd (upd (upd (upd (upd (upd (upd (upd (upd (upd (upd (upd sc 5 (chM n tx a - 48)) 4 (nI (a + 1))) 6 ((upd (upd sc 5 (chM n tx a - 48)) 4 (nI (a + 1))) 5)) 4 (nI (a + 2))) 5 (chM n tx (a + 2) - 48)) 4 (nI (a + 3))) 7 ((upd (upd (upd (upd (upd (upd sc 5 (chM n tx a - 48)) 4 (nI (a + 1))) 6 ((upd (upd sc 5 (chM n tx a - 48)) 4 (nI (a + 1))) 5)) 4 (nI (a + 2))) 5 (chM n tx (a + 2) - 48)) 4 (nI (a + 3))) 5)) 4 (nI (a + 4))) 4 (nI (a + 4 + L))) 8 (nI w)) 4 (nI (a + 4 + L + 1))) 5 (chM n tx (a + 4 + L + 1) - 48)) 4 (nI (a + 4 + L + 2))) 5 (10 * (chM n tx (a + 4 + L + 1) - 48) + chM n tx (a + 4 + L + 2) - 48) 4 + 1))) (some (.int 1)) := by
  refine xM_of [some (.ref _), none] (by decide +kernel) (Nat.le_of_ble_eq_true rfl) rfl (fun k0 C Z => ?_)
  refine x_aload_n C dX5_readsHabit_0 rfl ?_
  refine x_bipush (v := 7) C dX5_readsHabit_1 (by decide) ?_
  refine x_callV C (c_X5_readsDigit_t (a := a) (c := 7) hn (by simp [upd, h1]) (by omega) (by simp [upd, h4]) c0) kv_X5_readsDigit kl_X5_165 dX5_readsHabit_3 mput_0 rfl rfl rfl rfl (Nat.le_of_ble_eq_true rfl) (Nat.le_of_ble_eq_true rfl) (Nat.le_of_ble_eq_true rfl) (Nat.le_of_ble_eq_true rfl) (Nat.le_of_ble_eq_true rfl) ?_
  refine x_istore_n C dX5_readsHabit_6 (by decide) rfl ?_
  refine x_aload_n C dX5_readsHabit_7 rfl ?_
  refine x_aload_n C dX5_readsHabit_8 rfl ?_
  refine x_get C kf_X5_155 mput_0 rfl dX5_readsHabit_9 ?_
  refine x_put (ty := .int) C kf_X5_168 mput_0 rfl (by decide +kernel) rfl rfl (Nat.le_of_ble_eq_true rfl) (mput_s6 _) dX5_readsHabit_12 ?_
  refine x_iload_n C dX5_readsHabit_15 rfl ?_
  refine x_if_eq C 40 dX5_readsHabit_16 (by decide) (fun h => absurd h (by decide)) (fun _ => ?_)
  refine x_aload_n C dX5_readsHabit_19 rfl ?_
  refine x_bipush (v := 46) C dX5_readsHabit_20 (by decide) ?_
  refine x_callV C (c_X5_isNext_t (a := (a + 1)) (c := 46) hn (by simp [upd, h1]) (by omega) (by simp [upd, h4]) c1) kv_X5_isNext kl_X5_171 dX5_readsHabit_22 mput_0 rfl rfl rfl rfl (Nat.le_of_ble_eq_true rfl) (Nat.le_of_ble_eq_true rfl) (Nat.le_of_ble_eq_true rfl) (Nat.le_of_ble_eq_true rfl) (Nat.le_of_ble_eq_true rfl) ?_
  refine x_if_eq C 40 dX5_readsHabit_25 (by decide) (fun h => absurd h (by decide)) (fun _ => ?_)
  refine x_aload_n C dX5_readsHabit_28 rfl ?_
  refine x_iconst (v := 5) C dX5_readsHabit_29 (by decide) ?_
  refine x_callV C (c_X5_readsDigit_t (a := (a + 2)) (c := 5) hn (by simp [upd, h1]) (by omega) (by simp [upd, h4]) c2) kv_X5_readsDigit kl_X5_165 dX5_readsHabit_30 mput_0 rfl rfl rfl rfl (Nat.le_of_ble_eq_true rfl) (Nat.le_of_ble_eq_true rfl) (Nat.le_of_ble_eq_true rfl) (Nat.le_of_ble_eq_true rfl) (Nat.le_of_ble_eq_true rfl) ?_
  refine x_if_eq C 40 dX5_readsHabit_33 (by decide) (fun h => absurd h (by decide)) (fun _ => ?_)
  refine x_iconst (v := 1) C dX5_readsHabit_36 (by decide) ?_
  refine x_goto C 41 dX5_readsHabit_37 (by decide) ?_
  refine x_istore_n C dX5_readsHabit_41 (by decide) rfl ?_
  refine x_aload_n C dX5_readsHabit_42 rfl ?_
  refine x_aload_n C dX5_readsHabit_43 rfl ?_
  refine x_get C kf_X5_155 mput_0 rfl dX5_readsHabit_44 ?_
  refine x_put (ty := .int) C kf_X5_174 mput_0 rfl (by decide +kernel) rfl rfl (Nat.le_of_ble_eq_true rfl) (mput_s7 _) dX5_readsHabit_47 ?_
  refine x_iload_n C dX5_readsHabit_50 rfl ?_
  refine x_if_eq C 92 dX5_readsHabit_51 (by decide) (fun h => absurd h (by decide)) (fun _ => ?_)
  refine x_aload_n C dX5_readsHabit_54 rfl ?_
  refine x_bipush (v := 61) C dX5_readsHabit_55 (by decide) ?_
  refine x_callV C (c_X5_isNext_t (a := (a + 3)) (c := 61) hn (by simp [upd, h1]) (by omega) (by simp [upd, h4]) c3) kv_X5_isNext kl_X5_171 dX5_readsHabit_57 mput_0 rfl rfl rfl rfl (Nat.le_of_ble_eq_true rfl) (Nat.le_of_ble_eq_true rfl) (Nat.le_of_ble_eq_true rfl) (Nat.le_of_ble_eq_true rfl) (Nat.le_of_ble_eq_true rfl) ?_
  refine x_if_eq C 92 dX5_readsHabit_60 (by decide) (fun h => absurd h (by decide)) (fun _ => ?_)
  refine x_aload_n C dX5_readsHabit_63 rfl ?_
  refine x_callV C (HW _ (by simp [upd, h1]) (by simp [upd, h4])) kv_X5_readsWord kl_X5_177 dX5_readsHabit_64 mput_0 rfl rfl rfl rfl (Nat.le_of_ble_eq_true rfl) (Nat.le_of_ble_eq_true rfl) (Nat.le_of_ble_eq_true rfl) (Nat.le_of_ble_eq_true rfl) (Nat.le_of_ble_eq_true rfl) ?_
  refine x_if_eq C 92 dX5_readsHabit_67 (by decide) (fun h => absurd h (by decide)) (fun _ => ?_)
  refine x_aload_n C dX5_readsHabit_70 rfl ?_
  refine x_bipush (v := 42) C dX5_readsHabit_71 (by decide) ?_
  refine x_callV C (c_X5_isNext_t (a := (a + 4 + L)) (c := 42) hn (by simp [upd, h1]) (by omega) (by simp [upd, h4]) c5) kv_X5_isNext kl_X5_171 dX5_readsHabit_73 mput_0 rfl rfl rfl rfl (Nat.le_of_ble_eq_true rfl) (Nat.le_of_ble_eq_true rfl) (Nat.le_of_ble_eq_true rfl) (Nat.le_of_ble_eq_true rfl) (Nat.le_of_ble_eq_true rfl) ?_
  refine x_if_eq C 92 dX5_readsHabit_76 (by decide) (fun h => absurd h (by decide)) (fun _ => ?_)
  refine x_aload_n C dX5_readsHabit_79 rfl ?_
  refine x_bipush (v := 9) C dX5_readsHabit_80 (by decide) ?_
  refine x_callV C (c_X5_readsDigit_t (a := (a + 4 + L + 1)) (c := 9) hn (by simp [upd, h1]) (by omega) (by simp [upd, h4]) c6) kv_X5_readsDigit kl_X5_165 dX5_readsHabit_82 mput_0 rfl rfl rfl rfl (Nat.le_of_ble_eq_true rfl) (Nat.le_of_ble_eq_true rfl) (Nat.le_of_ble_eq_true rfl) (Nat.le_of_ble_eq_true rfl) (Nat.le_of_ble_eq_true rfl) ?_
  refine x_if_eq C 92 dX5_readsHabit_85 (by decide) (fun h => absurd h (by decide)) (fun _ => ?_)
  refine x_iconst (v := 1) C dX5_readsHabit_88 (by decide) ?_
  refine x_goto C 93 dX5_readsHabit_89 (by decide) ?_
  refine x_istore_n C dX5_readsHabit_93 (by decide) rfl ?_
  refine x_iload_n C dX5_readsHabit_94 rfl ?_
  refine x_if_ne C 100 dX5_readsHabit_95 (by decide) (fun _ => ?_) (fun h => absurd h (by decide))
  refine x_aload_n C dX5_readsHabit_100 rfl ?_
  refine x_get C kf_X5_155 mput_0 rfl dX5_readsHabit_101 ?_
  rw [pk_un (by decide), pk_us]
  refine x_if_le C 158 dX5_readsHabit_104 (by decide) (fun h => absurd h cd) (fun _ => ?_)
  refine x_aload_n C dX5_readsHabit_107 rfl ?_
  refine x_aload_n C dX5_readsHabit_108 rfl ?_
  refine x_get C kf_X5_149 mput_0 rfl dX5_readsHabit_109 ?_
  rw [pk_us]
  refine x_callV C (c_X5_character (j := a + 4 + L + 2) hn (by simp [upd, h1]) (by omega)) kv_X5_character kl_X5_152 dX5_readsHabit_112 mput_0 rfl rfl rfl rfl (Nat.le_of_ble_eq_true rfl) (Nat.le_of_ble_eq_true rfl) (Nat.le_of_ble_eq_true rfl) (Nat.le_of_ble_eq_true rfl) (Nat.le_of_ble_eq_true rfl) ?_
  refine x_bipush (v := 48) C dX5_readsHabit_115 (by decide) ?_
  refine x_bipush (v := 57) C dX5_readsHabit_117 (by decide) ?_
  refine x_callS C (c_X5_within _ _ _) ks_X5_within kl_X5_30 dX5_readsHabit_119 rfl rfl rfl rfl (Nat.le_of_ble_eq_true rfl) (Nat.le_of_ble_eq_true rfl) (Nat.le_of_ble_eq_true rfl) (Nat.le_of_ble_eq_true rfl) (Nat.le_of_ble_eq_true rfl) ?_
  refine x_beq C 158 dX5_readsHabit_122 (by decide) (fun h => absurd ce h) (fun _ => ?_)
  refine x_aload_n C dX5_readsHabit_125 rfl ?_
  refine x_bipush (v := 10) C dX5_readsHabit_126 (by decide) ?_
  refine x_aload_n C dX5_readsHabit_128 rfl ?_
  refine x_get C kf_X5_155 mput_0 rfl dX5_readsHabit_129 ?_
  rw [pk_un (by decide), pk_us]
  refine x_imul C dX5_readsHabit_132 ?_
  refine x_aload_n C dX5_readsHabit_133 rfl ?_
  refine x_aload_n C dX5_readsHabit_134 rfl ?_
  refine x_get C kf_X5_149 mput_0 rfl dX5_readsHabit_135 ?_
  rw [pk_us]
  refine x_callV C (c_X5_character (j := a + 4 + L + 2) hn (by simp [upd, h1]) (by omega)) kv_X5_character kl_X5_152 dX5_readsHabit_138 mput_0 rfl rfl rfl rfl (Nat.le_of_ble_eq_true rfl) (Nat.le_of_ble_eq_true rfl) (Nat.le_of_ble_eq_true rfl) (Nat.le_of_ble_eq_true rfl) (Nat.le_of_ble_eq_true rfl) ?_
  refine x_iadd C dX5_readsHabit_141 ?_
  refine x_bipush (v := 48) C dX5_readsHabit_142 (by decide) ?_
  refine x_isub C dX5_readsHabit_144 ?_
  refine x_put (ty := .int) C kf_X5_155 mput_0 rfl (by decide +kernel) rfl rfl (Nat.le_of_ble_eq_true rfl) (mput_s5 _) dX5_readsHabit_145 ?_
  refine x_aload_n C dX5_readsHabit_148 rfl ?_
  refine x_dup C dX5_readsHabit_149 rfl ?_
  refine x_get C kf_X5_149 mput_0 rfl dX5_readsHabit_150 ?_
  refine x_iconst (v := 1) C dX5_readsHabit_153 (by decide) ?_
  refine x_iadd C dX5_readsHabit_154 ?_
  refine x_put (ty := .int) C kf_X5_149 mput_0 rfl (by decide +kernel) rfl rfl (Nat.le_of_ble_eq_true rfl) (mput_s4 _) dX5_readsHabit_155 ?_
  refine x_iconst (v := 1) C dX5_readsHabit_158 (by decide) ?_
  exact x_zret C Z dX5_readsHabit_159 rfl (Nat.le_of_ble_eq_true rfl) (Nat.le_of_ble_eq_true rfl) rfl rfl rfl
