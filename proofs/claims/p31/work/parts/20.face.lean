set_option maxRecDepth 100000 in
set_option maxHeartbeats 1000000 in
theorem c_X4_come_ok {l : Launch} {E : xEnv} {B N : Nat} {σ : Sg} {VV : Cs} {p z n : Nat} {tx : Fn} (hp : p < 6) (hz : z ≤ 6) {q : Nat} (hq : q < 8) (hall : ∀ j, j < q → VV 0 10 j = 1) (hno : ¬ VV 0 10 q = 1) : xM l yX4_come cX4_come 2 (some .int) 5 110 0 0 E B [.ref B] N (cput E σ B VV (nI p) (nI z) (nI n) tx) N (cput E σ B (upV (kpV VV p) 0 (blS (up2 (VV 0) 10 q 1) q none 0)) (nI ((p + 1) % 6)) (nI (min 6 (z + 1))) (nI n) tx) (some (.int (nI q))) := by
  refine xM_of [some (.ref _), none] (by decide +kernel) (Nat.le_of_ble_eq_true rfl) rfl (fun k0 C Z => ?_)
  refine x_aload_n C dX4_come_0 rfl ?_
  refine x_get C kf_X4_10 cput_0 rfl dX4_come_1 ?_
  refine x_callV C (c_X3_lowestFree_some hq hall hno) kv_X3_lowestFree kl_X4_33 dX4_come_4 cput_h0 (cput_is0 rfl) (cput_is0 rfl).symm rfl rfl (Nat.le_of_ble_eq_true rfl) (Nat.le_of_ble_eq_true rfl) (Nat.le_of_ble_eq_true rfl) (Nat.le_of_ble_eq_true rfl) (Nat.le_of_ble_eq_true rfl) ?_
  refine x_istore_n C dX4_come_7 (by decide) rfl ?_
  refine x_iload_n C dX4_come_8 rfl ?_
  refine x_bipush (v := (-6)) C dX4_come_9 (by decide) ?_
  refine x_ic_ne C 17 dX4_come_11 (by decide) (fun _ => ?_) (fun h => absurd h (nI_ne6 (by omega)))
  refine x_aload_n C dX4_come_17 rfl ?_
  refine x_get C kf_X4_22 cput_0 rfl dX4_come_18 ?_
  refine x_aload_n C dX4_come_21 rfl ?_
  refine x_get C kf_X4_10 cput_0 rfl dX4_come_22 ?_
  refine x_callV C (c_X1_keep hp hz) kv_X1_keep kl_X4_37 dX4_come_25 cput_41 rfl rfl rfl rfl (Nat.le_of_ble_eq_true rfl) (Nat.le_of_ble_eq_true rfl) (Nat.le_of_ble_eq_true rfl) (Nat.le_of_ble_eq_true rfl) (Nat.le_of_ble_eq_true rfl) ?_
  refine x_aload_n C dX4_come_28 rfl ?_
  refine x_get C kf_X4_10 cput_0 rfl dX4_come_29 ?_
  refine x_iload_n C dX4_come_32 rfl ?_
  refine x_callV C (c_X3_welcome hq) kv_X3_welcome kl_X4_41 dX4_come_33 cput_h0 (cput_is0 kpV_0) cput_w0 rfl rfl (Nat.le_of_ble_eq_true rfl) (Nat.le_of_ble_eq_true rfl) (Nat.le_of_ble_eq_true rfl) (Nat.le_of_ble_eq_true rfl) (Nat.le_of_ble_eq_true rfl) ?_
  refine x_iload_n C dX4_come_36 rfl ?_
  exact x_zret C Z dX4_come_37 rfl (Nat.le_of_ble_eq_true rfl) (Nat.le_of_ble_eq_true rfl) rfl rfl rfl
set_option maxRecDepth 100000 in
set_option maxHeartbeats 1000000 in
theorem c_X4_come_full {l : Launch} {E : xEnv} {B N : Nat} {σ : Sg} {VV : Cs} {p z n : Nat} {tx : Fn} (hall : ∀ j, j < 8 → VV 0 10 j = 1) : xM l yX4_come cX4_come 2 (some .int) 5 110 0 0 E B [.ref B] N (cput E σ B VV (nI p) (nI z) (nI n) tx) N (cput E σ B VV (nI p) (nI z) (nI n) tx) (some (.int (-4))) := by
  refine xM_of [some (.ref _), none] (by decide +kernel) (Nat.le_of_ble_eq_true rfl) rfl (fun k0 C Z => ?_)
  refine x_aload_n C dX4_come_0 rfl ?_
  refine x_get C kf_X4_10 cput_0 rfl dX4_come_1 ?_
  refine x_callV C (c_X3_lowestFree_none hall) kv_X3_lowestFree kl_X4_33 dX4_come_4 cput_h0 (cput_is0 rfl) (cput_is0 rfl).symm rfl rfl (Nat.le_of_ble_eq_true rfl) (Nat.le_of_ble_eq_true rfl) (Nat.le_of_ble_eq_true rfl) (Nat.le_of_ble_eq_true rfl) (Nat.le_of_ble_eq_true rfl) ?_
  refine x_istore_n C dX4_come_7 (by decide) rfl ?_
  refine x_iload_n C dX4_come_8 rfl ?_
  refine x_bipush (v := (-6)) C dX4_come_9 (by decide) ?_
  refine x_ic_ne C 17 dX4_come_11 (by decide) (fun h => absurd rfl h) (fun _ => ?_)
  refine x_bipush (v := (-4)) C dX4_come_14 (by decide) ?_
  exact x_zret C Z dX4_come_16 rfl (Nat.le_of_ble_eq_true rfl) (Nat.le_of_ble_eq_true rfl) rfl rfl rfl
set_option maxRecDepth 100000 in
set_option maxHeartbeats 1000000 in
theorem c_X4_go_ok {l : Launch} {E : xEnv} {B N : Nat} {σ : Sg} {VV : Cs} {p z n : Nat} {tx : Fn} (hp : p < 6) (hz : z ≤ 6){k : Nat} (hk : k < 8) (hp1 : VV 0 10 k = 1) : xM l yX4_go cX4_go 3 (some .int) 4 96 0 0 E B [.ref B, .int (nI k)] N (cput E σ B VV (nI p) (nI z) (nI n) tx) N (cput E σ B (upV (kpV VV p) 0 (up2 (VV 0) 10 k 0)) (nI ((p + 1) % 6)) (nI (min 6 (z + 1))) (nI n) tx) (some (.int (nI (cnN (up2 (VV 0) 10 k 0 10) 8)))) := by
  refine xM_of [some (.ref _), some (.int _), none] (by decide +kernel) (Nat.le_of_ble_eq_true rfl) rfl (fun k0 C Z => ?_)
  refine x_aload_n C dX4_go_0 rfl ?_
  refine x_get C kf_X4_10 cput_0 rfl dX4_go_1 ?_
  refine x_iload_n C dX4_go_4 rfl ?_
  refine x_callV C (c_X3_find_some hk hp1) kv_X3_find kl_X4_45 dX4_go_5 cput_h0 (cput_is0 rfl) (cput_is0 rfl).symm rfl rfl (Nat.le_of_ble_eq_true rfl) (Nat.le_of_ble_eq_true rfl) (Nat.le_of_ble_eq_true rfl) (Nat.le_of_ble_eq_true rfl) (Nat.le_of_ble_eq_true rfl) ?_
  refine x_astore_n C dX4_go_8 (by decide) rfl ?_
  refine x_aload_n C dX4_go_9 rfl ?_
  refine x_ifnn C 15 dX4_go_10 (by decide) ?_
  refine x_aload_n C dX4_go_15 rfl ?_
  refine x_get C kf_X4_22 cput_0 rfl dX4_go_16 ?_
  refine x_aload_n C dX4_go_19 rfl ?_
  refine x_get C kf_X4_10 cput_0 rfl dX4_go_20 ?_
  refine x_callV C (c_X1_keep hp hz) kv_X1_keep kl_X4_37 dX4_go_23 cput_41 rfl rfl rfl rfl (Nat.le_of_ble_eq_true rfl) (Nat.le_of_ble_eq_true rfl) (Nat.le_of_ble_eq_true rfl) (Nat.le_of_ble_eq_true rfl) (Nat.le_of_ble_eq_true rfl) ?_
  refine x_aload_n C dX4_go_26 rfl ?_
  refine x_callV C (c_X2_leave hk) kv_X2_leave kl_X4_49 dX4_go_27 (cput_hs hk) (cput_is0 kpV_0) cput_w0 rfl rfl (Nat.le_of_ble_eq_true rfl) (Nat.le_of_ble_eq_true rfl) (Nat.le_of_ble_eq_true rfl) (Nat.le_of_ble_eq_true rfl) (Nat.le_of_ble_eq_true rfl) ?_
  refine x_aload_n C dX4_go_30 rfl ?_
  refine x_get C kf_X4_10 cput_0 rfl dX4_go_31 ?_
  refine x_callV C c_X3_countSpeakers kv_X3_countSpeakers kl_X4_54 dX4_go_34 cput_h0 (cput_is0 upV_s) (cput_is0 upV_s).symm rfl rfl (Nat.le_of_ble_eq_true rfl) (Nat.le_of_ble_eq_true rfl) (Nat.le_of_ble_eq_true rfl) (Nat.le_of_ble_eq_true rfl) (Nat.le_of_ble_eq_true rfl) ?_
  exact x_zret C Z dX4_go_37 rfl (Nat.le_of_ble_eq_true rfl) (Nat.le_of_ble_eq_true rfl) rfl rfl rfl
set_option maxRecDepth 100000 in
set_option maxHeartbeats 1000000 in
theorem c_X4_go_no {l : Launch} {E : xEnv} {B N : Nat} {σ : Sg} {VV : Cs} {p z n : Nat} {tx : Fn}{x : Int32} (hno : ¬ ∃ k, k < 8 ∧ x = nI k ∧ VV 0 10 k = 1) : xM l yX4_go cX4_go 3 (some .int) 4 96 0 0 E B [.ref B, .int x] N (cput E σ B VV (nI p) (nI z) (nI n) tx) N (cput E σ B VV (nI p) (nI z) (nI n) tx) (some (.int (-1))) := by
  refine xM_of [some (.ref _), some (.int _), none] (by decide +kernel) (Nat.le_of_ble_eq_true rfl) rfl (fun k0 C Z => ?_)
  refine x_aload_n C dX4_go_0 rfl ?_
  refine x_get C kf_X4_10 cput_0 rfl dX4_go_1 ?_
  refine x_iload_n C dX4_go_4 rfl ?_
  refine x_callV C (c_X3_find_none hno) kv_X3_find kl_X4_45 dX4_go_5 cput_h0 (cput_is0 rfl) (cput_is0 rfl).symm rfl rfl (Nat.le_of_ble_eq_true rfl) (Nat.le_of_ble_eq_true rfl) (Nat.le_of_ble_eq_true rfl) (Nat.le_of_ble_eq_true rfl) (Nat.le_of_ble_eq_true rfl) ?_
  refine x_astore_nN C dX4_go_8 (by decide) rfl ?_
  refine x_aload_nN C dX4_go_9 rfl ?_
  refine x_ifnnN C dX4_go_10 ?_
  refine x_iconst (v := (-1)) C dX4_go_13 (by decide) ?_
  exact x_zret C Z dX4_go_14 rfl (Nat.le_of_ble_eq_true rfl) (Nat.le_of_ble_eq_true rfl) rfl rfl rfl
set_option maxRecDepth 100000 in
set_option maxHeartbeats 1000000 in
theorem c_X4_set_ok {l : Launch} {E : xEnv} {B N : Nat} {σ : Sg} {VV : Cs} {p z n : Nat} {tx : Fn} (hp : p < 6) (hz : z ≤ 6) {j : Nat} {v : Int32} (hj : j < 4) (h1 : ¬ v < leS j) (h2 : ¬ moS j < v) : xM l yX4_set cX4_set 4 (some .int) 4 96 0 0 E B [.ref B, .int (nI j), .int v] N (cput E σ B VV (nI p) (nI z) (nI n) tx) N (cput E σ B (upV (kpV VV p) 0 (up2 (VV 0) 8 j v)) (nI ((p + 1) % 6)) (nI (min 6 (z + 1))) (nI n) tx) (some (.int (VV 0 8 j))) := by
  refine xM_of [some (.ref _), some (.int _), some (.int _), none] (by decide +kernel) (Nat.le_of_ble_eq_true rfl) rfl (fun k0 C Z => ?_)
  refine x_iload_n C dX4_set_0 rfl ?_
  refine x_iconst (v := 4) C dX4_set_1 (by decide) ?_
  refine x_callS C (c_X4_isBelow _ _) ks_X4_isBelow kl_X4_57 dX4_set_2 rfl rfl rfl rfl (Nat.le_of_ble_eq_true rfl) (Nat.le_of_ble_eq_true rfl) (Nat.le_of_ble_eq_true rfl) (Nat.le_of_ble_eq_true rfl) (Nat.le_of_ble_eq_true rfl) ?_
  refine x_bne C 10 dX4_set_5 (by decide) (fun _ => ?_) (fun h => absurd (bd_in (c := 4) hj (by decide)) h)
  refine x_iload_n C dX4_set_10 rfl ?_
  refine x_iload_n C dX4_set_11 rfl ?_
  refine x_callS C (c_X4_leastOf hj) ks_X4_leastOf kl_X4_61 dX4_set_12 rfl rfl rfl rfl (Nat.le_of_ble_eq_true rfl) (Nat.le_of_ble_eq_true rfl) (Nat.le_of_ble_eq_true rfl) (Nat.le_of_ble_eq_true rfl) (Nat.le_of_ble_eq_true rfl) ?_
  refine x_ic_lt C 26 dX4_set_15 (by decide) (fun h => absurd h h1) (fun _ => ?_)
  refine x_iload_n C dX4_set_18 rfl ?_
  refine x_iload_n C dX4_set_19 rfl ?_
  refine x_callS C (c_X4_mostOf hj) ks_X4_mostOf kl_X4_65 dX4_set_20 rfl rfl rfl rfl (Nat.le_of_ble_eq_true rfl) (Nat.le_of_ble_eq_true rfl) (Nat.le_of_ble_eq_true rfl) (Nat.le_of_ble_eq_true rfl) (Nat.le_of_ble_eq_true rfl) ?_
  refine x_ic_le C 29 dX4_set_23 (by decide) (fun _ => ?_) (fun h => absurd (Int32.not_lt.mp h2) h)
  refine x_aload_n C dX4_set_29 rfl ?_
  refine x_get C kf_X4_10 cput_0 rfl dX4_set_30 ?_
  refine x_iload_n C dX4_set_33 rfl ?_
  refine x_callV C (c_X3_settingAt hj) kv_X3_settingAt kl_X4_68 dX4_set_34 cput_h0 (cput_is0 rfl) (cput_is0 rfl).symm rfl rfl (Nat.le_of_ble_eq_true rfl) (Nat.le_of_ble_eq_true rfl) (Nat.le_of_ble_eq_true rfl) (Nat.le_of_ble_eq_true rfl) (Nat.le_of_ble_eq_true rfl) ?_
  refine x_istore_n C dX4_set_37 (by decide) rfl ?_
  refine x_aload_n C dX4_set_38 rfl ?_
  refine x_get C kf_X4_22 cput_0 rfl dX4_set_39 ?_
  refine x_aload_n C dX4_set_42 rfl ?_
  refine x_get C kf_X4_10 cput_0 rfl dX4_set_43 ?_
  refine x_callV C (c_X1_keep hp hz) kv_X1_keep kl_X4_37 dX4_set_46 cput_41 rfl rfl rfl rfl (Nat.le_of_ble_eq_true rfl) (Nat.le_of_ble_eq_true rfl) (Nat.le_of_ble_eq_true rfl) (Nat.le_of_ble_eq_true rfl) (Nat.le_of_ble_eq_true rfl) ?_
  refine x_aload_n C dX4_set_49 rfl ?_
  refine x_get C kf_X4_10 cput_0 rfl dX4_set_50 ?_
  refine x_iload_n C dX4_set_53 rfl ?_
  refine x_iload_n C dX4_set_54 rfl ?_
  refine x_callV C (c_X3_putSetting hj _) kv_X3_putSetting kl_X4_71 dX4_set_55 cput_h0 (cput_is0 kpV_0) cput_w0 rfl rfl (Nat.le_of_ble_eq_true rfl) (Nat.le_of_ble_eq_true rfl) (Nat.le_of_ble_eq_true rfl) (Nat.le_of_ble_eq_true rfl) (Nat.le_of_ble_eq_true rfl) ?_
  refine x_iload_n C dX4_set_58 rfl ?_
  exact x_zret C Z dX4_set_59 rfl (Nat.le_of_ble_eq_true rfl) (Nat.le_of_ble_eq_true rfl) rfl rfl rfl
set_option maxRecDepth 100000 in
set_option maxHeartbeats 1000000 in
theorem c_X4_set_lo {l : Launch} {E : xEnv} {B N : Nat} {σ : Sg} {VV : Cs} {p z n : Nat} {tx : Fn} {j : Nat} {v : Int32} (hj : j < 4) (h1 : v < leS j) : xM l yX4_set cX4_set 4 (some .int) 4 96 0 0 E B [.ref B, .int (nI j), .int v] N (cput E σ B VV (nI p) (nI z) (nI n) tx) N (cput E σ B VV (nI p) (nI z) (nI n) tx) (some (.int (-2))) := by
  refine xM_of [some (.ref _), some (.int _), some (.int _), none] (by decide +kernel) (Nat.le_of_ble_eq_true rfl) rfl (fun k0 C Z => ?_)
  refine x_iload_n C dX4_set_0 rfl ?_
  refine x_iconst (v := 4) C dX4_set_1 (by decide) ?_
  refine x_callS C (c_X4_isBelow _ _) ks_X4_isBelow kl_X4_57 dX4_set_2 rfl rfl rfl rfl (Nat.le_of_ble_eq_true rfl) (Nat.le_of_ble_eq_true rfl) (Nat.le_of_ble_eq_true rfl) (Nat.le_of_ble_eq_true rfl) (Nat.le_of_ble_eq_true rfl) ?_
  refine x_bne C 10 dX4_set_5 (by decide) (fun _ => ?_) (fun h => absurd (bd_in (c := 4) hj (by decide)) h)
  refine x_iload_n C dX4_set_10 rfl ?_
  refine x_iload_n C dX4_set_11 rfl ?_
  refine x_callS C (c_X4_leastOf hj) ks_X4_leastOf kl_X4_61 dX4_set_12 rfl rfl rfl rfl (Nat.le_of_ble_eq_true rfl) (Nat.le_of_ble_eq_true rfl) (Nat.le_of_ble_eq_true rfl) (Nat.le_of_ble_eq_true rfl) (Nat.le_of_ble_eq_true rfl) ?_
  refine x_ic_lt C 26 dX4_set_15 (by decide) (fun _ => ?_) (fun h => absurd h1 h)
  refine x_bipush (v := (-2)) C dX4_set_26 (by decide) ?_
  exact x_zret C Z dX4_set_28 rfl (Nat.le_of_ble_eq_true rfl) (Nat.le_of_ble_eq_true rfl) rfl rfl rfl
set_option maxRecDepth 100000 in
set_option maxHeartbeats 1000000 in
theorem c_X4_set_hi {l : Launch} {E : xEnv} {B N : Nat} {σ : Sg} {VV : Cs} {p z n : Nat} {tx : Fn} {j : Nat} {v : Int32} (hj : j < 4) (h1 : ¬ v < leS j) (h2 : moS j < v) : xM l yX4_set cX4_set 4 (some .int) 4 96 0 0 E B [.ref B, .int (nI j), .int v] N (cput E σ B VV (nI p) (nI z) (nI n) tx) N (cput E σ B VV (nI p) (nI z) (nI n) tx) (some (.int (-2))) := by
  refine xM_of [some (.ref _), some (.int _), some (.int _), none] (by decide +kernel) (Nat.le_of_ble_eq_true rfl) rfl (fun k0 C Z => ?_)
  refine x_iload_n C dX4_set_0 rfl ?_
  refine x_iconst (v := 4) C dX4_set_1 (by decide) ?_
  refine x_callS C (c_X4_isBelow _ _) ks_X4_isBelow kl_X4_57 dX4_set_2 rfl rfl rfl rfl (Nat.le_of_ble_eq_true rfl) (Nat.le_of_ble_eq_true rfl) (Nat.le_of_ble_eq_true rfl) (Nat.le_of_ble_eq_true rfl) (Nat.le_of_ble_eq_true rfl) ?_
  refine x_bne C 10 dX4_set_5 (by decide) (fun _ => ?_) (fun h => absurd (bd_in (c := 4) hj (by decide)) h)
  refine x_iload_n C dX4_set_10 rfl ?_
  refine x_iload_n C dX4_set_11 rfl ?_
  refine x_callS C (c_X4_leastOf hj) ks_X4_leastOf kl_X4_61 dX4_set_12 rfl rfl rfl rfl (Nat.le_of_ble_eq_true rfl) (Nat.le_of_ble_eq_true rfl) (Nat.le_of_ble_eq_true rfl) (Nat.le_of_ble_eq_true rfl) (Nat.le_of_ble_eq_true rfl) ?_
  refine x_ic_lt C 26 dX4_set_15 (by decide) (fun h => absurd h h1) (fun _ => ?_)
  refine x_iload_n C dX4_set_18 rfl ?_
  refine x_iload_n C dX4_set_19 rfl ?_
  refine x_callS C (c_X4_mostOf hj) ks_X4_mostOf kl_X4_65 dX4_set_20 rfl rfl rfl rfl (Nat.le_of_ble_eq_true rfl) (Nat.le_of_ble_eq_true rfl) (Nat.le_of_ble_eq_true rfl) (Nat.le_of_ble_eq_true rfl) (Nat.le_of_ble_eq_true rfl) ?_
  refine x_ic_le C 29 dX4_set_23 (by decide) (fun h => absurd h (Int32.not_le.mpr h2)) (fun _ => ?_)
  refine x_bipush (v := (-2)) C dX4_set_26 (by decide) ?_
  exact x_zret C Z dX4_set_28 rfl (Nat.le_of_ble_eq_true rfl) (Nat.le_of_ble_eq_true rfl) rfl rfl rfl
set_option maxRecDepth 100000 in
set_option maxHeartbeats 1000000 in
theorem c_X4_set_no {l : Launch} {E : xEnv} {B N : Nat} {σ : Sg} {VV : Cs} {p z n : Nat} {tx : Fn} {x v : Int32} (hb : ¬ (0 ≤ x ∧ x < 4)) : xM l yX4_set cX4_set 4 (some .int) 4 96 0 0 E B [.ref B, .int x, .int v] N (cput E σ B VV (nI p) (nI z) (nI n) tx) N (cput E σ B VV (nI p) (nI z) (nI n) tx) (some (.int (-1))) := by
  refine xM_of [some (.ref _), some (.int _), some (.int _), none] (by decide +kernel) (Nat.le_of_ble_eq_true rfl) rfl (fun k0 C Z => ?_)
  refine x_iload_n C dX4_set_0 rfl ?_
  refine x_iconst (v := 4) C dX4_set_1 (by decide) ?_
  refine x_callS C (c_X4_isBelow _ _) ks_X4_isBelow kl_X4_57 dX4_set_2 rfl rfl rfl rfl (Nat.le_of_ble_eq_true rfl) (Nat.le_of_ble_eq_true rfl) (Nat.le_of_ble_eq_true rfl) (Nat.le_of_ble_eq_true rfl) (Nat.le_of_ble_eq_true rfl) ?_
  refine x_bne C 10 dX4_set_5 (by decide) (fun h => absurd h hb) (fun _ => ?_)
  refine x_iconst (v := (-1)) C dX4_set_8 (by decide) ?_
  exact x_zret C Z dX4_set_9 rfl (Nat.le_of_ble_eq_true rfl) (Nat.le_of_ble_eq_true rfl) rfl rfl rfl
set_option maxRecDepth 100000 in
set_option maxHeartbeats 1000000 in
theorem c_X4_setSeed_ok {l : Launch} {E : xEnv} {B N : Nat} {σ : Sg} {VV : Cs} {p z n : Nat} {tx : Fn} (hp : p < 6) (hz : z ≤ 6) {q : Nat} (hq : q < 65536) : xM l yX4_setSeed cX4_setSeed 3 (some .int) 4 96 0 0 E B [.ref B, .int (nI q)] N (cput E σ B VV (nI p) (nI z) (nI n) tx) N (cput E σ B (upV (kpV VV p) 0 (up2 (VV 0) 9 0 (nI q))) (nI ((p + 1) % 6)) (nI (min 6 (z + 1))) (nI n) tx) (some (.int (VV 0 9 0))) := by
  refine xM_of [some (.ref _), some (.int _), none] (by decide +kernel) (Nat.le_of_ble_eq_true rfl) rfl (fun k0 C Z => ?_)
  refine x_iload_n C dX4_setSeed_0 rfl ?_
  refine x_if_lt C 10 dX4_setSeed_1 (by decide) (fun h => absurd h (nI_pos (by omega))) (fun _ => ?_)
  refine x_iload_n C dX4_setSeed_4 rfl ?_
  refine x_ldc C kk_X4_75 dX4_setSeed_5 ?_
  refine x_ic_le C 13 dX4_setSeed_7 (by decide) (fun _ => ?_) (fun h => absurd (nI_le (b := 65535) (by omega) (by omega)) h)
  refine x_aload_n C dX4_setSeed_13 rfl ?_
  refine x_get C kf_X4_10 cput_0 rfl dX4_setSeed_14 ?_
  refine x_get C kf_X4_76 cput_h0 rfl dX4_setSeed_17 ?_
  refine x_istore_n C dX4_setSeed_20 (by decide) rfl ?_
  refine x_aload_n C dX4_setSeed_21 rfl ?_
  refine x_get C kf_X4_22 cput_0 rfl dX4_setSeed_22 ?_
  refine x_aload_n C dX4_setSeed_25 rfl ?_
  refine x_get C kf_X4_10 cput_0 rfl dX4_setSeed_26 ?_
  refine x_callV C (c_X1_keep hp hz) kv_X1_keep kl_X4_37 dX4_setSeed_29 cput_41 rfl rfl rfl rfl (Nat.le_of_ble_eq_true rfl) (Nat.le_of_ble_eq_true rfl) (Nat.le_of_ble_eq_true rfl) (Nat.le_of_ble_eq_true rfl) (Nat.le_of_ble_eq_true rfl) ?_
  refine x_aload_n C dX4_setSeed_32 rfl ?_
  refine x_get C kf_X4_10 cput_0 rfl dX4_setSeed_33 ?_
  refine x_iload_n C dX4_setSeed_36 rfl ?_
  refine x_put (ty := .int) C kf_X4_76 cput_h0 rfl (by decide +kernel) rfl rfl (Nat.le_of_ble_eq_true rfl) cput_p0 dX4_setSeed_37 ?_
  refine x_iload_n C dX4_setSeed_40 rfl ?_
  exact x_zret C Z dX4_setSeed_41 rfl (Nat.le_of_ble_eq_true rfl) (Nat.le_of_ble_eq_true rfl) rfl (by rw [kpV_0]) rfl
set_option maxRecDepth 100000 in
set_option maxHeartbeats 1000000 in
theorem c_X4_setSeed_lo {l : Launch} {E : xEnv} {B N : Nat} {σ : Sg} {VV : Cs} {p z n : Nat} {tx : Fn} {x : Int32} (h1 : x < 0) : xM l yX4_setSeed cX4_setSeed 3 (some .int) 4 96 0 0 E B [.ref B, .int x] N (cput E σ B VV (nI p) (nI z) (nI n) tx) N (cput E σ B VV (nI p) (nI z) (nI n) tx) (some (.int (-2))) := by
  refine xM_of [some (.ref _), some (.int _), none] (by decide +kernel) (Nat.le_of_ble_eq_true rfl) rfl (fun k0 C Z => ?_)
  refine x_iload_n C dX4_setSeed_0 rfl ?_
  refine x_if_lt C 10 dX4_setSeed_1 (by decide) (fun _ => ?_) (fun h => absurd h1 h)
  refine x_bipush (v := (-2)) C dX4_setSeed_10 (by decide) ?_
  exact x_zret C Z dX4_setSeed_12 rfl (Nat.le_of_ble_eq_true rfl) (Nat.le_of_ble_eq_true rfl) rfl rfl rfl
set_option maxRecDepth 100000 in
set_option maxHeartbeats 1000000 in
theorem c_X4_setSeed_hi {l : Launch} {E : xEnv} {B N : Nat} {σ : Sg} {VV : Cs} {p z n : Nat} {tx : Fn} {x : Int32} (h1 : ¬ x < 0) (h2 : 65535 < x) : xM l yX4_setSeed cX4_setSeed 3 (some .int) 4 96 0 0 E B [.ref B, .int x] N (cput E σ B VV (nI p) (nI z) (nI n) tx) N (cput E σ B VV (nI p) (nI z) (nI n) tx) (some (.int (-2))) := by
  refine xM_of [some (.ref _), some (.int _), none] (by decide +kernel) (Nat.le_of_ble_eq_true rfl) rfl (fun k0 C Z => ?_)
  refine x_iload_n C dX4_setSeed_0 rfl ?_
  refine x_if_lt C 10 dX4_setSeed_1 (by decide) (fun h => absurd h h1) (fun _ => ?_)
  refine x_iload_n C dX4_setSeed_4 rfl ?_
  refine x_ldc C kk_X4_75 dX4_setSeed_5 ?_
  refine x_ic_le C 13 dX4_setSeed_7 (by decide) (fun h => absurd h (Int32.not_le.mpr h2)) (fun _ => ?_)
  refine x_bipush (v := (-2)) C dX4_setSeed_10 (by decide) ?_
  exact x_zret C Z dX4_setSeed_12 rfl (Nat.le_of_ble_eq_true rfl) (Nat.le_of_ble_eq_true rfl) rfl rfl rfl
set_option maxRecDepth 100000 in
set_option maxHeartbeats 1000000 in
theorem c_X4_teach_ok {l : Launch} {E : xEnv} {B N : Nat} {σ : Sg} {VV : Cs} {p z n : Nat} {tx : Fn} (hp : p < 6) (hz : z ≤ 6){k : Nat} (hk : k < 8) (hp1 : VV 0 10 k = 1) {mm ww : Nat} (hm : mm < 6) (hw : ww < 14) {x : Int32} (h1 : ¬ x < 0) (h2 : ¬ 99 < x) : xM l yX4_teach cX4_teach 7 (some .int) 4 96 0 0 E B [.ref B, .int (nI k), .int (nI mm), .int (nI ww), .int x] N (cput E σ B VV (nI p) (nI z) (nI n) tx) N (cput E σ B (upV (kpV VV p) 0 (up2 (VV 0) k (14 * mm + ww) (clS x))) (nI ((p + 1) % 6)) (nI (min 6 (z + 1))) (nI n) tx) (some (.int (VV 0 k (14 * mm + ww)))) := by
  refine xM_of [some (.ref _), some (.int _), some (.int _), some (.int _), some (.int _), none, none] (by decide +kernel) (Nat.le_of_ble_eq_true rfl) rfl (fun k0 C Z => ?_)
  refine x_aload_n C dX4_teach_0 rfl ?_
  refine x_get C kf_X4_10 cput_0 rfl dX4_teach_1 ?_
  refine x_iload_n C dX4_teach_4 rfl ?_
  refine x_callV C (c_X3_find_some hk hp1) kv_X3_find kl_X4_45 dX4_teach_5 cput_h0 (cput_is0 rfl) (cput_is0 rfl).symm rfl rfl (Nat.le_of_ble_eq_true rfl) (Nat.le_of_ble_eq_true rfl) (Nat.le_of_ble_eq_true rfl) (Nat.le_of_ble_eq_true rfl) (Nat.le_of_ble_eq_true rfl) ?_
  refine x_astore C dX4_teach_8 (by decide) rfl ?_
  refine x_aload C dX4_teach_10 rfl ?_
  refine x_ifnull C dX4_teach_12 ?_
  refine x_iload_n C dX4_teach_15 rfl ?_
  refine x_callS C (c_X4_isMeaning _) ks_X4_isMeaning kl_X4_80 dX4_teach_16 rfl rfl rfl rfl (Nat.le_of_ble_eq_true rfl) (Nat.le_of_ble_eq_true rfl) (Nat.le_of_ble_eq_true rfl) (Nat.le_of_ble_eq_true rfl) (Nat.le_of_ble_eq_true rfl) ?_
  refine x_beq C 29 dX4_teach_19 (by decide) (fun h => absurd (bd_in (c := 6) hm (by decide)) h) (fun _ => ?_)
  refine x_iload_n C dX4_teach_22 rfl ?_
  refine x_callS C (c_X4_isWord _) ks_X4_isWord kl_X4_84 dX4_teach_23 rfl rfl rfl rfl (Nat.le_of_ble_eq_true rfl) (Nat.le_of_ble_eq_true rfl) (Nat.le_of_ble_eq_true rfl) (Nat.le_of_ble_eq_true rfl) (Nat.le_of_ble_eq_true rfl) ?_
  refine x_bne C 31 dX4_teach_26 (by decide) (fun _ => ?_) (fun h => absurd (bd_in (c := 14) hw (by decide)) h)
  refine x_iload C dX4_teach_31 rfl ?_
  refine x_if_lt C 43 dX4_teach_33 (by decide) (fun h => absurd h h1) (fun _ => ?_)
  refine x_iload C dX4_teach_36 rfl ?_
  refine x_bipush (v := 99) C dX4_teach_38 (by decide) ?_
  refine x_ic_le C 46 dX4_teach_40 (by decide) (fun _ => ?_) (fun h => absurd (Int32.not_lt.mp h2) h)
  refine x_aload C dX4_teach_46 rfl ?_
  refine x_iload_n C dX4_teach_48 rfl ?_
  refine x_iload_n C dX4_teach_49 rfl ?_
  refine x_callV C (c_X2_weightOf hk hm hw) kv_X2_weightOf kl_X4_87 dX4_teach_50 (cput_hs hk) (cput_is0 rfl) (cput_is0 rfl).symm rfl rfl (Nat.le_of_ble_eq_true rfl) (Nat.le_of_ble_eq_true rfl) (Nat.le_of_ble_eq_true rfl) (Nat.le_of_ble_eq_true rfl) (Nat.le_of_ble_eq_true rfl) ?_
  refine x_istore C dX4_teach_53 (by decide) rfl ?_
  refine x_aload_n C dX4_teach_55 rfl ?_
  refine x_get C kf_X4_22 cput_0 rfl dX4_teach_56 ?_
  refine x_aload_n C dX4_teach_59 rfl ?_
  refine x_get C kf_X4_10 cput_0 rfl dX4_teach_60 ?_
  refine x_callV C (c_X1_keep hp hz) kv_X1_keep kl_X4_37 dX4_teach_63 cput_41 rfl rfl rfl rfl (Nat.le_of_ble_eq_true rfl) (Nat.le_of_ble_eq_true rfl) (Nat.le_of_ble_eq_true rfl) (Nat.le_of_ble_eq_true rfl) (Nat.le_of_ble_eq_true rfl) ?_
  refine x_aload C dX4_teach_66 rfl ?_
  refine x_iload_n C dX4_teach_68 rfl ?_
  refine x_iload_n C dX4_teach_69 rfl ?_
  refine x_iload C dX4_teach_70 rfl ?_
  refine x_callV C (c_X2_putWeight hk hm hw _) kv_X2_putWeight kl_X4_91 dX4_teach_72 (cput_hs hk) (cput_is0 kpV_0) cput_w0 rfl rfl (Nat.le_of_ble_eq_true rfl) (Nat.le_of_ble_eq_true rfl) (Nat.le_of_ble_eq_true rfl) (Nat.le_of_ble_eq_true rfl) (Nat.le_of_ble_eq_true rfl) ?_
  refine x_iload C dX4_teach_75 rfl ?_
  exact x_zret C Z dX4_teach_77 rfl (Nat.le_of_ble_eq_true rfl) (Nat.le_of_ble_eq_true rfl) rfl rfl rfl
set_option maxRecDepth 100000 in
set_option maxHeartbeats 1000000 in
theorem c_X4_teach_lo {l : Launch} {E : xEnv} {B N : Nat} {σ : Sg} {VV : Cs} {p z n : Nat} {tx : Fn}{k : Nat} (hk : k < 8) (hp1 : VV 0 10 k = 1) {mm ww : Nat} (hm : mm < 6) (hw : ww < 14) {x : Int32} (h1 : x < 0) : xM l yX4_teach cX4_teach 7 (some .int) 4 96 0 0 E B [.ref B, .int (nI k), .int (nI mm), .int (nI ww), .int x] N (cput E σ B VV (nI p) (nI z) (nI n) tx) N (cput E σ B VV (nI p) (nI z) (nI n) tx) (some (.int (-2))) := by
  refine xM_of [some (.ref _), some (.int _), some (.int _), some (.int _), some (.int _), none, none] (by decide +kernel) (Nat.le_of_ble_eq_true rfl) rfl (fun k0 C Z => ?_)
  refine x_aload_n C dX4_teach_0 rfl ?_
  refine x_get C kf_X4_10 cput_0 rfl dX4_teach_1 ?_
  refine x_iload_n C dX4_teach_4 rfl ?_
  refine x_callV C (c_X3_find_some hk hp1) kv_X3_find kl_X4_45 dX4_teach_5 cput_h0 (cput_is0 rfl) (cput_is0 rfl).symm rfl rfl (Nat.le_of_ble_eq_true rfl) (Nat.le_of_ble_eq_true rfl) (Nat.le_of_ble_eq_true rfl) (Nat.le_of_ble_eq_true rfl) (Nat.le_of_ble_eq_true rfl) ?_
  refine x_astore C dX4_teach_8 (by decide) rfl ?_
  refine x_aload C dX4_teach_10 rfl ?_
  refine x_ifnull C dX4_teach_12 ?_
  refine x_iload_n C dX4_teach_15 rfl ?_
  refine x_callS C (c_X4_isMeaning _) ks_X4_isMeaning kl_X4_80 dX4_teach_16 rfl rfl rfl rfl (Nat.le_of_ble_eq_true rfl) (Nat.le_of_ble_eq_true rfl) (Nat.le_of_ble_eq_true rfl) (Nat.le_of_ble_eq_true rfl) (Nat.le_of_ble_eq_true rfl) ?_
  refine x_beq C 29 dX4_teach_19 (by decide) (fun h => absurd (bd_in (c := 6) hm (by decide)) h) (fun _ => ?_)
  refine x_iload_n C dX4_teach_22 rfl ?_
  refine x_callS C (c_X4_isWord _) ks_X4_isWord kl_X4_84 dX4_teach_23 rfl rfl rfl rfl (Nat.le_of_ble_eq_true rfl) (Nat.le_of_ble_eq_true rfl) (Nat.le_of_ble_eq_true rfl) (Nat.le_of_ble_eq_true rfl) (Nat.le_of_ble_eq_true rfl) ?_
  refine x_bne C 31 dX4_teach_26 (by decide) (fun _ => ?_) (fun h => absurd (bd_in (c := 14) hw (by decide)) h)
  refine x_iload C dX4_teach_31 rfl ?_
  refine x_if_lt C 43 dX4_teach_33 (by decide) (fun _ => ?_) (fun h => absurd h1 h)
  refine x_bipush (v := (-2)) C dX4_teach_43 (by decide) ?_
  exact x_zret C Z dX4_teach_45 rfl (Nat.le_of_ble_eq_true rfl) (Nat.le_of_ble_eq_true rfl) rfl rfl rfl
set_option maxRecDepth 100000 in
set_option maxHeartbeats 1000000 in
theorem c_X4_teach_hi {l : Launch} {E : xEnv} {B N : Nat} {σ : Sg} {VV : Cs} {p z n : Nat} {tx : Fn}{k : Nat} (hk : k < 8) (hp1 : VV 0 10 k = 1) {mm ww : Nat} (hm : mm < 6) (hw : ww < 14) {x : Int32} (h1 : ¬ x < 0) (h2 : 99 < x) : xM l yX4_teach cX4_teach 7 (some .int) 4 96 0 0 E B [.ref B, .int (nI k), .int (nI mm), .int (nI ww), .int x] N (cput E σ B VV (nI p) (nI z) (nI n) tx) N (cput E σ B VV (nI p) (nI z) (nI n) tx) (some (.int (-2))) := by
  refine xM_of [some (.ref _), some (.int _), some (.int _), some (.int _), some (.int _), none, none] (by decide +kernel) (Nat.le_of_ble_eq_true rfl) rfl (fun k0 C Z => ?_)
  refine x_aload_n C dX4_teach_0 rfl ?_
  refine x_get C kf_X4_10 cput_0 rfl dX4_teach_1 ?_
  refine x_iload_n C dX4_teach_4 rfl ?_
  refine x_callV C (c_X3_find_some hk hp1) kv_X3_find kl_X4_45 dX4_teach_5 cput_h0 (cput_is0 rfl) (cput_is0 rfl).symm rfl rfl (Nat.le_of_ble_eq_true rfl) (Nat.le_of_ble_eq_true rfl) (Nat.le_of_ble_eq_true rfl) (Nat.le_of_ble_eq_true rfl) (Nat.le_of_ble_eq_true rfl) ?_
  refine x_astore C dX4_teach_8 (by decide) rfl ?_
  refine x_aload C dX4_teach_10 rfl ?_
  refine x_ifnull C dX4_teach_12 ?_
  refine x_iload_n C dX4_teach_15 rfl ?_
  refine x_callS C (c_X4_isMeaning _) ks_X4_isMeaning kl_X4_80 dX4_teach_16 rfl rfl rfl rfl (Nat.le_of_ble_eq_true rfl) (Nat.le_of_ble_eq_true rfl) (Nat.le_of_ble_eq_true rfl) (Nat.le_of_ble_eq_true rfl) (Nat.le_of_ble_eq_true rfl) ?_
  refine x_beq C 29 dX4_teach_19 (by decide) (fun h => absurd (bd_in (c := 6) hm (by decide)) h) (fun _ => ?_)
  refine x_iload_n C dX4_teach_22 rfl ?_
  refine x_callS C (c_X4_isWord _) ks_X4_isWord kl_X4_84 dX4_teach_23 rfl rfl rfl rfl (Nat.le_of_ble_eq_true rfl) (Nat.le_of_ble_eq_true rfl) (Nat.le_of_ble_eq_true rfl) (Nat.le_of_ble_eq_true rfl) (Nat.le_of_ble_eq_true rfl) ?_
  refine x_bne C 31 dX4_teach_26 (by decide) (fun _ => ?_) (fun h => absurd (bd_in (c := 14) hw (by decide)) h)
  refine x_iload C dX4_teach_31 rfl ?_
  refine x_if_lt C 43 dX4_teach_33 (by decide) (fun h => absurd h h1) (fun _ => ?_)
  refine x_iload C dX4_teach_36 rfl ?_
  refine x_bipush (v := 99) C dX4_teach_38 (by decide) ?_
  refine x_ic_le C 46 dX4_teach_40 (by decide) (fun h => absurd h (Int32.not_le.mpr h2)) (fun _ => ?_)
  refine x_bipush (v := (-2)) C dX4_teach_43 (by decide) ?_
  exact x_zret C Z dX4_teach_45 rfl (Nat.le_of_ble_eq_true rfl) (Nat.le_of_ble_eq_true rfl) rfl rfl rfl
set_option maxRecDepth 100000 in
set_option maxHeartbeats 1000000 in
theorem c_X4_teach_n1 {l : Launch} {E : xEnv} {B N : Nat} {σ : Sg} {VV : Cs} {p z n : Nat} {tx : Fn}{x : Int32} (hno : ¬ ∃ k, k < 8 ∧ x = nI k ∧ VV 0 10 k = 1) {m w v : Int32} : xM l yX4_teach cX4_teach 7 (some .int) 4 96 0 0 E B [.ref B, .int x, .int m, .int w, .int v] N (cput E σ B VV (nI p) (nI z) (nI n) tx) N (cput E σ B VV (nI p) (nI z) (nI n) tx) (some (.int (-1))) := by
  refine xM_of [some (.ref _), some (.int _), some (.int _), some (.int _), some (.int _), none, none] (by decide +kernel) (Nat.le_of_ble_eq_true rfl) rfl (fun k0 C Z => ?_)
  refine x_aload_n C dX4_teach_0 rfl ?_
  refine x_get C kf_X4_10 cput_0 rfl dX4_teach_1 ?_
  refine x_iload_n C dX4_teach_4 rfl ?_
  refine x_callV C (c_X3_find_none hno) kv_X3_find kl_X4_45 dX4_teach_5 cput_h0 (cput_is0 rfl) (cput_is0 rfl).symm rfl rfl (Nat.le_of_ble_eq_true rfl) (Nat.le_of_ble_eq_true rfl) (Nat.le_of_ble_eq_true rfl) (Nat.le_of_ble_eq_true rfl) (Nat.le_of_ble_eq_true rfl) ?_
  refine x_astoreN C dX4_teach_8 (by decide) rfl ?_
  refine x_aloadN C dX4_teach_10 rfl ?_
  refine x_ifnullN C 29 dX4_teach_12 (by decide) ?_
  refine x_iconst (v := (-1)) C dX4_teach_29 (by decide) ?_
  exact x_zret C Z dX4_teach_30 rfl (Nat.le_of_ble_eq_true rfl) (Nat.le_of_ble_eq_true rfl) rfl rfl rfl
set_option maxRecDepth 100000 in
set_option maxHeartbeats 1000000 in
theorem c_X4_teach_n2 {l : Launch} {E : xEnv} {B N : Nat} {σ : Sg} {VV : Cs} {p z n : Nat} {tx : Fn}{k : Nat} (hk : k < 8) (hp1 : VV 0 10 k = 1) {m w v : Int32} (hb : ¬ (0 ≤ m ∧ m < 6)) : xM l yX4_teach cX4_teach 7 (some .int) 4 96 0 0 E B [.ref B, .int (nI k), .int m, .int w, .int v] N (cput E σ B VV (nI p) (nI z) (nI n) tx) N (cput E σ B VV (nI p) (nI z) (nI n) tx) (some (.int (-1))) := by
  refine xM_of [some (.ref _), some (.int _), some (.int _), some (.int _), some (.int _), none, none] (by decide +kernel) (Nat.le_of_ble_eq_true rfl) rfl (fun k0 C Z => ?_)
  refine x_aload_n C dX4_teach_0 rfl ?_
  refine x_get C kf_X4_10 cput_0 rfl dX4_teach_1 ?_
  refine x_iload_n C dX4_teach_4 rfl ?_
  refine x_callV C (c_X3_find_some hk hp1) kv_X3_find kl_X4_45 dX4_teach_5 cput_h0 (cput_is0 rfl) (cput_is0 rfl).symm rfl rfl (Nat.le_of_ble_eq_true rfl) (Nat.le_of_ble_eq_true rfl) (Nat.le_of_ble_eq_true rfl) (Nat.le_of_ble_eq_true rfl) (Nat.le_of_ble_eq_true rfl) ?_
  refine x_astore C dX4_teach_8 (by decide) rfl ?_
  refine x_aload C dX4_teach_10 rfl ?_
  refine x_ifnull C dX4_teach_12 ?_
  refine x_iload_n C dX4_teach_15 rfl ?_
  refine x_callS C (c_X4_isMeaning _) ks_X4_isMeaning kl_X4_80 dX4_teach_16 rfl rfl rfl rfl (Nat.le_of_ble_eq_true rfl) (Nat.le_of_ble_eq_true rfl) (Nat.le_of_ble_eq_true rfl) (Nat.le_of_ble_eq_true rfl) (Nat.le_of_ble_eq_true rfl) ?_
  refine x_beq C 29 dX4_teach_19 (by decide) (fun _ => ?_) (fun h => absurd h hb)
  refine x_iconst (v := (-1)) C dX4_teach_29 (by decide) ?_
  exact x_zret C Z dX4_teach_30 rfl (Nat.le_of_ble_eq_true rfl) (Nat.le_of_ble_eq_true rfl) rfl rfl rfl
set_option maxRecDepth 100000 in
set_option maxHeartbeats 1000000 in
theorem c_X4_teach_n3 {l : Launch} {E : xEnv} {B N : Nat} {σ : Sg} {VV : Cs} {p z n : Nat} {tx : Fn}{k : Nat} (hk : k < 8) (hp1 : VV 0 10 k = 1) {mm : Nat} {w v : Int32} (hm : mm < 6) (hb : ¬ (0 ≤ w ∧ w < 14)) : xM l yX4_teach cX4_teach 7 (some .int) 4 96 0 0 E B [.ref B, .int (nI k), .int (nI mm), .int w, .int v] N (cput E σ B VV (nI p) (nI z) (nI n) tx) N (cput E σ B VV (nI p) (nI z) (nI n) tx) (some (.int (-1))) := by
  refine xM_of [some (.ref _), some (.int _), some (.int _), some (.int _), some (.int _), none, none] (by decide +kernel) (Nat.le_of_ble_eq_true rfl) rfl (fun k0 C Z => ?_)
  refine x_aload_n C dX4_teach_0 rfl ?_
  refine x_get C kf_X4_10 cput_0 rfl dX4_teach_1 ?_
  refine x_iload_n C dX4_teach_4 rfl ?_
  refine x_callV C (c_X3_find_some hk hp1) kv_X3_find kl_X4_45 dX4_teach_5 cput_h0 (cput_is0 rfl) (cput_is0 rfl).symm rfl rfl (Nat.le_of_ble_eq_true rfl) (Nat.le_of_ble_eq_true rfl) (Nat.le_of_ble_eq_true rfl) (Nat.le_of_ble_eq_true rfl) (Nat.le_of_ble_eq_true rfl) ?_
  refine x_astore C dX4_teach_8 (by decide) rfl ?_
  refine x_aload C dX4_teach_10 rfl ?_
  refine x_ifnull C dX4_teach_12 ?_
  refine x_iload_n C dX4_teach_15 rfl ?_
  refine x_callS C (c_X4_isMeaning _) ks_X4_isMeaning kl_X4_80 dX4_teach_16 rfl rfl rfl rfl (Nat.le_of_ble_eq_true rfl) (Nat.le_of_ble_eq_true rfl) (Nat.le_of_ble_eq_true rfl) (Nat.le_of_ble_eq_true rfl) (Nat.le_of_ble_eq_true rfl) ?_
  refine x_beq C 29 dX4_teach_19 (by decide) (fun h => absurd (bd_in (c := 6) hm (by decide)) h) (fun _ => ?_)
  refine x_iload_n C dX4_teach_22 rfl ?_
  refine x_callS C (c_X4_isWord _) ks_X4_isWord kl_X4_84 dX4_teach_23 rfl rfl rfl rfl (Nat.le_of_ble_eq_true rfl) (Nat.le_of_ble_eq_true rfl) (Nat.le_of_ble_eq_true rfl) (Nat.le_of_ble_eq_true rfl) (Nat.le_of_ble_eq_true rfl) ?_
  refine x_bne C 31 dX4_teach_26 (by decide) (fun h => absurd h hb) (fun _ => ?_)
  refine x_iconst (v := (-1)) C dX4_teach_29 (by decide) ?_
  exact x_zret C Z dX4_teach_30 rfl (Nat.le_of_ble_eq_true rfl) (Nat.le_of_ble_eq_true rfl) rfl rfl rfl
set_option maxRecDepth 100000 in
set_option maxHeartbeats 1000000 in
theorem c_X4_setAge_ok {l : Launch} {E : xEnv} {B N : Nat} {σ : Sg} {VV : Cs} {p z n : Nat} {tx : Fn} (hp : p < 6) (hz : z ≤ 6){k : Nat} (hk : k < 8) (hp1 : VV 0 10 k = 1) {x : Int32} (h1 : ¬ x < 0) (h2 : ¬ 99 < x) : xM l yX4_setAge cX4_setAge 5 (some .int) 4 96 0 0 E B [.ref B, .int (nI k), .int x] N (cput E σ B VV (nI p) (nI z) (nI n) tx) N (cput E σ B (upV (kpV VV p) 0 (up2 (VV 0) 11 k x)) (nI ((p + 1) % 6)) (nI (min 6 (z + 1))) (nI n) tx) (some (.int (VV 0 11 k))) := by
  refine xM_of [some (.ref _), some (.int _), some (.int _), none, none] (by decide +kernel) (Nat.le_of_ble_eq_true rfl) rfl (fun k0 C Z => ?_)
  refine x_aload_n C dX4_setAge_0 rfl ?_
  refine x_get C kf_X4_10 cput_0 rfl dX4_setAge_1 ?_
  refine x_iload_n C dX4_setAge_4 rfl ?_
  refine x_callV C (c_X3_find_some hk hp1) kv_X3_find kl_X4_45 dX4_setAge_5 cput_h0 (cput_is0 rfl) (cput_is0 rfl).symm rfl rfl (Nat.le_of_ble_eq_true rfl) (Nat.le_of_ble_eq_true rfl) (Nat.le_of_ble_eq_true rfl) (Nat.le_of_ble_eq_true rfl) (Nat.le_of_ble_eq_true rfl) ?_
  refine x_astore_n C dX4_setAge_8 (by decide) rfl ?_
  refine x_aload_n C dX4_setAge_9 rfl ?_
  refine x_ifnn C 15 dX4_setAge_10 (by decide) ?_
  refine x_iload_n C dX4_setAge_15 rfl ?_
  refine x_if_lt C 25 dX4_setAge_16 (by decide) (fun h => absurd h h1) (fun _ => ?_)
  refine x_iload_n C dX4_setAge_19 rfl ?_
  refine x_bipush (v := 99) C dX4_setAge_20 (by decide) ?_
  refine x_ic_le C 28 dX4_setAge_22 (by decide) (fun _ => ?_) (fun h => absurd (Int32.not_lt.mp h2) h)
  refine x_aload_n C dX4_setAge_28 rfl ?_
  refine x_get C kf_X4_95 (cput_hs hk) rfl dX4_setAge_29 ?_
  refine x_istore C dX4_setAge_32 (by decide) rfl ?_
  refine x_aload_n C dX4_setAge_34 rfl ?_
  refine x_get C kf_X4_22 cput_0 rfl dX4_setAge_35 ?_
  refine x_aload_n C dX4_setAge_38 rfl ?_
  refine x_get C kf_X4_10 cput_0 rfl dX4_setAge_39 ?_
  refine x_callV C (c_X1_keep hp hz) kv_X1_keep kl_X4_37 dX4_setAge_42 cput_41 rfl rfl rfl rfl (Nat.le_of_ble_eq_true rfl) (Nat.le_of_ble_eq_true rfl) (Nat.le_of_ble_eq_true rfl) (Nat.le_of_ble_eq_true rfl) (Nat.le_of_ble_eq_true rfl) ?_
  refine x_aload_n C dX4_setAge_45 rfl ?_
  refine x_iload_n C dX4_setAge_46 rfl ?_
  refine x_put (ty := .int) C kf_X4_95 (cput_hs hk) rfl (by decide +kernel) rfl rfl (Nat.le_of_ble_eq_true rfl) (cput_pa hk) dX4_setAge_47 ?_
  refine x_iload C dX4_setAge_50 rfl ?_
  exact x_zret C Z dX4_setAge_52 rfl (Nat.le_of_ble_eq_true rfl) (Nat.le_of_ble_eq_true rfl) rfl (by rw [kpV_0]) rfl
set_option maxRecDepth 100000 in
set_option maxHeartbeats 1000000 in
theorem c_X4_setAge_lo {l : Launch} {E : xEnv} {B N : Nat} {σ : Sg} {VV : Cs} {p z n : Nat} {tx : Fn}{k : Nat} (hk : k < 8) (hp1 : VV 0 10 k = 1) {x : Int32} (h1 : x < 0) : xM l yX4_setAge cX4_setAge 5 (some .int) 4 96 0 0 E B [.ref B, .int (nI k), .int x] N (cput E σ B VV (nI p) (nI z) (nI n) tx) N (cput E σ B VV (nI p) (nI z) (nI n) tx) (some (.int (-2))) := by
  refine xM_of [some (.ref _), some (.int _), some (.int _), none, none] (by decide +kernel) (Nat.le_of_ble_eq_true rfl) rfl (fun k0 C Z => ?_)
  refine x_aload_n C dX4_setAge_0 rfl ?_
  refine x_get C kf_X4_10 cput_0 rfl dX4_setAge_1 ?_
  refine x_iload_n C dX4_setAge_4 rfl ?_
  refine x_callV C (c_X3_find_some hk hp1) kv_X3_find kl_X4_45 dX4_setAge_5 cput_h0 (cput_is0 rfl) (cput_is0 rfl).symm rfl rfl (Nat.le_of_ble_eq_true rfl) (Nat.le_of_ble_eq_true rfl) (Nat.le_of_ble_eq_true rfl) (Nat.le_of_ble_eq_true rfl) (Nat.le_of_ble_eq_true rfl) ?_
  refine x_astore_n C dX4_setAge_8 (by decide) rfl ?_
  refine x_aload_n C dX4_setAge_9 rfl ?_
  refine x_ifnn C 15 dX4_setAge_10 (by decide) ?_
  refine x_iload_n C dX4_setAge_15 rfl ?_
  refine x_if_lt C 25 dX4_setAge_16 (by decide) (fun _ => ?_) (fun h => absurd h1 h)
  refine x_bipush (v := (-2)) C dX4_setAge_25 (by decide) ?_
  exact x_zret C Z dX4_setAge_27 rfl (Nat.le_of_ble_eq_true rfl) (Nat.le_of_ble_eq_true rfl) rfl rfl rfl
set_option maxRecDepth 100000 in
set_option maxHeartbeats 1000000 in
theorem c_X4_setAge_hi {l : Launch} {E : xEnv} {B N : Nat} {σ : Sg} {VV : Cs} {p z n : Nat} {tx : Fn}{k : Nat} (hk : k < 8) (hp1 : VV 0 10 k = 1) {x : Int32} (h1 : ¬ x < 0) (h2 : 99 < x) : xM l yX4_setAge cX4_setAge 5 (some .int) 4 96 0 0 E B [.ref B, .int (nI k), .int x] N (cput E σ B VV (nI p) (nI z) (nI n) tx) N (cput E σ B VV (nI p) (nI z) (nI n) tx) (some (.int (-2))) := by
  refine xM_of [some (.ref _), some (.int _), some (.int _), none, none] (by decide +kernel) (Nat.le_of_ble_eq_true rfl) rfl (fun k0 C Z => ?_)
  refine x_aload_n C dX4_setAge_0 rfl ?_
  refine x_get C kf_X4_10 cput_0 rfl dX4_setAge_1 ?_
  refine x_iload_n C dX4_setAge_4 rfl ?_
  refine x_callV C (c_X3_find_some hk hp1) kv_X3_find kl_X4_45 dX4_setAge_5 cput_h0 (cput_is0 rfl) (cput_is0 rfl).symm rfl rfl (Nat.le_of_ble_eq_true rfl) (Nat.le_of_ble_eq_true rfl) (Nat.le_of_ble_eq_true rfl) (Nat.le_of_ble_eq_true rfl) (Nat.le_of_ble_eq_true rfl) ?_
  refine x_astore_n C dX4_setAge_8 (by decide) rfl ?_
  refine x_aload_n C dX4_setAge_9 rfl ?_
  refine x_ifnn C 15 dX4_setAge_10 (by decide) ?_
  refine x_iload_n C dX4_setAge_15 rfl ?_
  refine x_if_lt C 25 dX4_setAge_16 (by decide) (fun h => absurd h h1) (fun _ => ?_)
  refine x_iload_n C dX4_setAge_19 rfl ?_
  refine x_bipush (v := 99) C dX4_setAge_20 (by decide) ?_
  refine x_ic_le C 28 dX4_setAge_22 (by decide) (fun h => absurd h (Int32.not_le.mpr h2)) (fun _ => ?_)
  refine x_bipush (v := (-2)) C dX4_setAge_25 (by decide) ?_
  exact x_zret C Z dX4_setAge_27 rfl (Nat.le_of_ble_eq_true rfl) (Nat.le_of_ble_eq_true rfl) rfl rfl rfl
set_option maxRecDepth 100000 in
set_option maxHeartbeats 1000000 in
theorem c_X4_setAge_no {l : Launch} {E : xEnv} {B N : Nat} {σ : Sg} {VV : Cs} {p z n : Nat} {tx : Fn}{x : Int32} (hno : ¬ ∃ k, k < 8 ∧ x = nI k ∧ VV 0 10 k = 1) {v : Int32} : xM l yX4_setAge cX4_setAge 5 (some .int) 4 96 0 0 E B [.ref B, .int x, .int v] N (cput E σ B VV (nI p) (nI z) (nI n) tx) N (cput E σ B VV (nI p) (nI z) (nI n) tx) (some (.int (-1))) := by
  refine xM_of [some (.ref _), some (.int _), some (.int _), none, none] (by decide +kernel) (Nat.le_of_ble_eq_true rfl) rfl (fun k0 C Z => ?_)
  refine x_aload_n C dX4_setAge_0 rfl ?_
  refine x_get C kf_X4_10 cput_0 rfl dX4_setAge_1 ?_
  refine x_iload_n C dX4_setAge_4 rfl ?_
  refine x_callV C (c_X3_find_none hno) kv_X3_find kl_X4_45 dX4_setAge_5 cput_h0 (cput_is0 rfl) (cput_is0 rfl).symm rfl rfl (Nat.le_of_ble_eq_true rfl) (Nat.le_of_ble_eq_true rfl) (Nat.le_of_ble_eq_true rfl) (Nat.le_of_ble_eq_true rfl) (Nat.le_of_ble_eq_true rfl) ?_
  refine x_astore_nN C dX4_setAge_8 (by decide) rfl ?_
  refine x_aload_nN C dX4_setAge_9 rfl ?_
  refine x_ifnnN C dX4_setAge_10 ?_
  refine x_iconst (v := (-1)) C dX4_setAge_13 (by decide) ?_
  exact x_zret C Z dX4_setAge_14 rfl (Nat.le_of_ble_eq_true rfl) (Nat.le_of_ble_eq_true rfl) rfl rfl rfl
set_option maxRecDepth 100000 in
set_option maxHeartbeats 1000000 in
theorem c_X4_meet_ok {l : Launch} {E : xEnv} {B N : Nat} {σ : Sg} {VV : Cs} {p z n : Nat} {tx : Fn} (hp : p < 6) (hz : z ≤ 6){k1 : Nat} (hk1 : k1 < 8) (hp1 : VV 0 10 k1 = 1){k2 : Nat} (hk2 : k2 < 8) (hp2 : VV 0 10 k2 = 1) {m : Nat} (hm : m < 6) (hne : k1 ≠ k2) (hs : sok (VV 0)) : xM l yX4_meet cX4_meet 6 (some .int) 5 118 0 0 E B [.ref B, .int (nI k1), .int (nI k2), .int (nI m)] N (cput E σ B VV (nI p) (nI z) (nI n) tx) N (cput E σ B (upV (kpV VV p) 0 (mtV (VV 0) k1 k2 m)) (nI ((p + 1) % 6)) (nI (min 6 (z + 1))) (nI n) tx) (some (.int (10 * nI (mt1 (VV 0) k1 k2 m).2.1 + nI (mt1 (VV 0) k1 k2 m).2.2))) := by
  refine xM_of [some (.ref _), some (.int _), some (.int _), some (.int _), none, none] (by decide +kernel) (Nat.le_of_ble_eq_true rfl) rfl (fun k0 C Z => ?_)
  refine x_aload_n C dX4_meet_0 rfl ?_
  refine x_get C kf_X4_10 cput_0 rfl dX4_meet_1 ?_
  refine x_iload_n C dX4_meet_4 rfl ?_
  refine x_callV C (c_X3_find_some hk1 hp1) kv_X3_find kl_X4_45 dX4_meet_5 cput_h0 (cput_is0 rfl) (cput_is0 rfl).symm rfl rfl (Nat.le_of_ble_eq_true rfl) (Nat.le_of_ble_eq_true rfl) (Nat.le_of_ble_eq_true rfl) (Nat.le_of_ble_eq_true rfl) (Nat.le_of_ble_eq_true rfl) ?_
  refine x_astore C dX4_meet_8 (by decide) rfl ?_
  refine x_aload_n C dX4_meet_10 rfl ?_
  refine x_get C kf_X4_10 cput_0 rfl dX4_meet_11 ?_
  refine x_iload_n C dX4_meet_14 rfl ?_
  refine x_callV C (c_X3_find_some hk2 hp2) kv_X3_find kl_X4_45 dX4_meet_15 cput_h0 (cput_is0 rfl) (cput_is0 rfl).symm rfl rfl (Nat.le_of_ble_eq_true rfl) (Nat.le_of_ble_eq_true rfl) (Nat.le_of_ble_eq_true rfl) (Nat.le_of_ble_eq_true rfl) (Nat.le_of_ble_eq_true rfl) ?_
  refine x_astore C dX4_meet_18 (by decide) rfl ?_
  refine x_aload C dX4_meet_20 rfl ?_
  refine x_ifnull C dX4_meet_22 ?_
  refine x_aload C dX4_meet_25 rfl ?_
  refine x_ifnull C dX4_meet_27 ?_
  refine x_iload_n C dX4_meet_30 rfl ?_
  refine x_callS C (c_X4_isMeaning _) ks_X4_isMeaning kl_X4_80 dX4_meet_31 rfl rfl rfl rfl (Nat.le_of_ble_eq_true rfl) (Nat.le_of_ble_eq_true rfl) (Nat.le_of_ble_eq_true rfl) (Nat.le_of_ble_eq_true rfl) (Nat.le_of_ble_eq_true rfl) ?_
  refine x_bne C 39 dX4_meet_34 (by decide) (fun _ => ?_) (fun h => absurd (bd_in (c := 6) hm (by decide)) h)
  refine x_iload_n C dX4_meet_39 rfl ?_
  refine x_iload_n C dX4_meet_40 rfl ?_
  refine x_ic_ne C 47 dX4_meet_41 (by decide) (fun _ => ?_) (fun h => absurd h (nI_neL (by omega) (by omega) hne))
  refine x_aload_n C dX4_meet_47 rfl ?_
  refine x_get C kf_X4_22 cput_0 rfl dX4_meet_48 ?_
  refine x_aload_n C dX4_meet_51 rfl ?_
  refine x_get C kf_X4_10 cput_0 rfl dX4_meet_52 ?_
  refine x_callV C (c_X1_keep hp hz) kv_X1_keep kl_X4_37 dX4_meet_55 cput_41 rfl rfl rfl rfl (Nat.le_of_ble_eq_true rfl) (Nat.le_of_ble_eq_true rfl) (Nat.le_of_ble_eq_true rfl) (Nat.le_of_ble_eq_true rfl) (Nat.le_of_ble_eq_true rfl) ?_
  refine x_aload_n C dX4_meet_58 rfl ?_
  refine x_get C kf_X4_10 cput_0 rfl dX4_meet_59 ?_
  refine x_aload C dX4_meet_62 rfl ?_
  refine x_aload C dX4_meet_64 rfl ?_
  refine x_iload_n C dX4_meet_66 rfl ?_
  refine x_callV C (c_X3_holdMeeting hk1 hk2 hm hs) kv_X3_holdMeeting kl_X4_98 dX4_meet_67 cput_h0 (cput_is0 kpV_0) cput_w0 rfl rfl (Nat.le_of_ble_eq_true rfl) (Nat.le_of_ble_eq_true rfl) (Nat.le_of_ble_eq_true rfl) (Nat.le_of_ble_eq_true rfl) (Nat.le_of_ble_eq_true rfl) ?_
  exact x_zret C Z dX4_meet_70 rfl (Nat.le_of_ble_eq_true rfl) (Nat.le_of_ble_eq_true rfl) rfl rfl rfl
set_option maxRecDepth 100000 in
set_option maxHeartbeats 1000000 in
theorem c_X4_meet_same {l : Launch} {E : xEnv} {B N : Nat} {σ : Sg} {VV : Cs} {p z n : Nat} {tx : Fn}{k1 : Nat} (hk1 : k1 < 8) (hp1 : VV 0 10 k1 = 1) {m : Nat} (hm : m < 6) : xM l yX4_meet cX4_meet 6 (some .int) 5 118 0 0 E B [.ref B, .int (nI k1), .int (nI k1), .int (nI m)] N (cput E σ B VV (nI p) (nI z) (nI n) tx) N (cput E σ B VV (nI p) (nI z) (nI n) tx) (some (.int (-3))) := by
  refine xM_of [some (.ref _), some (.int _), some (.int _), some (.int _), none, none] (by decide +kernel) (Nat.le_of_ble_eq_true rfl) rfl (fun k0 C Z => ?_)
  refine x_aload_n C dX4_meet_0 rfl ?_
  refine x_get C kf_X4_10 cput_0 rfl dX4_meet_1 ?_
  refine x_iload_n C dX4_meet_4 rfl ?_
  refine x_callV C (c_X3_find_some hk1 hp1) kv_X3_find kl_X4_45 dX4_meet_5 cput_h0 (cput_is0 rfl) (cput_is0 rfl).symm rfl rfl (Nat.le_of_ble_eq_true rfl) (Nat.le_of_ble_eq_true rfl) (Nat.le_of_ble_eq_true rfl) (Nat.le_of_ble_eq_true rfl) (Nat.le_of_ble_eq_true rfl) ?_
  refine x_astore C dX4_meet_8 (by decide) rfl ?_
  refine x_aload_n C dX4_meet_10 rfl ?_
  refine x_get C kf_X4_10 cput_0 rfl dX4_meet_11 ?_
  refine x_iload_n C dX4_meet_14 rfl ?_
  refine x_callV C (c_X3_find_some hk1 hp1) kv_X3_find kl_X4_45 dX4_meet_15 cput_h0 (cput_is0 rfl) (cput_is0 rfl).symm rfl rfl (Nat.le_of_ble_eq_true rfl) (Nat.le_of_ble_eq_true rfl) (Nat.le_of_ble_eq_true rfl) (Nat.le_of_ble_eq_true rfl) (Nat.le_of_ble_eq_true rfl) ?_
  refine x_astore C dX4_meet_18 (by decide) rfl ?_
  refine x_aload C dX4_meet_20 rfl ?_
  refine x_ifnull C dX4_meet_22 ?_
  refine x_aload C dX4_meet_25 rfl ?_
  refine x_ifnull C dX4_meet_27 ?_
  refine x_iload_n C dX4_meet_30 rfl ?_
  refine x_callS C (c_X4_isMeaning _) ks_X4_isMeaning kl_X4_80 dX4_meet_31 rfl rfl rfl rfl (Nat.le_of_ble_eq_true rfl) (Nat.le_of_ble_eq_true rfl) (Nat.le_of_ble_eq_true rfl) (Nat.le_of_ble_eq_true rfl) (Nat.le_of_ble_eq_true rfl) ?_
  refine x_bne C 39 dX4_meet_34 (by decide) (fun _ => ?_) (fun h => absurd (bd_in (c := 6) hm (by decide)) h)
  refine x_iload_n C dX4_meet_39 rfl ?_
  refine x_iload_n C dX4_meet_40 rfl ?_
  refine x_ic_ne C 47 dX4_meet_41 (by decide) (fun h => absurd rfl h) (fun _ => ?_)
  refine x_bipush (v := (-3)) C dX4_meet_44 (by decide) ?_
  exact x_zret C Z dX4_meet_46 rfl (Nat.le_of_ble_eq_true rfl) (Nat.le_of_ble_eq_true rfl) rfl rfl rfl
set_option maxRecDepth 100000 in
set_option maxHeartbeats 1000000 in
theorem c_X4_meet_n1s {l : Launch} {E : xEnv} {B N : Nat} {σ : Sg} {VV : Cs} {p z n : Nat} {tx : Fn}{x : Int32} (hno : ¬ ∃ k, k < 8 ∧ x = nI k ∧ VV 0 10 k = 1){k2 : Nat} (hk2 : k2 < 8) (hp2 : VV 0 10 k2 = 1) {m : Int32} : xM l yX4_meet cX4_meet 6 (some .int) 5 118 0 0 E B [.ref B, .int x, .int (nI k2), .int m] N (cput E σ B VV (nI p) (nI z) (nI n) tx) N (cput E σ B VV (nI p) (nI z) (nI n) tx) (some (.int (-1))) := by
  refine xM_of [some (.ref _), some (.int _), some (.int _), some (.int _), none, none] (by decide +kernel) (Nat.le_of_ble_eq_true rfl) rfl (fun k0 C Z => ?_)
  refine x_aload_n C dX4_meet_0 rfl ?_
  refine x_get C kf_X4_10 cput_0 rfl dX4_meet_1 ?_
  refine x_iload_n C dX4_meet_4 rfl ?_
  refine x_callV C (c_X3_find_none hno) kv_X3_find kl_X4_45 dX4_meet_5 cput_h0 (cput_is0 rfl) (cput_is0 rfl).symm rfl rfl (Nat.le_of_ble_eq_true rfl) (Nat.le_of_ble_eq_true rfl) (Nat.le_of_ble_eq_true rfl) (Nat.le_of_ble_eq_true rfl) (Nat.le_of_ble_eq_true rfl) ?_
  refine x_astoreN C dX4_meet_8 (by decide) rfl ?_
  refine x_aload_n C dX4_meet_10 rfl ?_
  refine x_get C kf_X4_10 cput_0 rfl dX4_meet_11 ?_
  refine x_iload_n C dX4_meet_14 rfl ?_
  refine x_callV C (c_X3_find_some hk2 hp2) kv_X3_find kl_X4_45 dX4_meet_15 cput_h0 (cput_is0 rfl) (cput_is0 rfl).symm rfl rfl (Nat.le_of_ble_eq_true rfl) (Nat.le_of_ble_eq_true rfl) (Nat.le_of_ble_eq_true rfl) (Nat.le_of_ble_eq_true rfl) (Nat.le_of_ble_eq_true rfl) ?_
  refine x_astore C dX4_meet_18 (by decide) rfl ?_
  refine x_aloadN C dX4_meet_20 rfl ?_
  refine x_ifnullN C 37 dX4_meet_22 (by decide) ?_
  refine x_iconst (v := (-1)) C dX4_meet_37 (by decide) ?_
  exact x_zret C Z dX4_meet_38 rfl (Nat.le_of_ble_eq_true rfl) (Nat.le_of_ble_eq_true rfl) rfl rfl rfl
set_option maxRecDepth 100000 in
set_option maxHeartbeats 1000000 in
theorem c_X4_meet_n1n {l : Launch} {E : xEnv} {B N : Nat} {σ : Sg} {VV : Cs} {p z n : Nat} {tx : Fn}{x : Int32} (hno : ¬ ∃ k, k < 8 ∧ x = nI k ∧ VV 0 10 k = 1){y : Int32} (hny : ¬ ∃ k, k < 8 ∧ y = nI k ∧ VV 0 10 k = 1) {m : Int32} : xM l yX4_meet cX4_meet 6 (some .int) 5 118 0 0 E B [.ref B, .int x, .int y, .int m] N (cput E σ B VV (nI p) (nI z) (nI n) tx) N (cput E σ B VV (nI p) (nI z) (nI n) tx) (some (.int (-1))) := by
  refine xM_of [some (.ref _), some (.int _), some (.int _), some (.int _), none, none] (by decide +kernel) (Nat.le_of_ble_eq_true rfl) rfl (fun k0 C Z => ?_)
  refine x_aload_n C dX4_meet_0 rfl ?_
  refine x_get C kf_X4_10 cput_0 rfl dX4_meet_1 ?_
  refine x_iload_n C dX4_meet_4 rfl ?_
  refine x_callV C (c_X3_find_none hno) kv_X3_find kl_X4_45 dX4_meet_5 cput_h0 (cput_is0 rfl) (cput_is0 rfl).symm rfl rfl (Nat.le_of_ble_eq_true rfl) (Nat.le_of_ble_eq_true rfl) (Nat.le_of_ble_eq_true rfl) (Nat.le_of_ble_eq_true rfl) (Nat.le_of_ble_eq_true rfl) ?_
  refine x_astoreN C dX4_meet_8 (by decide) rfl ?_
  refine x_aload_n C dX4_meet_10 rfl ?_
  refine x_get C kf_X4_10 cput_0 rfl dX4_meet_11 ?_
  refine x_iload_n C dX4_meet_14 rfl ?_
  refine x_callV C (c_X3_find_none hny) kv_X3_find kl_X4_45 dX4_meet_15 cput_h0 (cput_is0 rfl) (cput_is0 rfl).symm rfl rfl (Nat.le_of_ble_eq_true rfl) (Nat.le_of_ble_eq_true rfl) (Nat.le_of_ble_eq_true rfl) (Nat.le_of_ble_eq_true rfl) (Nat.le_of_ble_eq_true rfl) ?_
  refine x_astoreN C dX4_meet_18 (by decide) rfl ?_
  refine x_aloadN C dX4_meet_20 rfl ?_
  refine x_ifnullN C 37 dX4_meet_22 (by decide) ?_
  refine x_iconst (v := (-1)) C dX4_meet_37 (by decide) ?_
  exact x_zret C Z dX4_meet_38 rfl (Nat.le_of_ble_eq_true rfl) (Nat.le_of_ble_eq_true rfl) rfl rfl rfl
set_option maxRecDepth 100000 in
set_option maxHeartbeats 1000000 in
theorem c_X4_meet_n2 {l : Launch} {E : xEnv} {B N : Nat} {σ : Sg} {VV : Cs} {p z n : Nat} {tx : Fn}{k1 : Nat} (hk1 : k1 < 8) (hp1 : VV 0 10 k1 = 1){y : Int32} (hny : ¬ ∃ k, k < 8 ∧ y = nI k ∧ VV 0 10 k = 1) {m : Int32} : xM l yX4_meet cX4_meet 6 (some .int) 5 118 0 0 E B [.ref B, .int (nI k1), .int y, .int m] N (cput E σ B VV (nI p) (nI z) (nI n) tx) N (cput E σ B VV (nI p) (nI z) (nI n) tx) (some (.int (-1))) := by
  refine xM_of [some (.ref _), some (.int _), some (.int _), some (.int _), none, none] (by decide +kernel) (Nat.le_of_ble_eq_true rfl) rfl (fun k0 C Z => ?_)
  refine x_aload_n C dX4_meet_0 rfl ?_
  refine x_get C kf_X4_10 cput_0 rfl dX4_meet_1 ?_
  refine x_iload_n C dX4_meet_4 rfl ?_
  refine x_callV C (c_X3_find_some hk1 hp1) kv_X3_find kl_X4_45 dX4_meet_5 cput_h0 (cput_is0 rfl) (cput_is0 rfl).symm rfl rfl (Nat.le_of_ble_eq_true rfl) (Nat.le_of_ble_eq_true rfl) (Nat.le_of_ble_eq_true rfl) (Nat.le_of_ble_eq_true rfl) (Nat.le_of_ble_eq_true rfl) ?_
  refine x_astore C dX4_meet_8 (by decide) rfl ?_
  refine x_aload_n C dX4_meet_10 rfl ?_
  refine x_get C kf_X4_10 cput_0 rfl dX4_meet_11 ?_
  refine x_iload_n C dX4_meet_14 rfl ?_
  refine x_callV C (c_X3_find_none hny) kv_X3_find kl_X4_45 dX4_meet_15 cput_h0 (cput_is0 rfl) (cput_is0 rfl).symm rfl rfl (Nat.le_of_ble_eq_true rfl) (Nat.le_of_ble_eq_true rfl) (Nat.le_of_ble_eq_true rfl) (Nat.le_of_ble_eq_true rfl) (Nat.le_of_ble_eq_true rfl) ?_
  refine x_astoreN C dX4_meet_18 (by decide) rfl ?_
  refine x_aload C dX4_meet_20 rfl ?_
  refine x_ifnull C dX4_meet_22 ?_
  refine x_aloadN C dX4_meet_25 rfl ?_
  refine x_ifnullN C 37 dX4_meet_27 (by decide) ?_
  refine x_iconst (v := (-1)) C dX4_meet_37 (by decide) ?_
  exact x_zret C Z dX4_meet_38 rfl (Nat.le_of_ble_eq_true rfl) (Nat.le_of_ble_eq_true rfl) rfl rfl rfl
set_option maxRecDepth 100000 in
set_option maxHeartbeats 1000000 in
theorem c_X4_meet_n3 {l : Launch} {E : xEnv} {B N : Nat} {σ : Sg} {VV : Cs} {p z n : Nat} {tx : Fn}{k1 : Nat} (hk1 : k1 < 8) (hp1 : VV 0 10 k1 = 1){k2 : Nat} (hk2 : k2 < 8) (hp2 : VV 0 10 k2 = 1) {m : Int32} (hb : ¬ (0 ≤ m ∧ m < 6)) : xM l yX4_meet cX4_meet 6 (some .int) 5 118 0 0 E B [.ref B, .int (nI k1), .int (nI k2), .int m] N (cput E σ B VV (nI p) (nI z) (nI n) tx) N (cput E σ B VV (nI p) (nI z) (nI n) tx) (some (.int (-1))) := by
  refine xM_of [some (.ref _), some (.int _), some (.int _), some (.int _), none, none] (by decide +kernel) (Nat.le_of_ble_eq_true rfl) rfl (fun k0 C Z => ?_)
  refine x_aload_n C dX4_meet_0 rfl ?_
  refine x_get C kf_X4_10 cput_0 rfl dX4_meet_1 ?_
  refine x_iload_n C dX4_meet_4 rfl ?_
  refine x_callV C (c_X3_find_some hk1 hp1) kv_X3_find kl_X4_45 dX4_meet_5 cput_h0 (cput_is0 rfl) (cput_is0 rfl).symm rfl rfl (Nat.le_of_ble_eq_true rfl) (Nat.le_of_ble_eq_true rfl) (Nat.le_of_ble_eq_true rfl) (Nat.le_of_ble_eq_true rfl) (Nat.le_of_ble_eq_true rfl) ?_
  refine x_astore C dX4_meet_8 (by decide) rfl ?_
  refine x_aload_n C dX4_meet_10 rfl ?_
  refine x_get C kf_X4_10 cput_0 rfl dX4_meet_11 ?_
  refine x_iload_n C dX4_meet_14 rfl ?_
  refine x_callV C (c_X3_find_some hk2 hp2) kv_X3_find kl_X4_45 dX4_meet_15 cput_h0 (cput_is0 rfl) (cput_is0 rfl).symm rfl rfl (Nat.le_of_ble_eq_true rfl) (Nat.le_of_ble_eq_true rfl) (Nat.le_of_ble_eq_true rfl) (Nat.le_of_ble_eq_true rfl) (Nat.le_of_ble_eq_true rfl) ?_
  refine x_astore C dX4_meet_18 (by decide) rfl ?_
  refine x_aload C dX4_meet_20 rfl ?_
  refine x_ifnull C dX4_meet_22 ?_
  refine x_aload C dX4_meet_25 rfl ?_
  refine x_ifnull C dX4_meet_27 ?_
  refine x_iload_n C dX4_meet_30 rfl ?_
  refine x_callS C (c_X4_isMeaning _) ks_X4_isMeaning kl_X4_80 dX4_meet_31 rfl rfl rfl rfl (Nat.le_of_ble_eq_true rfl) (Nat.le_of_ble_eq_true rfl) (Nat.le_of_ble_eq_true rfl) (Nat.le_of_ble_eq_true rfl) (Nat.le_of_ble_eq_true rfl) ?_
  refine x_bne C 39 dX4_meet_34 (by decide) (fun h => absurd h hb) (fun _ => ?_)
  refine x_iconst (v := (-1)) C dX4_meet_37 (by decide) ?_
  exact x_zret C Z dX4_meet_38 rfl (Nat.le_of_ble_eq_true rfl) (Nat.le_of_ble_eq_true rfl) rfl rfl rfl
set_option maxRecDepth 100000 in
set_option maxHeartbeats 1000000 in
theorem c_X4_age_ok {l : Launch} {E : xEnv} {B N : Nat} {σ : Sg} {VV : Cs} {p z n : Nat} {tx : Fn} (hp : p < 6) (hz : z ≤ 6) {q : Nat} (h1 : 1 ≤ q) (h2 : q ≤ 99) : xM l yX4_age cX4_age 2 (some .int) 5 114 0 0 E B [.ref B, .int (nI q)] N (cput E σ B VV (nI p) (nI z) (nI n) tx) N (cput E σ B (upV (kpV VV p) 0 (yrL (VV 0) q)) (nI ((p + 1) % 6)) (nI (min 6 (z + 1))) (nI n) tx) (some (.int (yrL (VV 0) q 9 3 - VV 0 9 3))) := by
  refine xM_of [some (.ref _), some (.int _)] (by decide +kernel) (Nat.le_of_ble_eq_true rfl) rfl (fun k0 C Z => ?_)
  refine x_iload_n C dX4_age_0 rfl ?_
  refine x_iconst (v := 1) C dX4_age_1 (by decide) ?_
  refine x_ic_lt C 11 dX4_age_2 (by decide) (fun h => absurd h (nI_nlt (a := q) (b := 1) h1 (by omega))) (fun _ => ?_)
  refine x_iload_n C dX4_age_5 rfl ?_
  refine x_bipush (v := 99) C dX4_age_6 (by decide) ?_
  refine x_ic_le C 14 dX4_age_8 (by decide) (fun _ => ?_) (fun h => absurd (nI_le (b := 99) h2 (by omega)) h)
  refine x_aload_n C dX4_age_14 rfl ?_
  refine x_get C kf_X4_22 cput_0 rfl dX4_age_15 ?_
  refine x_aload_n C dX4_age_18 rfl ?_
  refine x_get C kf_X4_10 cput_0 rfl dX4_age_19 ?_
  refine x_callV C (c_X1_keep hp hz) kv_X1_keep kl_X4_37 dX4_age_22 cput_41 rfl rfl rfl rfl (Nat.le_of_ble_eq_true rfl) (Nat.le_of_ble_eq_true rfl) (Nat.le_of_ble_eq_true rfl) (Nat.le_of_ble_eq_true rfl) (Nat.le_of_ble_eq_true rfl) ?_
  refine x_aload_n C dX4_age_25 rfl ?_
  refine x_get C kf_X4_10 cput_0 rfl dX4_age_26 ?_
  refine x_iload_n C dX4_age_29 rfl ?_
  refine x_callV C (c_X3_passYears (by omega)) kv_X3_passYears kl_X4_108 dX4_age_30 cput_h0 (cput_is0 kpV_0) cput_w0 rfl rfl (Nat.le_of_ble_eq_true rfl) (Nat.le_of_ble_eq_true rfl) (Nat.le_of_ble_eq_true rfl) (Nat.le_of_ble_eq_true rfl) (Nat.le_of_ble_eq_true rfl) ?_
  exact x_zret C Z dX4_age_33 rfl (Nat.le_of_ble_eq_true rfl) (Nat.le_of_ble_eq_true rfl) rfl rfl rfl
set_option maxRecDepth 100000 in
set_option maxHeartbeats 1000000 in
theorem c_X4_age_lo {l : Launch} {E : xEnv} {B N : Nat} {σ : Sg} {VV : Cs} {p z n : Nat} {tx : Fn} {x : Int32} (h1 : x < 1) : xM l yX4_age cX4_age 2 (some .int) 5 114 0 0 E B [.ref B, .int x] N (cput E σ B VV (nI p) (nI z) (nI n) tx) N (cput E σ B VV (nI p) (nI z) (nI n) tx) (some (.int (-2))) := by
  refine xM_of [some (.ref _), some (.int _)] (by decide +kernel) (Nat.le_of_ble_eq_true rfl) rfl (fun k0 C Z => ?_)
  refine x_iload_n C dX4_age_0 rfl ?_
  refine x_iconst (v := 1) C dX4_age_1 (by decide) ?_
  refine x_ic_lt C 11 dX4_age_2 (by decide) (fun _ => ?_) (fun h => absurd h1 h)
  refine x_bipush (v := (-2)) C dX4_age_11 (by decide) ?_
  exact x_zret C Z dX4_age_13 rfl (Nat.le_of_ble_eq_true rfl) (Nat.le_of_ble_eq_true rfl) rfl rfl rfl
set_option maxRecDepth 100000 in
set_option maxHeartbeats 1000000 in
theorem c_X4_age_hi {l : Launch} {E : xEnv} {B N : Nat} {σ : Sg} {VV : Cs} {p z n : Nat} {tx : Fn} {x : Int32} (h1 : ¬ x < 1) (h2 : 99 < x) : xM l yX4_age cX4_age 2 (some .int) 5 114 0 0 E B [.ref B, .int x] N (cput E σ B VV (nI p) (nI z) (nI n) tx) N (cput E σ B VV (nI p) (nI z) (nI n) tx) (some (.int (-2))) := by
  refine xM_of [some (.ref _), some (.int _)] (by decide +kernel) (Nat.le_of_ble_eq_true rfl) rfl (fun k0 C Z => ?_)
  refine x_iload_n C dX4_age_0 rfl ?_
  refine x_iconst (v := 1) C dX4_age_1 (by decide) ?_
  refine x_ic_lt C 11 dX4_age_2 (by decide) (fun h => absurd h h1) (fun _ => ?_)
  refine x_iload_n C dX4_age_5 rfl ?_
  refine x_bipush (v := 99) C dX4_age_6 (by decide) ?_
  refine x_ic_le C 14 dX4_age_8 (by decide) (fun h => absurd h (Int32.not_le.mpr h2)) (fun _ => ?_)
  refine x_bipush (v := (-2)) C dX4_age_11 (by decide) ?_
  exact x_zret C Z dX4_age_13 rfl (Nat.le_of_ble_eq_true rfl) (Nat.le_of_ble_eq_true rfl) rfl rfl rfl
set_option maxRecDepth 100000 in
set_option maxHeartbeats 1000000 in
theorem c_X4_count_ok {l : Launch} {E : xEnv} {B N : Nat} {σ : Sg} {VV : Cs} {p z n : Nat} {tx : Fn} {j : Nat} (hj : j < 7) : xM l yX4_count cX4_count 2 (some .int) 3 68 0 0 E B [.ref B, .int (nI j)] N (cput E σ B VV (nI p) (nI z) (nI n) tx) N (cput E σ B VV (nI p) (nI z) (nI n) tx) (some (.int (nuS (VV 0) j))) := by
  refine xM_of [some (.ref _), some (.int _)] (by decide +kernel) (Nat.le_of_ble_eq_true rfl) rfl (fun k0 C Z => ?_)
  refine x_iload_n C dX4_count_0 rfl ?_
  refine x_bipush (v := 7) C dX4_count_1 (by decide) ?_
  refine x_callS C (c_X4_isBelow _ _) ks_X4_isBelow kl_X4_57 dX4_count_3 rfl rfl rfl rfl (Nat.le_of_ble_eq_true rfl) (Nat.le_of_ble_eq_true rfl) (Nat.le_of_ble_eq_true rfl) (Nat.le_of_ble_eq_true rfl) (Nat.le_of_ble_eq_true rfl) ?_
  refine x_beq C 20 dX4_count_6 (by decide) (fun h => absurd (bd_in (c := 7) hj (by decide)) h) (fun _ => ?_)
  refine x_aload_n C dX4_count_9 rfl ?_
  refine x_get C kf_X4_10 cput_0 rfl dX4_count_10 ?_
  refine x_iload_n C dX4_count_13 rfl ?_
  refine x_callV C (c_X3_numberOf hj) kv_X3_numberOf kl_X4_111 dX4_count_14 cput_h0 (cput_is0 rfl) (cput_is0 rfl).symm rfl rfl (Nat.le_of_ble_eq_true rfl) (Nat.le_of_ble_eq_true rfl) (Nat.le_of_ble_eq_true rfl) (Nat.le_of_ble_eq_true rfl) (Nat.le_of_ble_eq_true rfl) ?_
  refine x_goto C 22 dX4_count_17 (by decide) ?_
  exact x_zret C Z dX4_count_22 rfl (Nat.le_of_ble_eq_true rfl) (Nat.le_of_ble_eq_true rfl) rfl rfl rfl
set_option maxRecDepth 100000 in
set_option maxHeartbeats 1000000 in
theorem c_X4_count_bad {l : Launch} {E : xEnv} {B N : Nat} {σ : Sg} {VV : Cs} {p z n : Nat} {tx : Fn} {x : Int32} (hb : ¬ (0 ≤ x ∧ x < 7)) : xM l yX4_count cX4_count 2 (some .int) 3 68 0 0 E B [.ref B, .int x] N (cput E σ B VV (nI p) (nI z) (nI n) tx) N (cput E σ B VV (nI p) (nI z) (nI n) tx) (some (.int (-2))) := by
  refine xM_of [some (.ref _), some (.int _)] (by decide +kernel) (Nat.le_of_ble_eq_true rfl) rfl (fun k0 C Z => ?_)
  refine x_iload_n C dX4_count_0 rfl ?_
  refine x_bipush (v := 7) C dX4_count_1 (by decide) ?_
  refine x_callS C (c_X4_isBelow _ _) ks_X4_isBelow kl_X4_57 dX4_count_3 rfl rfl rfl rfl (Nat.le_of_ble_eq_true rfl) (Nat.le_of_ble_eq_true rfl) (Nat.le_of_ble_eq_true rfl) (Nat.le_of_ble_eq_true rfl) (Nat.le_of_ble_eq_true rfl) ?_
  refine x_beq C 20 dX4_count_6 (by decide) (fun _ => ?_) (fun h => absurd h hb)
  refine x_bipush (v := (-2)) C dX4_count_20 (by decide) ?_
  exact x_zret C Z dX4_count_22 rfl (Nat.le_of_ble_eq_true rfl) (Nat.le_of_ble_eq_true rfl) rfl rfl rfl
set_option maxRecDepth 100000 in
set_option maxHeartbeats 1000000 in
theorem c_X4_setting_ok {l : Launch} {E : xEnv} {B N : Nat} {σ : Sg} {VV : Cs} {p z n : Nat} {tx : Fn} {j : Nat} (hj : j < 4) : xM l yX4_setting cX4_setting 2 (some .int) 2 42 0 0 E B [.ref B, .int (nI j)] N (cput E σ B VV (nI p) (nI z) (nI n) tx) N (cput E σ B VV (nI p) (nI z) (nI n) tx) (some (.int (VV 0 8 j))) := by
  refine xM_of [some (.ref _), some (.int _)] (by decide +kernel) (Nat.le_of_ble_eq_true rfl) rfl (fun k0 C Z => ?_)
  refine x_iload_n C dX4_setting_0 rfl ?_
  refine x_iconst (v := 4) C dX4_setting_1 (by decide) ?_
  refine x_callS C (c_X4_isBelow _ _) ks_X4_isBelow kl_X4_57 dX4_setting_2 rfl rfl rfl rfl (Nat.le_of_ble_eq_true rfl) (Nat.le_of_ble_eq_true rfl) (Nat.le_of_ble_eq_true rfl) (Nat.le_of_ble_eq_true rfl) (Nat.le_of_ble_eq_true rfl) ?_
  refine x_beq C 19 dX4_setting_5 (by decide) (fun h => absurd (bd_in (c := 4) hj (by decide)) h) (fun _ => ?_)
  refine x_aload_n C dX4_setting_8 rfl ?_
  refine x_get C kf_X4_10 cput_0 rfl dX4_setting_9 ?_
  refine x_iload_n C dX4_setting_12 rfl ?_
  refine x_callV C (c_X3_settingAt hj) kv_X3_settingAt kl_X4_68 dX4_setting_13 cput_h0 (cput_is0 rfl) (cput_is0 rfl).symm rfl rfl (Nat.le_of_ble_eq_true rfl) (Nat.le_of_ble_eq_true rfl) (Nat.le_of_ble_eq_true rfl) (Nat.le_of_ble_eq_true rfl) (Nat.le_of_ble_eq_true rfl) ?_
  refine x_goto C 20 dX4_setting_16 (by decide) ?_
  exact x_zret C Z dX4_setting_20 rfl (Nat.le_of_ble_eq_true rfl) (Nat.le_of_ble_eq_true rfl) rfl rfl rfl
set_option maxRecDepth 100000 in
set_option maxHeartbeats 1000000 in
theorem c_X4_setting_no {l : Launch} {E : xEnv} {B N : Nat} {σ : Sg} {VV : Cs} {p z n : Nat} {tx : Fn} {x : Int32} (hb : ¬ (0 ≤ x ∧ x < 4)) : xM l yX4_setting cX4_setting 2 (some .int) 2 42 0 0 E B [.ref B, .int x] N (cput E σ B VV (nI p) (nI z) (nI n) tx) N (cput E σ B VV (nI p) (nI z) (nI n) tx) (some (.int (-1))) := by
  refine xM_of [some (.ref _), some (.int _)] (by decide +kernel) (Nat.le_of_ble_eq_true rfl) rfl (fun k0 C Z => ?_)
  refine x_iload_n C dX4_setting_0 rfl ?_
  refine x_iconst (v := 4) C dX4_setting_1 (by decide) ?_
  refine x_callS C (c_X4_isBelow _ _) ks_X4_isBelow kl_X4_57 dX4_setting_2 rfl rfl rfl rfl (Nat.le_of_ble_eq_true rfl) (Nat.le_of_ble_eq_true rfl) (Nat.le_of_ble_eq_true rfl) (Nat.le_of_ble_eq_true rfl) (Nat.le_of_ble_eq_true rfl) ?_
  refine x_beq C 19 dX4_setting_5 (by decide) (fun _ => ?_) (fun h => absurd h hb)
  refine x_iconst (v := (-1)) C dX4_setting_19 (by decide) ?_
  exact x_zret C Z dX4_setting_20 rfl (Nat.le_of_ble_eq_true rfl) (Nat.le_of_ble_eq_true rfl) rfl rfl rfl
set_option maxRecDepth 100000 in
set_option maxHeartbeats 1000000 in
theorem c_X4_weight_ok {l : Launch} {E : xEnv} {B N : Nat} {σ : Sg} {VV : Cs} {p z n : Nat} {tx : Fn}{k : Nat} (hk : k < 8) (hp1 : VV 0 10 k = 1) {mm ww : Nat} (hm : mm < 6) (hw : ww < 14) : xM l yX4_weight cX4_weight 5 (some .int) 2 42 0 0 E B [.ref B, .int (nI k), .int (nI mm), .int (nI ww)] N (cput E σ B VV (nI p) (nI z) (nI n) tx) N (cput E σ B VV (nI p) (nI z) (nI n) tx) (some (.int (VV 0 k (14 * mm + ww)))) := by
  refine xM_of [some (.ref _), some (.int _), some (.int _), some (.int _), none] (by decide +kernel) (Nat.le_of_ble_eq_true rfl) rfl (fun k0 C Z => ?_)
  refine x_aload_n C dX4_weight_0 rfl ?_
  refine x_get C kf_X4_10 cput_0 rfl dX4_weight_1 ?_
  refine x_iload_n C dX4_weight_4 rfl ?_
  refine x_callV C (c_X3_find_some hk hp1) kv_X3_find kl_X4_45 dX4_weight_5 cput_h0 (cput_is0 rfl) (cput_is0 rfl).symm rfl rfl (Nat.le_of_ble_eq_true rfl) (Nat.le_of_ble_eq_true rfl) (Nat.le_of_ble_eq_true rfl) (Nat.le_of_ble_eq_true rfl) (Nat.le_of_ble_eq_true rfl) ?_
  refine x_astore C dX4_weight_8 (by decide) rfl ?_
  refine x_aload C dX4_weight_10 rfl ?_
  refine x_ifnull C dX4_weight_12 ?_
  refine x_iload_n C dX4_weight_15 rfl ?_
  refine x_callS C (c_X4_isMeaning _) ks_X4_isMeaning kl_X4_80 dX4_weight_16 rfl rfl rfl rfl (Nat.le_of_ble_eq_true rfl) (Nat.le_of_ble_eq_true rfl) (Nat.le_of_ble_eq_true rfl) (Nat.le_of_ble_eq_true rfl) (Nat.le_of_ble_eq_true rfl) ?_
  refine x_beq C 29 dX4_weight_19 (by decide) (fun h => absurd (bd_in (c := 6) hm (by decide)) h) (fun _ => ?_)
  refine x_iload_n C dX4_weight_22 rfl ?_
  refine x_callS C (c_X4_isWord _) ks_X4_isWord kl_X4_84 dX4_weight_23 rfl rfl rfl rfl (Nat.le_of_ble_eq_true rfl) (Nat.le_of_ble_eq_true rfl) (Nat.le_of_ble_eq_true rfl) (Nat.le_of_ble_eq_true rfl) (Nat.le_of_ble_eq_true rfl) ?_
  refine x_bne C 31 dX4_weight_26 (by decide) (fun _ => ?_) (fun h => absurd (bd_in (c := 14) hw (by decide)) h)
  refine x_aload C dX4_weight_31 rfl ?_
  refine x_iload_n C dX4_weight_33 rfl ?_
  refine x_iload_n C dX4_weight_34 rfl ?_
  refine x_callV C (c_X2_weightOf hk hm hw) kv_X2_weightOf kl_X4_87 dX4_weight_35 (cput_hs hk) (cput_is0 rfl) (cput_is0 rfl).symm rfl rfl (Nat.le_of_ble_eq_true rfl) (Nat.le_of_ble_eq_true rfl) (Nat.le_of_ble_eq_true rfl) (Nat.le_of_ble_eq_true rfl) (Nat.le_of_ble_eq_true rfl) ?_
  exact x_zret C Z dX4_weight_38 rfl (Nat.le_of_ble_eq_true rfl) (Nat.le_of_ble_eq_true rfl) rfl rfl rfl
set_option maxRecDepth 100000 in
set_option maxHeartbeats 1000000 in
theorem c_X4_weight_n1 {l : Launch} {E : xEnv} {B N : Nat} {σ : Sg} {VV : Cs} {p z n : Nat} {tx : Fn}{x : Int32} (hno : ¬ ∃ k, k < 8 ∧ x = nI k ∧ VV 0 10 k = 1) {m w : Int32} : xM l yX4_weight cX4_weight 5 (some .int) 2 42 0 0 E B [.ref B, .int x, .int m, .int w] N (cput E σ B VV (nI p) (nI z) (nI n) tx) N (cput E σ B VV (nI p) (nI z) (nI n) tx) (some (.int (-1))) := by
  refine xM_of [some (.ref _), some (.int _), some (.int _), some (.int _), none] (by decide +kernel) (Nat.le_of_ble_eq_true rfl) rfl (fun k0 C Z => ?_)
  refine x_aload_n C dX4_weight_0 rfl ?_
  refine x_get C kf_X4_10 cput_0 rfl dX4_weight_1 ?_
  refine x_iload_n C dX4_weight_4 rfl ?_
  refine x_callV C (c_X3_find_none hno) kv_X3_find kl_X4_45 dX4_weight_5 cput_h0 (cput_is0 rfl) (cput_is0 rfl).symm rfl rfl (Nat.le_of_ble_eq_true rfl) (Nat.le_of_ble_eq_true rfl) (Nat.le_of_ble_eq_true rfl) (Nat.le_of_ble_eq_true rfl) (Nat.le_of_ble_eq_true rfl) ?_
  refine x_astoreN C dX4_weight_8 (by decide) rfl ?_
  refine x_aloadN C dX4_weight_10 rfl ?_
  refine x_ifnullN C 29 dX4_weight_12 (by decide) ?_
  refine x_iconst (v := (-1)) C dX4_weight_29 (by decide) ?_
  exact x_zret C Z dX4_weight_30 rfl (Nat.le_of_ble_eq_true rfl) (Nat.le_of_ble_eq_true rfl) rfl rfl rfl
set_option maxRecDepth 100000 in
set_option maxHeartbeats 1000000 in
theorem c_X4_weight_n2 {l : Launch} {E : xEnv} {B N : Nat} {σ : Sg} {VV : Cs} {p z n : Nat} {tx : Fn}{k : Nat} (hk : k < 8) (hp1 : VV 0 10 k = 1) {m w : Int32} (hb : ¬ (0 ≤ m ∧ m < 6)) : xM l yX4_weight cX4_weight 5 (some .int) 2 42 0 0 E B [.ref B, .int (nI k), .int m, .int w] N (cput E σ B VV (nI p) (nI z) (nI n) tx) N (cput E σ B VV (nI p) (nI z) (nI n) tx) (some (.int (-1))) := by
  refine xM_of [some (.ref _), some (.int _), some (.int _), some (.int _), none] (by decide +kernel) (Nat.le_of_ble_eq_true rfl) rfl (fun k0 C Z => ?_)
  refine x_aload_n C dX4_weight_0 rfl ?_
  refine x_get C kf_X4_10 cput_0 rfl dX4_weight_1 ?_
  refine x_iload_n C dX4_weight_4 rfl ?_
  refine x_callV C (c_X3_find_some hk hp1) kv_X3_find kl_X4_45 dX4_weight_5 cput_h0 (cput_is0 rfl) (cput_is0 rfl).symm rfl rfl (Nat.le_of_ble_eq_true rfl) (Nat.le_of_ble_eq_true rfl) (Nat.le_of_ble_eq_true rfl) (Nat.le_of_ble_eq_true rfl) (Nat.le_of_ble_eq_true rfl) ?_
  refine x_astore C dX4_weight_8 (by decide) rfl ?_
  refine x_aload C dX4_weight_10 rfl ?_
  refine x_ifnull C dX4_weight_12 ?_
  refine x_iload_n C dX4_weight_15 rfl ?_
  refine x_callS C (c_X4_isMeaning _) ks_X4_isMeaning kl_X4_80 dX4_weight_16 rfl rfl rfl rfl (Nat.le_of_ble_eq_true rfl) (Nat.le_of_ble_eq_true rfl) (Nat.le_of_ble_eq_true rfl) (Nat.le_of_ble_eq_true rfl) (Nat.le_of_ble_eq_true rfl) ?_
  refine x_beq C 29 dX4_weight_19 (by decide) (fun _ => ?_) (fun h => absurd h hb)
  refine x_iconst (v := (-1)) C dX4_weight_29 (by decide) ?_
  exact x_zret C Z dX4_weight_30 rfl (Nat.le_of_ble_eq_true rfl) (Nat.le_of_ble_eq_true rfl) rfl rfl rfl
set_option maxRecDepth 100000 in
set_option maxHeartbeats 1000000 in
theorem c_X4_weight_n3 {l : Launch} {E : xEnv} {B N : Nat} {σ : Sg} {VV : Cs} {p z n : Nat} {tx : Fn}{k : Nat} (hk : k < 8) (hp1 : VV 0 10 k = 1) {mm : Nat} {w : Int32} (hm : mm < 6) (hb : ¬ (0 ≤ w ∧ w < 14)) : xM l yX4_weight cX4_weight 5 (some .int) 2 42 0 0 E B [.ref B, .int (nI k), .int (nI mm), .int w] N (cput E σ B VV (nI p) (nI z) (nI n) tx) N (cput E σ B VV (nI p) (nI z) (nI n) tx) (some (.int (-1))) := by
  refine xM_of [some (.ref _), some (.int _), some (.int _), some (.int _), none] (by decide +kernel) (Nat.le_of_ble_eq_true rfl) rfl (fun k0 C Z => ?_)
  refine x_aload_n C dX4_weight_0 rfl ?_
  refine x_get C kf_X4_10 cput_0 rfl dX4_weight_1 ?_
  refine x_iload_n C dX4_weight_4 rfl ?_
  refine x_callV C (c_X3_find_some hk hp1) kv_X3_find kl_X4_45 dX4_weight_5 cput_h0 (cput_is0 rfl) (cput_is0 rfl).symm rfl rfl (Nat.le_of_ble_eq_true rfl) (Nat.le_of_ble_eq_true rfl) (Nat.le_of_ble_eq_true rfl) (Nat.le_of_ble_eq_true rfl) (Nat.le_of_ble_eq_true rfl) ?_
  refine x_astore C dX4_weight_8 (by decide) rfl ?_
  refine x_aload C dX4_weight_10 rfl ?_
  refine x_ifnull C dX4_weight_12 ?_
  refine x_iload_n C dX4_weight_15 rfl ?_
  refine x_callS C (c_X4_isMeaning _) ks_X4_isMeaning kl_X4_80 dX4_weight_16 rfl rfl rfl rfl (Nat.le_of_ble_eq_true rfl) (Nat.le_of_ble_eq_true rfl) (Nat.le_of_ble_eq_true rfl) (Nat.le_of_ble_eq_true rfl) (Nat.le_of_ble_eq_true rfl) ?_
  refine x_beq C 29 dX4_weight_19 (by decide) (fun h => absurd (bd_in (c := 6) hm (by decide)) h) (fun _ => ?_)
  refine x_iload_n C dX4_weight_22 rfl ?_
  refine x_callS C (c_X4_isWord _) ks_X4_isWord kl_X4_84 dX4_weight_23 rfl rfl rfl rfl (Nat.le_of_ble_eq_true rfl) (Nat.le_of_ble_eq_true rfl) (Nat.le_of_ble_eq_true rfl) (Nat.le_of_ble_eq_true rfl) (Nat.le_of_ble_eq_true rfl) ?_
  refine x_bne C 31 dX4_weight_26 (by decide) (fun h => absurd h hb) (fun _ => ?_)
  refine x_iconst (v := (-1)) C dX4_weight_29 (by decide) ?_
  exact x_zret C Z dX4_weight_30 rfl (Nat.le_of_ble_eq_true rfl) (Nat.le_of_ble_eq_true rfl) rfl rfl rfl
set_option maxRecDepth 100000 in
set_option maxHeartbeats 1000000 in
theorem c_X4_speaker_ok {l : Launch} {E : xEnv} {B N : Nat} {σ : Sg} {VV : Cs} {p z n : Nat} {tx : Fn}{k : Nat} (hk : k < 8) (hp1 : VV 0 10 k = 1) {j : Nat} (hj : j < 5) : xM l yX4_speaker cX4_speaker 4 (some .int) 5 113 0 0 E B [.ref B, .int (nI k), .int (nI j)] N (cput E σ B VV (nI p) (nI z) (nI n) tx) N (cput E σ B VV (nI p) (nI z) (nI n) tx) (some (.int (nsS (VV 0) k j))) := by
  refine xM_of [some (.ref _), some (.int _), some (.int _), none] (by decide +kernel) (Nat.le_of_ble_eq_true rfl) rfl (fun k0 C Z => ?_)
  refine x_aload_n C dX4_speaker_0 rfl ?_
  refine x_get C kf_X4_10 cput_0 rfl dX4_speaker_1 ?_
  refine x_iload_n C dX4_speaker_4 rfl ?_
  refine x_callV C (c_X3_find_some hk hp1) kv_X3_find kl_X4_45 dX4_speaker_5 cput_h0 (cput_is0 rfl) (cput_is0 rfl).symm rfl rfl (Nat.le_of_ble_eq_true rfl) (Nat.le_of_ble_eq_true rfl) (Nat.le_of_ble_eq_true rfl) (Nat.le_of_ble_eq_true rfl) (Nat.le_of_ble_eq_true rfl) ?_
  refine x_astore_n C dX4_speaker_8 (by decide) rfl ?_
  refine x_aload_n C dX4_speaker_9 rfl ?_
  refine x_ifnn C 15 dX4_speaker_10 (by decide) ?_
  refine x_iload_n C dX4_speaker_15 rfl ?_
  refine x_iconst (v := 5) C dX4_speaker_16 (by decide) ?_
  refine x_callS C (c_X4_isBelow _ _) ks_X4_isBelow kl_X4_57 dX4_speaker_17 rfl rfl rfl rfl (Nat.le_of_ble_eq_true rfl) (Nat.le_of_ble_eq_true rfl) (Nat.le_of_ble_eq_true rfl) (Nat.le_of_ble_eq_true rfl) (Nat.le_of_ble_eq_true rfl) ?_
  refine x_beq C 35 dX4_speaker_20 (by decide) (fun h => absurd (bd_in (c := 5) hj (by decide)) h) (fun _ => ?_)
  refine x_aload_n C dX4_speaker_23 rfl ?_
  refine x_get C kf_X4_10 cput_0 rfl dX4_speaker_24 ?_
  refine x_aload_n C dX4_speaker_27 rfl ?_
  refine x_iload_n C dX4_speaker_28 rfl ?_
  refine x_callV C (c_X3_numberOfSpeaker hk hj) kv_X3_numberOfSpeaker kl_X4_114 dX4_speaker_29 cput_h0 (cput_is0 rfl) (cput_is0 rfl).symm rfl rfl (Nat.le_of_ble_eq_true rfl) (Nat.le_of_ble_eq_true rfl) (Nat.le_of_ble_eq_true rfl) (Nat.le_of_ble_eq_true rfl) (Nat.le_of_ble_eq_true rfl) ?_
  refine x_goto C 37 dX4_speaker_32 (by decide) ?_
  exact x_zret C Z dX4_speaker_37 rfl (Nat.le_of_ble_eq_true rfl) (Nat.le_of_ble_eq_true rfl) rfl rfl rfl
set_option maxRecDepth 100000 in
set_option maxHeartbeats 1000000 in
theorem c_X4_speaker_no {l : Launch} {E : xEnv} {B N : Nat} {σ : Sg} {VV : Cs} {p z n : Nat} {tx : Fn}{x : Int32} (hno : ¬ ∃ k, k < 8 ∧ x = nI k ∧ VV 0 10 k = 1) {w : Int32} : xM l yX4_speaker cX4_speaker 4 (some .int) 5 113 0 0 E B [.ref B, .int x, .int w] N (cput E σ B VV (nI p) (nI z) (nI n) tx) N (cput E σ B VV (nI p) (nI z) (nI n) tx) (some (.int (-1))) := by
  refine xM_of [some (.ref _), some (.int _), some (.int _), none] (by decide +kernel) (Nat.le_of_ble_eq_true rfl) rfl (fun k0 C Z => ?_)
  refine x_aload_n C dX4_speaker_0 rfl ?_
  refine x_get C kf_X4_10 cput_0 rfl dX4_speaker_1 ?_
  refine x_iload_n C dX4_speaker_4 rfl ?_
  refine x_callV C (c_X3_find_none hno) kv_X3_find kl_X4_45 dX4_speaker_5 cput_h0 (cput_is0 rfl) (cput_is0 rfl).symm rfl rfl (Nat.le_of_ble_eq_true rfl) (Nat.le_of_ble_eq_true rfl) (Nat.le_of_ble_eq_true rfl) (Nat.le_of_ble_eq_true rfl) (Nat.le_of_ble_eq_true rfl) ?_
  refine x_astore_nN C dX4_speaker_8 (by decide) rfl ?_
  refine x_aload_nN C dX4_speaker_9 rfl ?_
  refine x_ifnnN C dX4_speaker_10 ?_
  refine x_iconst (v := (-1)) C dX4_speaker_13 (by decide) ?_
  exact x_zret C Z dX4_speaker_14 rfl (Nat.le_of_ble_eq_true rfl) (Nat.le_of_ble_eq_true rfl) rfl rfl rfl
set_option maxRecDepth 100000 in
set_option maxHeartbeats 1000000 in
theorem c_X4_speaker_bad {l : Launch} {E : xEnv} {B N : Nat} {σ : Sg} {VV : Cs} {p z n : Nat} {tx : Fn}{k : Nat} (hk : k < 8) (hp1 : VV 0 10 k = 1) {w : Int32} (hb : ¬ (0 ≤ w ∧ w < 5)) : xM l yX4_speaker cX4_speaker 4 (some .int) 5 113 0 0 E B [.ref B, .int (nI k), .int w] N (cput E σ B VV (nI p) (nI z) (nI n) tx) N (cput E σ B VV (nI p) (nI z) (nI n) tx) (some (.int (-2))) := by
  refine xM_of [some (.ref _), some (.int _), some (.int _), none] (by decide +kernel) (Nat.le_of_ble_eq_true rfl) rfl (fun k0 C Z => ?_)
  refine x_aload_n C dX4_speaker_0 rfl ?_
  refine x_get C kf_X4_10 cput_0 rfl dX4_speaker_1 ?_
  refine x_iload_n C dX4_speaker_4 rfl ?_
  refine x_callV C (c_X3_find_some hk hp1) kv_X3_find kl_X4_45 dX4_speaker_5 cput_h0 (cput_is0 rfl) (cput_is0 rfl).symm rfl rfl (Nat.le_of_ble_eq_true rfl) (Nat.le_of_ble_eq_true rfl) (Nat.le_of_ble_eq_true rfl) (Nat.le_of_ble_eq_true rfl) (Nat.le_of_ble_eq_true rfl) ?_
  refine x_astore_n C dX4_speaker_8 (by decide) rfl ?_
  refine x_aload_n C dX4_speaker_9 rfl ?_
  refine x_ifnn C 15 dX4_speaker_10 (by decide) ?_
  refine x_iload_n C dX4_speaker_15 rfl ?_
  refine x_iconst (v := 5) C dX4_speaker_16 (by decide) ?_
  refine x_callS C (c_X4_isBelow _ _) ks_X4_isBelow kl_X4_57 dX4_speaker_17 rfl rfl rfl rfl (Nat.le_of_ble_eq_true rfl) (Nat.le_of_ble_eq_true rfl) (Nat.le_of_ble_eq_true rfl) (Nat.le_of_ble_eq_true rfl) (Nat.le_of_ble_eq_true rfl) ?_
  refine x_beq C 35 dX4_speaker_20 (by decide) (fun _ => ?_) (fun h => absurd h hb)
  refine x_bipush (v := (-2)) C dX4_speaker_35 (by decide) ?_
  exact x_zret C Z dX4_speaker_37 rfl (Nat.le_of_ble_eq_true rfl) (Nat.le_of_ble_eq_true rfl) rfl rfl rfl
set_option maxRecDepth 100000 in
set_option maxHeartbeats 1000000 in
theorem c_X4_wordOf_ok {l : Launch} {E : xEnv} {B N : Nat} {σ : Sg} {VV : Cs} {p z n : Nat} {tx : Fn}{k : Nat} (hk : k < 8) (hp1 : VV 0 10 k = 1) {mm : Nat} (hm : mm < 6) : xM l yX4_wordOf cX4_wordOf 4 (some .int) 3 67 0 0 E B [.ref B, .int (nI k), .int (nI mm)] N (cput E σ B VV (nI p) (nI z) (nI n) tx) N (cput E σ B VV (nI p) (nI z) (nI n) tx) (some (.int (oI (wfS (VV 0 k) mm)))) := by
  refine xM_of [some (.ref _), some (.int _), some (.int _), none] (by decide +kernel) (Nat.le_of_ble_eq_true rfl) rfl (fun k0 C Z => ?_)
  refine x_aload_n C dX4_wordOf_0 rfl ?_
  refine x_get C kf_X4_10 cput_0 rfl dX4_wordOf_1 ?_
  refine x_iload_n C dX4_wordOf_4 rfl ?_
  refine x_callV C (c_X3_find_some hk hp1) kv_X3_find kl_X4_45 dX4_wordOf_5 cput_h0 (cput_is0 rfl) (cput_is0 rfl).symm rfl rfl (Nat.le_of_ble_eq_true rfl) (Nat.le_of_ble_eq_true rfl) (Nat.le_of_ble_eq_true rfl) (Nat.le_of_ble_eq_true rfl) (Nat.le_of_ble_eq_true rfl) ?_
  refine x_astore_n C dX4_wordOf_8 (by decide) rfl ?_
  refine x_aload_n C dX4_wordOf_9 rfl ?_
  refine x_ifnull C dX4_wordOf_10 ?_
  refine x_iload_n C dX4_wordOf_13 rfl ?_
  refine x_callS C (c_X4_isMeaning _) ks_X4_isMeaning kl_X4_80 dX4_wordOf_14 rfl rfl rfl rfl (Nat.le_of_ble_eq_true rfl) (Nat.le_of_ble_eq_true rfl) (Nat.le_of_ble_eq_true rfl) (Nat.le_of_ble_eq_true rfl) (Nat.le_of_ble_eq_true rfl) ?_
  refine x_bne C 22 dX4_wordOf_17 (by decide) (fun _ => ?_) (fun h => absurd (bd_in (c := 6) hm (by decide)) h)
  refine x_aload_n C dX4_wordOf_22 rfl ?_
  refine x_iload_n C dX4_wordOf_23 rfl ?_
  refine x_callV C (c_X2_wordFor hk hm) kv_X2_wordFor kl_X4_118 dX4_wordOf_24 (cput_hs hk) (cput_is0 rfl) (cput_is0 rfl).symm rfl rfl (Nat.le_of_ble_eq_true rfl) (Nat.le_of_ble_eq_true rfl) (Nat.le_of_ble_eq_true rfl) (Nat.le_of_ble_eq_true rfl) (Nat.le_of_ble_eq_true rfl) ?_
  exact x_zret C Z dX4_wordOf_27 rfl (Nat.le_of_ble_eq_true rfl) (Nat.le_of_ble_eq_true rfl) rfl rfl rfl
set_option maxRecDepth 100000 in
set_option maxHeartbeats 1000000 in
theorem c_X4_wordOf_no {l : Launch} {E : xEnv} {B N : Nat} {σ : Sg} {VV : Cs} {p z n : Nat} {tx : Fn}{x : Int32} (hno : ¬ ∃ k, k < 8 ∧ x = nI k ∧ VV 0 10 k = 1) {w : Int32} : xM l yX4_wordOf cX4_wordOf 4 (some .int) 3 67 0 0 E B [.ref B, .int x, .int w] N (cput E σ B VV (nI p) (nI z) (nI n) tx) N (cput E σ B VV (nI p) (nI z) (nI n) tx) (some (.int (-1))) := by
  refine xM_of [some (.ref _), some (.int _), some (.int _), none] (by decide +kernel) (Nat.le_of_ble_eq_true rfl) rfl (fun k0 C Z => ?_)
  refine x_aload_n C dX4_wordOf_0 rfl ?_
  refine x_get C kf_X4_10 cput_0 rfl dX4_wordOf_1 ?_
  refine x_iload_n C dX4_wordOf_4 rfl ?_
  refine x_callV C (c_X3_find_none hno) kv_X3_find kl_X4_45 dX4_wordOf_5 cput_h0 (cput_is0 rfl) (cput_is0 rfl).symm rfl rfl (Nat.le_of_ble_eq_true rfl) (Nat.le_of_ble_eq_true rfl) (Nat.le_of_ble_eq_true rfl) (Nat.le_of_ble_eq_true rfl) (Nat.le_of_ble_eq_true rfl) ?_
  refine x_astore_nN C dX4_wordOf_8 (by decide) rfl ?_
  refine x_aload_nN C dX4_wordOf_9 rfl ?_
  refine x_ifnullN C 20 dX4_wordOf_10 (by decide) ?_
  refine x_iconst (v := (-1)) C dX4_wordOf_20 (by decide) ?_
  exact x_zret C Z dX4_wordOf_21 rfl (Nat.le_of_ble_eq_true rfl) (Nat.le_of_ble_eq_true rfl) rfl rfl rfl
set_option maxRecDepth 100000 in
set_option maxHeartbeats 1000000 in
theorem c_X4_wordOf_n2 {l : Launch} {E : xEnv} {B N : Nat} {σ : Sg} {VV : Cs} {p z n : Nat} {tx : Fn}{k : Nat} (hk : k < 8) (hp1 : VV 0 10 k = 1) {w : Int32} (hb : ¬ (0 ≤ w ∧ w < 6)) : xM l yX4_wordOf cX4_wordOf 4 (some .int) 3 67 0 0 E B [.ref B, .int (nI k), .int w] N (cput E σ B VV (nI p) (nI z) (nI n) tx) N (cput E σ B VV (nI p) (nI z) (nI n) tx) (some (.int (-1))) := by
  refine xM_of [some (.ref _), some (.int _), some (.int _), none] (by decide +kernel) (Nat.le_of_ble_eq_true rfl) rfl (fun k0 C Z => ?_)
  refine x_aload_n C dX4_wordOf_0 rfl ?_
  refine x_get C kf_X4_10 cput_0 rfl dX4_wordOf_1 ?_
  refine x_iload_n C dX4_wordOf_4 rfl ?_
  refine x_callV C (c_X3_find_some hk hp1) kv_X3_find kl_X4_45 dX4_wordOf_5 cput_h0 (cput_is0 rfl) (cput_is0 rfl).symm rfl rfl (Nat.le_of_ble_eq_true rfl) (Nat.le_of_ble_eq_true rfl) (Nat.le_of_ble_eq_true rfl) (Nat.le_of_ble_eq_true rfl) (Nat.le_of_ble_eq_true rfl) ?_
  refine x_astore_n C dX4_wordOf_8 (by decide) rfl ?_
  refine x_aload_n C dX4_wordOf_9 rfl ?_
  refine x_ifnull C dX4_wordOf_10 ?_
  refine x_iload_n C dX4_wordOf_13 rfl ?_
  refine x_callS C (c_X4_isMeaning _) ks_X4_isMeaning kl_X4_80 dX4_wordOf_14 rfl rfl rfl rfl (Nat.le_of_ble_eq_true rfl) (Nat.le_of_ble_eq_true rfl) (Nat.le_of_ble_eq_true rfl) (Nat.le_of_ble_eq_true rfl) (Nat.le_of_ble_eq_true rfl) ?_
  refine x_bne C 22 dX4_wordOf_17 (by decide) (fun h => absurd h hb) (fun _ => ?_)
  refine x_iconst (v := (-1)) C dX4_wordOf_20 (by decide) ?_
  exact x_zret C Z dX4_wordOf_21 rfl (Nat.le_of_ble_eq_true rfl) (Nat.le_of_ble_eq_true rfl) rfl rfl rfl
set_option maxRecDepth 100000 in
set_option maxHeartbeats 1000000 in
theorem c_X4_hears_ok {l : Launch} {E : xEnv} {B N : Nat} {σ : Sg} {VV : Cs} {p z n : Nat} {tx : Fn}{k : Nat} (hk : k < 8) (hp1 : VV 0 10 k = 1) {ww : Nat} (hw : ww < 14) : xM l yX4_hears cX4_hears 4 (some .int) 3 67 0 0 E B [.ref B, .int (nI k), .int (nI ww)] N (cput E σ B VV (nI p) (nI z) (nI n) tx) N (cput E σ B VV (nI p) (nI z) (nI n) tx) (some (.int (oI (haS (VV 0 k) ww)))) := by
  refine xM_of [some (.ref _), some (.int _), some (.int _), none] (by decide +kernel) (Nat.le_of_ble_eq_true rfl) rfl (fun k0 C Z => ?_)
  refine x_aload_n C dX4_hears_0 rfl ?_
  refine x_get C kf_X4_10 cput_0 rfl dX4_hears_1 ?_
  refine x_iload_n C dX4_hears_4 rfl ?_
  refine x_callV C (c_X3_find_some hk hp1) kv_X3_find kl_X4_45 dX4_hears_5 cput_h0 (cput_is0 rfl) (cput_is0 rfl).symm rfl rfl (Nat.le_of_ble_eq_true rfl) (Nat.le_of_ble_eq_true rfl) (Nat.le_of_ble_eq_true rfl) (Nat.le_of_ble_eq_true rfl) (Nat.le_of_ble_eq_true rfl) ?_
  refine x_astore_n C dX4_hears_8 (by decide) rfl ?_
  refine x_aload_n C dX4_hears_9 rfl ?_
  refine x_ifnull C dX4_hears_10 ?_
  refine x_iload_n C dX4_hears_13 rfl ?_
  refine x_callS C (c_X4_isWord _) ks_X4_isWord kl_X4_84 dX4_hears_14 rfl rfl rfl rfl (Nat.le_of_ble_eq_true rfl) (Nat.le_of_ble_eq_true rfl) (Nat.le_of_ble_eq_true rfl) (Nat.le_of_ble_eq_true rfl) (Nat.le_of_ble_eq_true rfl) ?_
  refine x_bne C 22 dX4_hears_17 (by decide) (fun _ => ?_) (fun h => absurd (bd_in (c := 14) hw (by decide)) h)
  refine x_aload_n C dX4_hears_22 rfl ?_
  refine x_iload_n C dX4_hears_23 rfl ?_
  refine x_callV C (c_X2_meaningOf hk hw) kv_X2_meaningOf kl_X4_121 dX4_hears_24 (cput_hs hk) (cput_is0 rfl) (cput_is0 rfl).symm rfl rfl (Nat.le_of_ble_eq_true rfl) (Nat.le_of_ble_eq_true rfl) (Nat.le_of_ble_eq_true rfl) (Nat.le_of_ble_eq_true rfl) (Nat.le_of_ble_eq_true rfl) ?_
  exact x_zret C Z dX4_hears_27 rfl (Nat.le_of_ble_eq_true rfl) (Nat.le_of_ble_eq_true rfl) rfl rfl rfl
set_option maxRecDepth 100000 in
set_option maxHeartbeats 1000000 in
theorem c_X4_hears_no {l : Launch} {E : xEnv} {B N : Nat} {σ : Sg} {VV : Cs} {p z n : Nat} {tx : Fn}{x : Int32} (hno : ¬ ∃ k, k < 8 ∧ x = nI k ∧ VV 0 10 k = 1) {w : Int32} : xM l yX4_hears cX4_hears 4 (some .int) 3 67 0 0 E B [.ref B, .int x, .int w] N (cput E σ B VV (nI p) (nI z) (nI n) tx) N (cput E σ B VV (nI p) (nI z) (nI n) tx) (some (.int (-1))) := by
  refine xM_of [some (.ref _), some (.int _), some (.int _), none] (by decide +kernel) (Nat.le_of_ble_eq_true rfl) rfl (fun k0 C Z => ?_)
  refine x_aload_n C dX4_hears_0 rfl ?_
  refine x_get C kf_X4_10 cput_0 rfl dX4_hears_1 ?_
  refine x_iload_n C dX4_hears_4 rfl ?_
  refine x_callV C (c_X3_find_none hno) kv_X3_find kl_X4_45 dX4_hears_5 cput_h0 (cput_is0 rfl) (cput_is0 rfl).symm rfl rfl (Nat.le_of_ble_eq_true rfl) (Nat.le_of_ble_eq_true rfl) (Nat.le_of_ble_eq_true rfl) (Nat.le_of_ble_eq_true rfl) (Nat.le_of_ble_eq_true rfl) ?_
  refine x_astore_nN C dX4_hears_8 (by decide) rfl ?_
  refine x_aload_nN C dX4_hears_9 rfl ?_
  refine x_ifnullN C 20 dX4_hears_10 (by decide) ?_
  refine x_iconst (v := (-1)) C dX4_hears_20 (by decide) ?_
  exact x_zret C Z dX4_hears_21 rfl (Nat.le_of_ble_eq_true rfl) (Nat.le_of_ble_eq_true rfl) rfl rfl rfl
set_option maxRecDepth 100000 in
set_option maxHeartbeats 1000000 in
theorem c_X4_hears_n2 {l : Launch} {E : xEnv} {B N : Nat} {σ : Sg} {VV : Cs} {p z n : Nat} {tx : Fn}{k : Nat} (hk : k < 8) (hp1 : VV 0 10 k = 1) {w : Int32} (hb : ¬ (0 ≤ w ∧ w < 14)) : xM l yX4_hears cX4_hears 4 (some .int) 3 67 0 0 E B [.ref B, .int (nI k), .int w] N (cput E σ B VV (nI p) (nI z) (nI n) tx) N (cput E σ B VV (nI p) (nI z) (nI n) tx) (some (.int (-1))) := by
  refine xM_of [some (.ref _), some (.int _), some (.int _), none] (by decide +kernel) (Nat.le_of_ble_eq_true rfl) rfl (fun k0 C Z => ?_)
  refine x_aload_n C dX4_hears_0 rfl ?_
  refine x_get C kf_X4_10 cput_0 rfl dX4_hears_1 ?_
  refine x_iload_n C dX4_hears_4 rfl ?_
  refine x_callV C (c_X3_find_some hk hp1) kv_X3_find kl_X4_45 dX4_hears_5 cput_h0 (cput_is0 rfl) (cput_is0 rfl).symm rfl rfl (Nat.le_of_ble_eq_true rfl) (Nat.le_of_ble_eq_true rfl) (Nat.le_of_ble_eq_true rfl) (Nat.le_of_ble_eq_true rfl) (Nat.le_of_ble_eq_true rfl) ?_
  refine x_astore_n C dX4_hears_8 (by decide) rfl ?_
  refine x_aload_n C dX4_hears_9 rfl ?_
  refine x_ifnull C dX4_hears_10 ?_
  refine x_iload_n C dX4_hears_13 rfl ?_
  refine x_callS C (c_X4_isWord _) ks_X4_isWord kl_X4_84 dX4_hears_14 rfl rfl rfl rfl (Nat.le_of_ble_eq_true rfl) (Nat.le_of_ble_eq_true rfl) (Nat.le_of_ble_eq_true rfl) (Nat.le_of_ble_eq_true rfl) (Nat.le_of_ble_eq_true rfl) ?_
  refine x_bne C 22 dX4_hears_17 (by decide) (fun h => absurd h hb) (fun _ => ?_)
  refine x_iconst (v := (-1)) C dX4_hears_20 (by decide) ?_
  exact x_zret C Z dX4_hears_21 rfl (Nat.le_of_ble_eq_true rfl) (Nat.le_of_ble_eq_true rfl) rfl rfl rfl
set_option maxRecDepth 100000 in
set_option maxHeartbeats 1000000 in
theorem c_X4_agreement_w0 {l : Launch} {E : xEnv} {B N : Nat} {σ : Sg} {VV : Cs} {p z n : Nat} {tx : Fn}{k1 : Nat} (hk1 : k1 < 8) (hp1 : VV 0 10 k1 = 1){k2 : Nat} (hk2 : k2 < 8) (hp2 : VV 0 10 k2 = 1) : xM l yX4_agreement cX4_agreement 6 (some .int) 4 91 0 0 E B [.ref B, .int (nI k1), .int (nI k2), .int 0] N (cput E σ B VV (nI p) (nI z) (nI n) tx) N (cput E σ B VV (nI p) (nI z) (nI n) tx) (some (.int (nI (agN (VV 0) k1 k2 6)))) := by
  refine xM_of [some (.ref _), some (.int _), some (.int _), some (.int _), none, none] (by decide +kernel) (Nat.le_of_ble_eq_true rfl) rfl (fun k0 C Z => ?_)
  refine x_aload_n C dX4_agreement_0 rfl ?_
  refine x_get C kf_X4_10 cput_0 rfl dX4_agreement_1 ?_
  refine x_iload_n C dX4_agreement_4 rfl ?_
  refine x_callV C (c_X3_find_some hk1 hp1) kv_X3_find kl_X4_45 dX4_agreement_5 cput_h0 (cput_is0 rfl) (cput_is0 rfl).symm rfl rfl (Nat.le_of_ble_eq_true rfl) (Nat.le_of_ble_eq_true rfl) (Nat.le_of_ble_eq_true rfl) (Nat.le_of_ble_eq_true rfl) (Nat.le_of_ble_eq_true rfl) ?_
  refine x_astore C dX4_agreement_8 (by decide) rfl ?_
  refine x_aload_n C dX4_agreement_10 rfl ?_
  refine x_get C kf_X4_10 cput_0 rfl dX4_agreement_11 ?_
  refine x_iload_n C dX4_agreement_14 rfl ?_
  refine x_callV C (c_X3_find_some hk2 hp2) kv_X3_find kl_X4_45 dX4_agreement_15 cput_h0 (cput_is0 rfl) (cput_is0 rfl).symm rfl rfl (Nat.le_of_ble_eq_true rfl) (Nat.le_of_ble_eq_true rfl) (Nat.le_of_ble_eq_true rfl) (Nat.le_of_ble_eq_true rfl) (Nat.le_of_ble_eq_true rfl) ?_
  refine x_astore C dX4_agreement_18 (by decide) rfl ?_
  refine x_aload C dX4_agreement_20 rfl ?_
  refine x_ifnull C dX4_agreement_22 ?_
  refine x_aload C dX4_agreement_25 rfl ?_
  refine x_ifnn C 32 dX4_agreement_27 (by decide) ?_
  refine x_iload_n C dX4_agreement_32 rfl ?_
  refine x_if_ne C 44 dX4_agreement_33 (by decide) (fun h => absurd rfl h) (fun _ => ?_)
  refine x_aload C dX4_agreement_36 rfl ?_
  refine x_aload C dX4_agreement_38 rfl ?_
  refine x_callS C (c_X4_agreementByMeanings hk1 hk2) ks_X4_agreementByMeanings kl_X4_130 dX4_agreement_40 (cput_is0 rfl) (cput_is0 rfl).symm rfl rfl (Nat.le_of_ble_eq_true rfl) (Nat.le_of_ble_eq_true rfl) (Nat.le_of_ble_eq_true rfl) (Nat.le_of_ble_eq_true rfl) (Nat.le_of_ble_eq_true rfl) ?_
  exact x_zret C Z dX4_agreement_43 rfl (Nat.le_of_ble_eq_true rfl) (Nat.le_of_ble_eq_true rfl) rfl rfl rfl
set_option maxRecDepth 100000 in
set_option maxHeartbeats 1000000 in
theorem c_X4_agreement_w1 {l : Launch} {E : xEnv} {B N : Nat} {σ : Sg} {VV : Cs} {p z n : Nat} {tx : Fn}{k1 : Nat} (hk1 : k1 < 8) (hp1 : VV 0 10 k1 = 1){k2 : Nat} (hk2 : k2 < 8) (hp2 : VV 0 10 k2 = 1) : xM l yX4_agreement cX4_agreement 6 (some .int) 4 91 0 0 E B [.ref B, .int (nI k1), .int (nI k2), .int 1] N (cput E σ B VV (nI p) (nI z) (nI n) tx) N (cput E σ B VV (nI p) (nI z) (nI n) tx) (some (.int (nI (awN (VV 0) k1 k2 14)))) := by
  refine xM_of [some (.ref _), some (.int _), some (.int _), some (.int _), none, none] (by decide +kernel) (Nat.le_of_ble_eq_true rfl) rfl (fun k0 C Z => ?_)
  refine x_aload_n C dX4_agreement_0 rfl ?_
  refine x_get C kf_X4_10 cput_0 rfl dX4_agreement_1 ?_
  refine x_iload_n C dX4_agreement_4 rfl ?_
  refine x_callV C (c_X3_find_some hk1 hp1) kv_X3_find kl_X4_45 dX4_agreement_5 cput_h0 (cput_is0 rfl) (cput_is0 rfl).symm rfl rfl (Nat.le_of_ble_eq_true rfl) (Nat.le_of_ble_eq_true rfl) (Nat.le_of_ble_eq_true rfl) (Nat.le_of_ble_eq_true rfl) (Nat.le_of_ble_eq_true rfl) ?_
  refine x_astore C dX4_agreement_8 (by decide) rfl ?_
  refine x_aload_n C dX4_agreement_10 rfl ?_
  refine x_get C kf_X4_10 cput_0 rfl dX4_agreement_11 ?_
  refine x_iload_n C dX4_agreement_14 rfl ?_
  refine x_callV C (c_X3_find_some hk2 hp2) kv_X3_find kl_X4_45 dX4_agreement_15 cput_h0 (cput_is0 rfl) (cput_is0 rfl).symm rfl rfl (Nat.le_of_ble_eq_true rfl) (Nat.le_of_ble_eq_true rfl) (Nat.le_of_ble_eq_true rfl) (Nat.le_of_ble_eq_true rfl) (Nat.le_of_ble_eq_true rfl) ?_
  refine x_astore C dX4_agreement_18 (by decide) rfl ?_
  refine x_aload C dX4_agreement_20 rfl ?_
  refine x_ifnull C dX4_agreement_22 ?_
  refine x_aload C dX4_agreement_25 rfl ?_
  refine x_ifnn C 32 dX4_agreement_27 (by decide) ?_
  refine x_iload_n C dX4_agreement_32 rfl ?_
  refine x_if_ne C 44 dX4_agreement_33 (by decide) (fun _ => ?_) (fun h => absurd h (by decide))
  refine x_iload_n C dX4_agreement_44 rfl ?_
  refine x_iconst (v := 1) C dX4_agreement_45 (by decide) ?_
  refine x_ic_ne C 59 dX4_agreement_46 (by decide) (fun h => absurd rfl h) (fun _ => ?_)
  refine x_aload C dX4_agreement_49 rfl ?_
  refine x_aload C dX4_agreement_51 rfl ?_
  refine x_callS C (c_X4_agreementByWords hk1 hk2) ks_X4_agreementByWords kl_X4_134 dX4_agreement_53 (cput_is0 rfl) (cput_is0 rfl).symm rfl rfl (Nat.le_of_ble_eq_true rfl) (Nat.le_of_ble_eq_true rfl) (Nat.le_of_ble_eq_true rfl) (Nat.le_of_ble_eq_true rfl) (Nat.le_of_ble_eq_true rfl) ?_
  refine x_goto C 61 dX4_agreement_56 (by decide) ?_
  exact x_zret C Z dX4_agreement_61 rfl (Nat.le_of_ble_eq_true rfl) (Nat.le_of_ble_eq_true rfl) rfl rfl rfl
set_option maxRecDepth 100000 in
set_option maxHeartbeats 1000000 in
theorem c_X4_agreement_bad {l : Launch} {E : xEnv} {B N : Nat} {σ : Sg} {VV : Cs} {p z n : Nat} {tx : Fn}{k1 : Nat} (hk1 : k1 < 8) (hp1 : VV 0 10 k1 = 1){k2 : Nat} (hk2 : k2 < 8) (hp2 : VV 0 10 k2 = 1) {w : Int32} (h1 : ¬ w = 0) (h2 : ¬ w = 1) : xM l yX4_agreement cX4_agreement 6 (some .int) 4 91 0 0 E B [.ref B, .int (nI k1), .int (nI k2), .int w] N (cput E σ B VV (nI p) (nI z) (nI n) tx) N (cput E σ B VV (nI p) (nI z) (nI n) tx) (some (.int (-2))) := by
  refine xM_of [some (.ref _), some (.int _), some (.int _), some (.int _), none, none] (by decide +kernel) (Nat.le_of_ble_eq_true rfl) rfl (fun k0 C Z => ?_)
  refine x_aload_n C dX4_agreement_0 rfl ?_
  refine x_get C kf_X4_10 cput_0 rfl dX4_agreement_1 ?_
  refine x_iload_n C dX4_agreement_4 rfl ?_
  refine x_callV C (c_X3_find_some hk1 hp1) kv_X3_find kl_X4_45 dX4_agreement_5 cput_h0 (cput_is0 rfl) (cput_is0 rfl).symm rfl rfl (Nat.le_of_ble_eq_true rfl) (Nat.le_of_ble_eq_true rfl) (Nat.le_of_ble_eq_true rfl) (Nat.le_of_ble_eq_true rfl) (Nat.le_of_ble_eq_true rfl) ?_
  refine x_astore C dX4_agreement_8 (by decide) rfl ?_
  refine x_aload_n C dX4_agreement_10 rfl ?_
  refine x_get C kf_X4_10 cput_0 rfl dX4_agreement_11 ?_
  refine x_iload_n C dX4_agreement_14 rfl ?_
  refine x_callV C (c_X3_find_some hk2 hp2) kv_X3_find kl_X4_45 dX4_agreement_15 cput_h0 (cput_is0 rfl) (cput_is0 rfl).symm rfl rfl (Nat.le_of_ble_eq_true rfl) (Nat.le_of_ble_eq_true rfl) (Nat.le_of_ble_eq_true rfl) (Nat.le_of_ble_eq_true rfl) (Nat.le_of_ble_eq_true rfl) ?_
  refine x_astore C dX4_agreement_18 (by decide) rfl ?_
  refine x_aload C dX4_agreement_20 rfl ?_
  refine x_ifnull C dX4_agreement_22 ?_
  refine x_aload C dX4_agreement_25 rfl ?_
  refine x_ifnn C 32 dX4_agreement_27 (by decide) ?_
  refine x_iload_n C dX4_agreement_32 rfl ?_
  refine x_if_ne C 44 dX4_agreement_33 (by decide) (fun _ => ?_) (fun h => absurd h h1)
  refine x_iload_n C dX4_agreement_44 rfl ?_
  refine x_iconst (v := 1) C dX4_agreement_45 (by decide) ?_
  refine x_ic_ne C 59 dX4_agreement_46 (by decide) (fun _ => ?_) (fun h => absurd h h2)
  refine x_bipush (v := (-2)) C dX4_agreement_59 (by decide) ?_
  exact x_zret C Z dX4_agreement_61 rfl (Nat.le_of_ble_eq_true rfl) (Nat.le_of_ble_eq_true rfl) rfl rfl rfl
set_option maxRecDepth 100000 in
set_option maxHeartbeats 1000000 in
theorem c_X4_agreement_n1s {l : Launch} {E : xEnv} {B N : Nat} {σ : Sg} {VV : Cs} {p z n : Nat} {tx : Fn}{x : Int32} (hno : ¬ ∃ k, k < 8 ∧ x = nI k ∧ VV 0 10 k = 1){k2 : Nat} (hk2 : k2 < 8) (hp2 : VV 0 10 k2 = 1) {w : Int32} : xM l yX4_agreement cX4_agreement 6 (some .int) 4 91 0 0 E B [.ref B, .int x, .int (nI k2), .int w] N (cput E σ B VV (nI p) (nI z) (nI n) tx) N (cput E σ B VV (nI p) (nI z) (nI n) tx) (some (.int (-1))) := by
  refine xM_of [some (.ref _), some (.int _), some (.int _), some (.int _), none, none] (by decide +kernel) (Nat.le_of_ble_eq_true rfl) rfl (fun k0 C Z => ?_)
  refine x_aload_n C dX4_agreement_0 rfl ?_
  refine x_get C kf_X4_10 cput_0 rfl dX4_agreement_1 ?_
  refine x_iload_n C dX4_agreement_4 rfl ?_
  refine x_callV C (c_X3_find_none hno) kv_X3_find kl_X4_45 dX4_agreement_5 cput_h0 (cput_is0 rfl) (cput_is0 rfl).symm rfl rfl (Nat.le_of_ble_eq_true rfl) (Nat.le_of_ble_eq_true rfl) (Nat.le_of_ble_eq_true rfl) (Nat.le_of_ble_eq_true rfl) (Nat.le_of_ble_eq_true rfl) ?_
  refine x_astoreN C dX4_agreement_8 (by decide) rfl ?_
  refine x_aload_n C dX4_agreement_10 rfl ?_
  refine x_get C kf_X4_10 cput_0 rfl dX4_agreement_11 ?_
  refine x_iload_n C dX4_agreement_14 rfl ?_
  refine x_callV C (c_X3_find_some hk2 hp2) kv_X3_find kl_X4_45 dX4_agreement_15 cput_h0 (cput_is0 rfl) (cput_is0 rfl).symm rfl rfl (Nat.le_of_ble_eq_true rfl) (Nat.le_of_ble_eq_true rfl) (Nat.le_of_ble_eq_true rfl) (Nat.le_of_ble_eq_true rfl) (Nat.le_of_ble_eq_true rfl) ?_
  refine x_astore C dX4_agreement_18 (by decide) rfl ?_
  refine x_aloadN C dX4_agreement_20 rfl ?_
  refine x_ifnullN C 30 dX4_agreement_22 (by decide) ?_
  refine x_iconst (v := (-1)) C dX4_agreement_30 (by decide) ?_
  exact x_zret C Z dX4_agreement_31 rfl (Nat.le_of_ble_eq_true rfl) (Nat.le_of_ble_eq_true rfl) rfl rfl rfl
set_option maxRecDepth 100000 in
set_option maxHeartbeats 1000000 in
theorem c_X4_agreement_n1n {l : Launch} {E : xEnv} {B N : Nat} {σ : Sg} {VV : Cs} {p z n : Nat} {tx : Fn}{x : Int32} (hno : ¬ ∃ k, k < 8 ∧ x = nI k ∧ VV 0 10 k = 1){y : Int32} (hny : ¬ ∃ k, k < 8 ∧ y = nI k ∧ VV 0 10 k = 1) {w : Int32} : xM l yX4_agreement cX4_agreement 6 (some .int) 4 91 0 0 E B [.ref B, .int x, .int y, .int w] N (cput E σ B VV (nI p) (nI z) (nI n) tx) N (cput E σ B VV (nI p) (nI z) (nI n) tx) (some (.int (-1))) := by
  refine xM_of [some (.ref _), some (.int _), some (.int _), some (.int _), none, none] (by decide +kernel) (Nat.le_of_ble_eq_true rfl) rfl (fun k0 C Z => ?_)
  refine x_aload_n C dX4_agreement_0 rfl ?_
  refine x_get C kf_X4_10 cput_0 rfl dX4_agreement_1 ?_
  refine x_iload_n C dX4_agreement_4 rfl ?_
  refine x_callV C (c_X3_find_none hno) kv_X3_find kl_X4_45 dX4_agreement_5 cput_h0 (cput_is0 rfl) (cput_is0 rfl).symm rfl rfl (Nat.le_of_ble_eq_true rfl) (Nat.le_of_ble_eq_true rfl) (Nat.le_of_ble_eq_true rfl) (Nat.le_of_ble_eq_true rfl) (Nat.le_of_ble_eq_true rfl) ?_
  refine x_astoreN C dX4_agreement_8 (by decide) rfl ?_
  refine x_aload_n C dX4_agreement_10 rfl ?_
  refine x_get C kf_X4_10 cput_0 rfl dX4_agreement_11 ?_
  refine x_iload_n C dX4_agreement_14 rfl ?_
  refine x_callV C (c_X3_find_none hny) kv_X3_find kl_X4_45 dX4_agreement_15 cput_h0 (cput_is0 rfl) (cput_is0 rfl).symm rfl rfl (Nat.le_of_ble_eq_true rfl) (Nat.le_of_ble_eq_true rfl) (Nat.le_of_ble_eq_true rfl) (Nat.le_of_ble_eq_true rfl) (Nat.le_of_ble_eq_true rfl) ?_
  refine x_astoreN C dX4_agreement_18 (by decide) rfl ?_
  refine x_aloadN C dX4_agreement_20 rfl ?_
  refine x_ifnullN C 30 dX4_agreement_22 (by decide) ?_
  refine x_iconst (v := (-1)) C dX4_agreement_30 (by decide) ?_
  exact x_zret C Z dX4_agreement_31 rfl (Nat.le_of_ble_eq_true rfl) (Nat.le_of_ble_eq_true rfl) rfl rfl rfl
set_option maxRecDepth 100000 in
set_option maxHeartbeats 1000000 in
theorem c_X4_agreement_n2 {l : Launch} {E : xEnv} {B N : Nat} {σ : Sg} {VV : Cs} {p z n : Nat} {tx : Fn}{k1 : Nat} (hk1 : k1 < 8) (hp1 : VV 0 10 k1 = 1){y : Int32} (hny : ¬ ∃ k, k < 8 ∧ y = nI k ∧ VV 0 10 k = 1) {w : Int32} : xM l yX4_agreement cX4_agreement 6 (some .int) 4 91 0 0 E B [.ref B, .int (nI k1), .int y, .int w] N (cput E σ B VV (nI p) (nI z) (nI n) tx) N (cput E σ B VV (nI p) (nI z) (nI n) tx) (some (.int (-1))) := by
  refine xM_of [some (.ref _), some (.int _), some (.int _), some (.int _), none, none] (by decide +kernel) (Nat.le_of_ble_eq_true rfl) rfl (fun k0 C Z => ?_)
  refine x_aload_n C dX4_agreement_0 rfl ?_
  refine x_get C kf_X4_10 cput_0 rfl dX4_agreement_1 ?_
  refine x_iload_n C dX4_agreement_4 rfl ?_
  refine x_callV C (c_X3_find_some hk1 hp1) kv_X3_find kl_X4_45 dX4_agreement_5 cput_h0 (cput_is0 rfl) (cput_is0 rfl).symm rfl rfl (Nat.le_of_ble_eq_true rfl) (Nat.le_of_ble_eq_true rfl) (Nat.le_of_ble_eq_true rfl) (Nat.le_of_ble_eq_true rfl) (Nat.le_of_ble_eq_true rfl) ?_
  refine x_astore C dX4_agreement_8 (by decide) rfl ?_
  refine x_aload_n C dX4_agreement_10 rfl ?_
  refine x_get C kf_X4_10 cput_0 rfl dX4_agreement_11 ?_
  refine x_iload_n C dX4_agreement_14 rfl ?_
  refine x_callV C (c_X3_find_none hny) kv_X3_find kl_X4_45 dX4_agreement_15 cput_h0 (cput_is0 rfl) (cput_is0 rfl).symm rfl rfl (Nat.le_of_ble_eq_true rfl) (Nat.le_of_ble_eq_true rfl) (Nat.le_of_ble_eq_true rfl) (Nat.le_of_ble_eq_true rfl) (Nat.le_of_ble_eq_true rfl) ?_
  refine x_astoreN C dX4_agreement_18 (by decide) rfl ?_
  refine x_aload C dX4_agreement_20 rfl ?_
  refine x_ifnull C dX4_agreement_22 ?_
  refine x_aloadN C dX4_agreement_25 rfl ?_
  refine x_ifnnN C dX4_agreement_27 ?_
  refine x_iconst (v := (-1)) C dX4_agreement_30 (by decide) ?_
  exact x_zret C Z dX4_agreement_31 rfl (Nat.le_of_ble_eq_true rfl) (Nat.le_of_ble_eq_true rfl) rfl rfl rfl
set_option maxRecDepth 100000 in
set_option maxHeartbeats 1000000 in
theorem c_X4_understanding_ok {l : Launch} {E : xEnv} {B N : Nat} {σ : Sg} {VV : Cs} {p z n : Nat} {tx : Fn}{k1 : Nat} (hk1 : k1 < 8) (hp1 : VV 0 10 k1 = 1){k2 : Nat} (hk2 : k2 < 8) (hp2 : VV 0 10 k2 = 1) : xM l yX4_understanding cX4_understanding 5 (some .int) 4 91 0 0 E B [.ref B, .int (nI k1), .int (nI k2)] N (cput E σ B VV (nI p) (nI z) (nI n) tx) N (cput E σ B VV (nI p) (nI z) (nI n) tx) (some (.int (nI (unN (VV 0) k1 k2 6)))) := by
  refine xM_of [some (.ref _), some (.int _), some (.int _), none, none] (by decide +kernel) (Nat.le_of_ble_eq_true rfl) rfl (fun k0 C Z => ?_)
  refine x_aload_n C dX4_understanding_0 rfl ?_
  refine x_get C kf_X4_10 cput_0 rfl dX4_understanding_1 ?_
  refine x_iload_n C dX4_understanding_4 rfl ?_
  refine x_callV C (c_X3_find_some hk1 hp1) kv_X3_find kl_X4_45 dX4_understanding_5 cput_h0 (cput_is0 rfl) (cput_is0 rfl).symm rfl rfl (Nat.le_of_ble_eq_true rfl) (Nat.le_of_ble_eq_true rfl) (Nat.le_of_ble_eq_true rfl) (Nat.le_of_ble_eq_true rfl) (Nat.le_of_ble_eq_true rfl) ?_
  refine x_astore_n C dX4_understanding_8 (by decide) rfl ?_
  refine x_aload_n C dX4_understanding_9 rfl ?_
  refine x_get C kf_X4_10 cput_0 rfl dX4_understanding_10 ?_
  refine x_iload_n C dX4_understanding_13 rfl ?_
  refine x_callV C (c_X3_find_some hk2 hp2) kv_X3_find kl_X4_45 dX4_understanding_14 cput_h0 (cput_is0 rfl) (cput_is0 rfl).symm rfl rfl (Nat.le_of_ble_eq_true rfl) (Nat.le_of_ble_eq_true rfl) (Nat.le_of_ble_eq_true rfl) (Nat.le_of_ble_eq_true rfl) (Nat.le_of_ble_eq_true rfl) ?_
  refine x_astore C dX4_understanding_17 (by decide) rfl ?_
  refine x_aload_n C dX4_understanding_19 rfl ?_
  refine x_ifnull C dX4_understanding_20 ?_
  refine x_aload C dX4_understanding_23 rfl ?_
  refine x_ifnn C 30 dX4_understanding_25 (by decide) ?_
  refine x_aload_n C dX4_understanding_30 rfl ?_
  refine x_aload C dX4_understanding_31 rfl ?_
  refine x_callS C (c_X4_understandingOf hk1 hk2) ks_X4_understandingOf kl_X4_137 dX4_understanding_33 (cput_is0 rfl) (cput_is0 rfl).symm rfl rfl (Nat.le_of_ble_eq_true rfl) (Nat.le_of_ble_eq_true rfl) (Nat.le_of_ble_eq_true rfl) (Nat.le_of_ble_eq_true rfl) (Nat.le_of_ble_eq_true rfl) ?_
  exact x_zret C Z dX4_understanding_36 rfl (Nat.le_of_ble_eq_true rfl) (Nat.le_of_ble_eq_true rfl) rfl rfl rfl
set_option maxRecDepth 100000 in
set_option maxHeartbeats 1000000 in
theorem c_X4_understanding_n1s {l : Launch} {E : xEnv} {B N : Nat} {σ : Sg} {VV : Cs} {p z n : Nat} {tx : Fn}{x : Int32} (hno : ¬ ∃ k, k < 8 ∧ x = nI k ∧ VV 0 10 k = 1){k2 : Nat} (hk2 : k2 < 8) (hp2 : VV 0 10 k2 = 1) : xM l yX4_understanding cX4_understanding 5 (some .int) 4 91 0 0 E B [.ref B, .int x, .int (nI k2)] N (cput E σ B VV (nI p) (nI z) (nI n) tx) N (cput E σ B VV (nI p) (nI z) (nI n) tx) (some (.int (-1))) := by
  refine xM_of [some (.ref _), some (.int _), some (.int _), none, none] (by decide +kernel) (Nat.le_of_ble_eq_true rfl) rfl (fun k0 C Z => ?_)
  refine x_aload_n C dX4_understanding_0 rfl ?_
  refine x_get C kf_X4_10 cput_0 rfl dX4_understanding_1 ?_
  refine x_iload_n C dX4_understanding_4 rfl ?_
  refine x_callV C (c_X3_find_none hno) kv_X3_find kl_X4_45 dX4_understanding_5 cput_h0 (cput_is0 rfl) (cput_is0 rfl).symm rfl rfl (Nat.le_of_ble_eq_true rfl) (Nat.le_of_ble_eq_true rfl) (Nat.le_of_ble_eq_true rfl) (Nat.le_of_ble_eq_true rfl) (Nat.le_of_ble_eq_true rfl) ?_
  refine x_astore_nN C dX4_understanding_8 (by decide) rfl ?_
  refine x_aload_n C dX4_understanding_9 rfl ?_
  refine x_get C kf_X4_10 cput_0 rfl dX4_understanding_10 ?_
  refine x_iload_n C dX4_understanding_13 rfl ?_
  refine x_callV C (c_X3_find_some hk2 hp2) kv_X3_find kl_X4_45 dX4_understanding_14 cput_h0 (cput_is0 rfl) (cput_is0 rfl).symm rfl rfl (Nat.le_of_ble_eq_true rfl) (Nat.le_of_ble_eq_true rfl) (Nat.le_of_ble_eq_true rfl) (Nat.le_of_ble_eq_true rfl) (Nat.le_of_ble_eq_true rfl) ?_
  refine x_astore C dX4_understanding_17 (by decide) rfl ?_
  refine x_aload_nN C dX4_understanding_19 rfl ?_
  refine x_ifnullN C 28 dX4_understanding_20 (by decide) ?_
  refine x_iconst (v := (-1)) C dX4_understanding_28 (by decide) ?_
  exact x_zret C Z dX4_understanding_29 rfl (Nat.le_of_ble_eq_true rfl) (Nat.le_of_ble_eq_true rfl) rfl rfl rfl
set_option maxRecDepth 100000 in
set_option maxHeartbeats 1000000 in
theorem c_X4_understanding_n1n {l : Launch} {E : xEnv} {B N : Nat} {σ : Sg} {VV : Cs} {p z n : Nat} {tx : Fn}{x : Int32} (hno : ¬ ∃ k, k < 8 ∧ x = nI k ∧ VV 0 10 k = 1){y : Int32} (hny : ¬ ∃ k, k < 8 ∧ y = nI k ∧ VV 0 10 k = 1) : xM l yX4_understanding cX4_understanding 5 (some .int) 4 91 0 0 E B [.ref B, .int x, .int y] N (cput E σ B VV (nI p) (nI z) (nI n) tx) N (cput E σ B VV (nI p) (nI z) (nI n) tx) (some (.int (-1))) := by
  refine xM_of [some (.ref _), some (.int _), some (.int _), none, none] (by decide +kernel) (Nat.le_of_ble_eq_true rfl) rfl (fun k0 C Z => ?_)
  refine x_aload_n C dX4_understanding_0 rfl ?_
  refine x_get C kf_X4_10 cput_0 rfl dX4_understanding_1 ?_
  refine x_iload_n C dX4_understanding_4 rfl ?_
  refine x_callV C (c_X3_find_none hno) kv_X3_find kl_X4_45 dX4_understanding_5 cput_h0 (cput_is0 rfl) (cput_is0 rfl).symm rfl rfl (Nat.le_of_ble_eq_true rfl) (Nat.le_of_ble_eq_true rfl) (Nat.le_of_ble_eq_true rfl) (Nat.le_of_ble_eq_true rfl) (Nat.le_of_ble_eq_true rfl) ?_
  refine x_astore_nN C dX4_understanding_8 (by decide) rfl ?_
  refine x_aload_n C dX4_understanding_9 rfl ?_
  refine x_get C kf_X4_10 cput_0 rfl dX4_understanding_10 ?_
  refine x_iload_n C dX4_understanding_13 rfl ?_
  refine x_callV C (c_X3_find_none hny) kv_X3_find kl_X4_45 dX4_understanding_14 cput_h0 (cput_is0 rfl) (cput_is0 rfl).symm rfl rfl (Nat.le_of_ble_eq_true rfl) (Nat.le_of_ble_eq_true rfl) (Nat.le_of_ble_eq_true rfl) (Nat.le_of_ble_eq_true rfl) (Nat.le_of_ble_eq_true rfl) ?_
  refine x_astoreN C dX4_understanding_17 (by decide) rfl ?_
  refine x_aload_nN C dX4_understanding_19 rfl ?_
  refine x_ifnullN C 28 dX4_understanding_20 (by decide) ?_
  refine x_iconst (v := (-1)) C dX4_understanding_28 (by decide) ?_
  exact x_zret C Z dX4_understanding_29 rfl (Nat.le_of_ble_eq_true rfl) (Nat.le_of_ble_eq_true rfl) rfl rfl rfl
set_option maxRecDepth 100000 in
set_option maxHeartbeats 1000000 in
theorem c_X4_understanding_n2 {l : Launch} {E : xEnv} {B N : Nat} {σ : Sg} {VV : Cs} {p z n : Nat} {tx : Fn}{k1 : Nat} (hk1 : k1 < 8) (hp1 : VV 0 10 k1 = 1){y : Int32} (hny : ¬ ∃ k, k < 8 ∧ y = nI k ∧ VV 0 10 k = 1) : xM l yX4_understanding cX4_understanding 5 (some .int) 4 91 0 0 E B [.ref B, .int (nI k1), .int y] N (cput E σ B VV (nI p) (nI z) (nI n) tx) N (cput E σ B VV (nI p) (nI z) (nI n) tx) (some (.int (-1))) := by
  refine xM_of [some (.ref _), some (.int _), some (.int _), none, none] (by decide +kernel) (Nat.le_of_ble_eq_true rfl) rfl (fun k0 C Z => ?_)
  refine x_aload_n C dX4_understanding_0 rfl ?_
  refine x_get C kf_X4_10 cput_0 rfl dX4_understanding_1 ?_
  refine x_iload_n C dX4_understanding_4 rfl ?_
  refine x_callV C (c_X3_find_some hk1 hp1) kv_X3_find kl_X4_45 dX4_understanding_5 cput_h0 (cput_is0 rfl) (cput_is0 rfl).symm rfl rfl (Nat.le_of_ble_eq_true rfl) (Nat.le_of_ble_eq_true rfl) (Nat.le_of_ble_eq_true rfl) (Nat.le_of_ble_eq_true rfl) (Nat.le_of_ble_eq_true rfl) ?_
  refine x_astore_n C dX4_understanding_8 (by decide) rfl ?_
  refine x_aload_n C dX4_understanding_9 rfl ?_
  refine x_get C kf_X4_10 cput_0 rfl dX4_understanding_10 ?_
  refine x_iload_n C dX4_understanding_13 rfl ?_
  refine x_callV C (c_X3_find_none hny) kv_X3_find kl_X4_45 dX4_understanding_14 cput_h0 (cput_is0 rfl) (cput_is0 rfl).symm rfl rfl (Nat.le_of_ble_eq_true rfl) (Nat.le_of_ble_eq_true rfl) (Nat.le_of_ble_eq_true rfl) (Nat.le_of_ble_eq_true rfl) (Nat.le_of_ble_eq_true rfl) ?_
  refine x_astoreN C dX4_understanding_17 (by decide) rfl ?_
  refine x_aload_n C dX4_understanding_19 rfl ?_
  refine x_ifnull C dX4_understanding_20 ?_
  refine x_aloadN C dX4_understanding_23 rfl ?_
  refine x_ifnnN C dX4_understanding_25 ?_
  refine x_iconst (v := (-1)) C dX4_understanding_28 (by decide) ?_
  exact x_zret C Z dX4_understanding_29 rfl (Nat.le_of_ble_eq_true rfl) (Nat.le_of_ble_eq_true rfl) rfl rfl rfl
set_option maxRecDepth 100000 in
set_option maxHeartbeats 1000000 in
theorem c_X4_common_ok {l : Launch} {E : xEnv} {B N : Nat} {σ : Sg} {VV : Cs} {p z n : Nat} {tx : Fn} {m : Nat} (hm : m < 6) : xM l yX4_common cX4_common 2 (some .int) 5 114 0 0 E B [.ref B, .int (nI m)] N (cput E σ B VV (nI p) (nI z) (nI n) tx) N (cput E σ B (upV VV 0 (usR (VV 0) m 8)) (nI p) (nI z) (nI n) tx) (some (.int (oI (cmS (VV 0) m)))) := by
  refine xM_of [some (.ref _), some (.int _)] (by decide +kernel) (Nat.le_of_ble_eq_true rfl) rfl (fun k0 C Z => ?_)
  refine x_iload_n C dX4_common_0 rfl ?_
  refine x_callS C (c_X4_isMeaning _) ks_X4_isMeaning kl_X4_80 dX4_common_1 rfl rfl rfl rfl (Nat.le_of_ble_eq_true rfl) (Nat.le_of_ble_eq_true rfl) (Nat.le_of_ble_eq_true rfl) (Nat.le_of_ble_eq_true rfl) (Nat.le_of_ble_eq_true rfl) ?_
  refine x_beq C 18 dX4_common_4 (by decide) (fun h => absurd (bd_in (c := 6) hm (by decide)) h) (fun _ => ?_)
  refine x_aload_n C dX4_common_7 rfl ?_
  refine x_get C kf_X4_10 cput_0 rfl dX4_common_8 ?_
  refine x_iload_n C dX4_common_11 rfl ?_
  refine x_callV C (c_X3_commonWord hm) kv_X3_commonWord kl_X4_140 dX4_common_12 cput_h0 (cput_is0 rfl) cput_w0 rfl rfl (Nat.le_of_ble_eq_true rfl) (Nat.le_of_ble_eq_true rfl) (Nat.le_of_ble_eq_true rfl) (Nat.le_of_ble_eq_true rfl) (Nat.le_of_ble_eq_true rfl) ?_
  refine x_goto C 19 dX4_common_15 (by decide) ?_
  exact x_zret C Z dX4_common_19 rfl (Nat.le_of_ble_eq_true rfl) (Nat.le_of_ble_eq_true rfl) rfl rfl rfl
set_option maxRecDepth 100000 in
set_option maxHeartbeats 1000000 in
theorem c_X4_common_no {l : Launch} {E : xEnv} {B N : Nat} {σ : Sg} {VV : Cs} {p z n : Nat} {tx : Fn} {x : Int32} (hb : ¬ (0 ≤ x ∧ x < 6)) : xM l yX4_common cX4_common 2 (some .int) 5 114 0 0 E B [.ref B, .int x] N (cput E σ B VV (nI p) (nI z) (nI n) tx) N (cput E σ B VV (nI p) (nI z) (nI n) tx) (some (.int (-1))) := by
  refine xM_of [some (.ref _), some (.int _)] (by decide +kernel) (Nat.le_of_ble_eq_true rfl) rfl (fun k0 C Z => ?_)
  refine x_iload_n C dX4_common_0 rfl ?_
  refine x_callS C (c_X4_isMeaning _) ks_X4_isMeaning kl_X4_80 dX4_common_1 rfl rfl rfl rfl (Nat.le_of_ble_eq_true rfl) (Nat.le_of_ble_eq_true rfl) (Nat.le_of_ble_eq_true rfl) (Nat.le_of_ble_eq_true rfl) (Nat.le_of_ble_eq_true rfl) ?_
  refine x_beq C 18 dX4_common_4 (by decide) (fun _ => ?_) (fun h => absurd h hb)
  refine x_iconst (v := (-1)) C dX4_common_18 (by decide) ?_
  exact x_zret C Z dX4_common_19 rfl (Nat.le_of_ble_eq_true rfl) (Nat.le_of_ble_eq_true rfl) rfl rfl rfl
