set_option maxRecDepth 100000 in
set_option maxHeartbeats 1000000 in
theorem c_X1_keep {l : Launch} {E : xEnv} {B N : Nat} {σ : Sg} {VV : Cs} {p z : Nat} {len : Int32} {tx : Fn} (hp : p < 6) (hz : z ≤ 6) : xM l yX1_keep cX1_keep 2 none 3 75 0 0 E B [.ref (B + 41), .ref (B + 1)] N (cput E σ B VV (nI p) (nI z) len tx) N (cput E σ B (kpV VV p) (nI ((p + 1) % 6)) (nI (min 6 (z + 1))) len tx) none := by
  refine xM_of [some (.ref _), some (.ref _)] (by decide +kernel) (Nat.le_of_ble_eq_true rfl) rfl (fun k0 C Z => ?_)
  refine x_aload_n C dX1_keep_0 rfl ?_
  refine x_get C kf_X1_18 cput_41 rfl dX1_keep_1 ?_
  refine x_bipush (v := 6) C dX1_keep_4 (by decide) ?_
  refine x_callS C (c_X4_isBelow _ _) ks_X4_isBelow kl_X1_22 dX1_keep_6 rfl rfl rfl rfl (Nat.le_of_ble_eq_true rfl) (Nat.le_of_ble_eq_true rfl) (Nat.le_of_ble_eq_true rfl) (Nat.le_of_ble_eq_true rfl) (Nat.le_of_ble_eq_true rfl) ?_
  refine x_bne C 13 dX1_keep_9 (by decide) (fun _ => ?_) (fun h => absurd (bd_in (c := 6) hp (by decide)) h)
  refine x_aload_n C dX1_keep_13 rfl ?_
  refine x_get C kf_X1_11 cput_41 rfl dX1_keep_14 ?_
  refine x_aload_n C dX1_keep_17 rfl ?_
  refine x_get C kf_X1_18 cput_41 rfl dX1_keep_18 ?_
  refine x_aald2 (t0 := 3) C cput_42 rfl rfl hp (by decide) dX1_keep_21 ?_
  refine x_aload_n C dX1_keep_22 rfl ?_
  refine x_callV C (c_X3_copyFrom (V := VV (2 + p)) (W := VV 0) (by omega)) kv_X3_copyFrom kl_X1_26 dX1_keep_23 (cput_hv hp) (cput_k1 hp) (cput_k2 hp) rfl rfl (Nat.le_of_ble_eq_true rfl) (Nat.le_of_ble_eq_true rfl) (Nat.le_of_ble_eq_true rfl) (Nat.le_of_ble_eq_true rfl) (Nat.le_of_ble_eq_true rfl) ?_
  refine x_aload_n C dX1_keep_26 rfl ?_
  refine x_aload_n C dX1_keep_27 rfl ?_
  refine x_get C kf_X1_18 cput_41 rfl dX1_keep_28 ?_
  refine x_iconst (v := 1) C dX1_keep_31 (by decide) ?_
  refine x_iadd C dX1_keep_32 ?_
  refine x_bipush (v := 6) C dX1_keep_33 (by decide) ?_
  refine x_irem C dX1_keep_35 (by decide) ?_
  refine x_put (ty := .int) C kf_X1_18 cput_41 rfl (by decide +kernel) rfl rfl (Nat.le_of_ble_eq_true rfl) cput_s dX1_keep_36 ?_
  refine xX.sg (congrArg (fun q => cput E σ B _ q (nI z) len tx) (mod6 hp)) ?_
  refine x_aload_n C dX1_keep_39 rfl ?_
  refine x_bipush (v := 6) C dX1_keep_40 (by decide) ?_
  refine x_aload_n C dX1_keep_42 rfl ?_
  refine x_get C kf_X1_30 cput_41 rfl dX1_keep_43 ?_
  refine x_iconst (v := 1) C dX1_keep_46 (by decide) ?_
  refine x_iadd C dX1_keep_47 ?_
  refine x_mmin C kl_X1_33 kz_smin ki_math kz_cmin (Nat.le_of_ble_eq_true rfl) (Nat.le_of_ble_eq_true rfl) (Nat.le_of_ble_eq_true rfl) (Nat.le_of_ble_eq_true rfl) dX1_keep_48 ?_
  refine x_put (ty := .int) C kf_X1_30 cput_41 rfl (by decide +kernel) rfl rfl (Nat.le_of_ble_eq_true rfl) cput_s dX1_keep_51 ?_
  exact x_vret C Z dX1_keep_54 (Nat.le_of_ble_eq_true rfl) (Nat.le_of_ble_eq_true rfl) rfl (congrArg (fun q => cput E σ B _ _ q len tx) (min6 hz))
set_option maxRecDepth 100000 in
set_option maxHeartbeats 1000000 in
theorem c_X1_restore_0 {l : Launch} {E : xEnv} {B N : Nat} {σ : Sg} {VV : Cs} {p z : Nat} {len : Int32} {tx : Fn} (hp : p < 6) : xM l yX1_restore cX1_restore 3 (some .boolean) 3 75 0 0 E B [.ref (B + 41), .ref (B + 1)] N (cput E σ B VV (nI p) (nI 0) len tx) N (cput E σ B VV (nI p) (nI 0) len tx) (some (.int 0)) := by
  refine xM_of [some (.ref _), some (.ref _), none] (by decide +kernel) (Nat.le_of_ble_eq_true rfl) rfl (fun k0 C Z => ?_)
  refine x_aload_n C dX1_restore_0 rfl ?_
  refine x_get C kf_X1_18 cput_41 rfl dX1_restore_1 ?_
  refine x_bipush (v := 6) C dX1_restore_4 (by decide) ?_
  refine x_iadd C dX1_restore_6 ?_
  refine x_iconst (v := 1) C dX1_restore_7 (by decide) ?_
  refine x_isub C dX1_restore_8 ?_
  refine x_bipush (v := 6) C dX1_restore_9 (by decide) ?_
  refine x_irem C dX1_restore_11 (by decide) ?_
  rw [mod5 hp]
  refine x_istore_n C dX1_restore_12 (by decide) rfl ?_
  refine x_aload_n C dX1_restore_13 rfl ?_
  refine x_get C kf_X1_30 cput_41 rfl dX1_restore_14 ?_
  refine x_iconst (v := 1) C dX1_restore_17 (by decide) ?_
  refine x_ic_lt C 30 dX1_restore_18 (by decide) (fun _ => ?_) (fun h => absurd (nI_lt (a := 0) (b := 1) (by omega) (by omega)) h)
  refine x_iconst (v := 0) C dX1_restore_30 (by decide) ?_
  exact x_zret C Z dX1_restore_31 rfl (Nat.le_of_ble_eq_true rfl) (Nat.le_of_ble_eq_true rfl) rfl rfl rfl
set_option maxRecDepth 100000 in
set_option maxHeartbeats 1000000 in
theorem c_X1_restore_s {l : Launch} {E : xEnv} {B N : Nat} {σ : Sg} {VV : Cs} {p z : Nat} {len : Int32} {tx : Fn} (hp : p < 6) (hz : z + 1 < 2 ^ 31) : xM l yX1_restore cX1_restore 3 (some .boolean) 3 75 0 0 E B [.ref (B + 41), .ref (B + 1)] N (cput E σ B VV (nI p) (nI (z + 1)) len tx) N (cput E σ B (upV VV 0 (cpV (VV 0) (VV (2 + ((p + 5) % 6))))) (nI ((p + 5) % 6)) (nI z) len tx) (some (.int 1)) := by
  refine xM_of [some (.ref _), some (.ref _), none] (by decide +kernel) (Nat.le_of_ble_eq_true rfl) rfl (fun k0 C Z => ?_)
  refine x_aload_n C dX1_restore_0 rfl ?_
  refine x_get C kf_X1_18 cput_41 rfl dX1_restore_1 ?_
  refine x_bipush (v := 6) C dX1_restore_4 (by decide) ?_
  refine x_iadd C dX1_restore_6 ?_
  refine x_iconst (v := 1) C dX1_restore_7 (by decide) ?_
  refine x_isub C dX1_restore_8 ?_
  refine x_bipush (v := 6) C dX1_restore_9 (by decide) ?_
  refine x_irem C dX1_restore_11 (by decide) ?_
  rw [mod5 hp]
  refine x_istore_n C dX1_restore_12 (by decide) rfl ?_
  refine x_aload_n C dX1_restore_13 rfl ?_
  refine x_get C kf_X1_30 cput_41 rfl dX1_restore_14 ?_
  refine x_iconst (v := 1) C dX1_restore_17 (by decide) ?_
  refine x_ic_lt C 30 dX1_restore_18 (by decide) (fun h => absurd h (nI_nlt (b := 1) (by omega) hz)) (fun _ => ?_)
  refine x_iload_n C dX1_restore_21 rfl ?_
  refine x_bipush (v := 6) C dX1_restore_22 (by decide) ?_
  refine x_callS C (c_X4_isBelow _ _) ks_X4_isBelow kl_X1_22 dX1_restore_24 rfl rfl rfl rfl (Nat.le_of_ble_eq_true rfl) (Nat.le_of_ble_eq_true rfl) (Nat.le_of_ble_eq_true rfl) (Nat.le_of_ble_eq_true rfl) (Nat.le_of_ble_eq_true rfl) ?_
  refine x_bne C 32 dX1_restore_27 (by decide) (fun _ => ?_) (fun h => absurd (bd_in (c := 6) (Nat.mod_lt _ (by decide)) (by decide)) h)
  refine x_aload_n C dX1_restore_32 rfl ?_
  refine x_aload_n C dX1_restore_33 rfl ?_
  refine x_get C kf_X1_11 cput_41 rfl dX1_restore_34 ?_
  refine x_iload_n C dX1_restore_37 rfl ?_
  refine x_aald2 (t0 := 3) C cput_42 rfl rfl (Nat.mod_lt _ (by decide)) (by decide) dX1_restore_38 ?_
  refine x_callV C (c_X3_copyFrom (V := VV 0) (W := VV (2 + ((p + 5) % 6))) (by omega)) kv_X3_copyFrom kl_X1_26 dX1_restore_39 cput_h0 (cput_r1 (Nat.mod_lt _ (by decide))) (cput_r2 (Nat.mod_lt _ (by decide))) rfl rfl (Nat.le_of_ble_eq_true rfl) (Nat.le_of_ble_eq_true rfl) (Nat.le_of_ble_eq_true rfl) (Nat.le_of_ble_eq_true rfl) (Nat.le_of_ble_eq_true rfl) ?_
  refine x_aload_n C dX1_restore_42 rfl ?_
  refine x_iload_n C dX1_restore_43 rfl ?_
  refine x_put (ty := .int) C kf_X1_18 cput_41 rfl (by decide +kernel) rfl rfl (Nat.le_of_ble_eq_true rfl) cput_s dX1_restore_44 ?_
  refine x_aload_n C dX1_restore_47 rfl ?_
  refine x_dup C dX1_restore_48 rfl ?_
  refine x_get C kf_X1_30 cput_41 rfl dX1_restore_49 ?_
  refine x_iconst (v := 1) C dX1_restore_52 (by decide) ?_
  refine x_isub C dX1_restore_53 ?_
  refine x_put (ty := .int) C kf_X1_30 cput_41 rfl (by decide +kernel) rfl rfl (Nat.le_of_ble_eq_true rfl) cput_s dX1_restore_54 ?_
  refine xX.sg (congrArg (fun q => cput E σ B _ _ q len tx) (nI_pred z)) ?_
  refine x_iconst (v := 1) C dX1_restore_57 (by decide) ?_
  exact x_zret C Z dX1_restore_58 rfl (Nat.le_of_ble_eq_true rfl) (Nat.le_of_ble_eq_true rfl) rfl rfl rfl
set_option maxRecDepth 100000 in
set_option maxHeartbeats 1000000 in
theorem c_X0_append_ok {l : Launch} {E : xEnv} {B N : Nat} {σ : Sg} {h n : Nat} {tx : Fn} {c : Nat} (hn : n < 80) (hc : c < 65536) : xM l yX0_append cX0_append 2 (some .boolean) 1 21 0 0 E B [.ref h, .int (nI c)] N (tput E σ h (nI n) tx) N (tput E σ h (nI (n + 1)) (upd tx n (nI c))) (some (.int 1)) := by
  refine xM_of [some (.ref _), some (.int _)] (by decide +kernel) (Nat.le_of_ble_eq_true rfl) rfl (fun k0 C Z => ?_)
  refine x_aload_n C dX0_append_0 rfl ?_
  refine x_get C kf_X0_15 tput_0 rfl dX0_append_1 ?_
  refine x_bipush (v := 80) C dX0_append_4 (by decide) ?_
  refine x_callS C (c_X4_isBelow _ _) ks_X4_isBelow kl_X0_19 dX0_append_6 rfl rfl rfl rfl (Nat.le_of_ble_eq_true rfl) (Nat.le_of_ble_eq_true rfl) (Nat.le_of_ble_eq_true rfl) (Nat.le_of_ble_eq_true rfl) (Nat.le_of_ble_eq_true rfl) ?_
  refine x_bne C 14 dX0_append_9 (by decide) (fun _ => ?_) (fun h => absurd (bd_in (c := 80) hn (by decide)) h)
  refine x_aload_n C dX0_append_14 rfl ?_
  refine x_get C kf_X0_9 tput_0 rfl dX0_append_15 ?_
  refine x_aload_n C dX0_append_18 rfl ?_
  refine x_get C kf_X0_15 tput_0 rfl dX0_append_19 ?_
  refine x_iload_n C dX0_append_22 rfl ?_
  refine x_cast2 C tput_1 rfl hn (by decide) (fun j _ => by rw [char_n hc]) (tput_c _) dX0_append_23 ?_
  refine x_aload_n C dX0_append_24 rfl ?_
  refine x_dup C dX0_append_25 rfl ?_
  refine x_get C kf_X0_15 tput_0 rfl dX0_append_26 ?_
  refine x_iconst (v := 1) C dX0_append_29 (by decide) ?_
  refine x_iadd C dX0_append_30 ?_
  refine x_put (ty := .int) C kf_X0_15 tput_0 rfl (by decide +kernel) rfl rfl (Nat.le_of_ble_eq_true rfl) (tput_l _) dX0_append_31 ?_
  refine x_iconst (v := 1) C dX0_append_34 (by decide) ?_
  exact x_zret C Z dX0_append_35 rfl (Nat.le_of_ble_eq_true rfl) (Nat.le_of_ble_eq_true rfl) rfl (congrArg (fun q => tput E σ h q _) (nI_1 n)) rfl
set_option maxRecDepth 100000 in
set_option maxHeartbeats 1000000 in
theorem c_X0_append_full {l : Launch} {E : xEnv} {B N : Nat} {σ : Sg} {h n : Nat} {tx : Fn} {x : Int32} (hn : 80 ≤ n) (hn2 : n < 2 ^ 31) : xM l yX0_append cX0_append 2 (some .boolean) 1 21 0 0 E B [.ref h, .int x] N (tput E σ h (nI n) tx) N (tput E σ h (nI n) tx) (some (.int 0)) := by
  refine xM_of [some (.ref _), some (.int _)] (by decide +kernel) (Nat.le_of_ble_eq_true rfl) rfl (fun k0 C Z => ?_)
  refine x_aload_n C dX0_append_0 rfl ?_
  refine x_get C kf_X0_15 tput_0 rfl dX0_append_1 ?_
  refine x_bipush (v := 80) C dX0_append_4 (by decide) ?_
  refine x_callS C (c_X4_isBelow _ _) ks_X4_isBelow kl_X0_19 dX0_append_6 rfl rfl rfl rfl (Nat.le_of_ble_eq_true rfl) (Nat.le_of_ble_eq_true rfl) (Nat.le_of_ble_eq_true rfl) (Nat.le_of_ble_eq_true rfl) (Nat.le_of_ble_eq_true rfl) ?_
  refine x_bne C 14 dX0_append_9 (by decide) (fun h => absurd h (fun z => nI_nlt (a := n) (b := 80) hn hn2 z.2)) (fun _ => ?_)
  refine x_iconst (v := 0) C dX0_append_12 (by decide) ?_
  exact x_zret C Z dX0_append_13 rfl (Nat.le_of_ble_eq_true rfl) (Nat.le_of_ble_eq_true rfl) rfl rfl rfl
set_option maxRecDepth 100000 in
set_option maxHeartbeats 1000000 in
theorem c_X0_signAt {l : Launch} {E : xEnv} {B N : Nat} {σ : Sg} {h n : Nat} {tx : Fn} {j : Nat} (hj : j < 2 ^ 31) (hn : n ≤ 80) : xM l yX0_signAt cX0_signAt 2 (some .int) 1 21 0 0 E B [.ref h, .int (nI j)] N (tput E σ h (nI n) tx) N (tput E σ h (nI n) tx) (some (.int (sgS n tx j))) := by
  refine xM_of [some (.ref _), some (.int _)] (by decide +kernel) (Nat.le_of_ble_eq_true rfl) rfl (fun k0 C Z => ?_)
  refine x_iload_n C dX0_signAt_0 rfl ?_
  refine x_aload_n C dX0_signAt_1 rfl ?_
  refine x_get C kf_X0_15 tput_0 rfl dX0_signAt_2 ?_
  refine x_callS C (c_X4_isBelow _ _) ks_X4_isBelow kl_X0_19 dX0_signAt_5 rfl rfl rfl rfl (Nat.le_of_ble_eq_true rfl) (Nat.le_of_ble_eq_true rfl) (Nat.le_of_ble_eq_true rfl) (Nat.le_of_ble_eq_true rfl) (Nat.le_of_ble_eq_true rfl) ?_
  refine x_beq C 29 dX0_signAt_8 (by decide) (fun h8 => ?_) (fun h8 => ?_)
  · refine x_iconst (v := 0) C dX0_signAt_29 (by decide) ?_
    exact x_zret C Z dX0_signAt_30 rfl (Nat.le_of_ble_eq_true rfl) (Nat.le_of_ble_eq_true rfl) rfl rfl (if_neg (fun z => h8 (bd_in z (by omega)))).symm
  · have h8b := (nI_ltI hj (by omega)).mp h8.2
    refine x_iload_n C dX0_signAt_11 rfl ?_
    refine x_bipush (v := 80) C dX0_signAt_12 (by decide) ?_
    refine x_callS C (c_X4_isBelow _ _) ks_X4_isBelow kl_X0_19 dX0_signAt_14 rfl rfl rfl rfl (Nat.le_of_ble_eq_true rfl) (Nat.le_of_ble_eq_true rfl) (Nat.le_of_ble_eq_true rfl) (Nat.le_of_ble_eq_true rfl) (Nat.le_of_ble_eq_true rfl) ?_
    refine x_beq C 29 dX0_signAt_17 (by decide) (fun h => absurd (bd_in (c := 80) (show j < 80 by omega) (by decide)) h) (fun _ => ?_)
    refine x_aload_n C dX0_signAt_20 rfl ?_
    refine x_get C kf_X0_9 tput_0 rfl dX0_signAt_21 ?_
    refine x_iload_n C dX0_signAt_24 rfl ?_
    refine x_cald2 C tput_1 rfl (by omega) (by decide) dX0_signAt_25 ?_
    refine x_goto C 30 dX0_signAt_26 (by decide) ?_
    exact x_zret C Z dX0_signAt_30 rfl (Nat.le_of_ble_eq_true rfl) (Nat.le_of_ble_eq_true rfl) rfl rfl (if_pos h8b).symm
set_option maxRecDepth 100000 in
set_option maxHeartbeats 1000000 in
theorem c_X0_digitAt {l : Launch} {E : xEnv} {B N : Nat} {σ : Sg} {h n : Nat} {tx : Fn} {j : Nat} (hj : j < 2 ^ 31) (hn : n ≤ 80) : xM l yX0_digitAt cX0_digitAt 2 (some .int) 2 42 0 0 E B [.ref h, .int (nI j)] N (tput E σ h (nI n) tx) N (tput E σ h (nI n) tx) (some (.int (sgS n tx j - 48))) := by
  refine xM_of [some (.ref _), some (.int _)] (by decide +kernel) (Nat.le_of_ble_eq_true rfl) rfl (fun k0 C Z => ?_)
  refine x_aload_n C dX0_digitAt_0 rfl ?_
  refine x_iload_n C dX0_digitAt_1 rfl ?_
  refine x_callV C (c_X0_signAt hj hn) kv_X0_signAt kl_X0_23 dX0_digitAt_2 tput_0 rfl rfl rfl rfl (Nat.le_of_ble_eq_true rfl) (Nat.le_of_ble_eq_true rfl) (Nat.le_of_ble_eq_true rfl) (Nat.le_of_ble_eq_true rfl) (Nat.le_of_ble_eq_true rfl) ?_
  refine x_bipush (v := 48) C dX0_digitAt_5 (by decide) ?_
  refine x_isub C dX0_digitAt_7 ?_
  exact x_zret C Z dX0_digitAt_8 rfl (Nat.le_of_ble_eq_true rfl) (Nat.le_of_ble_eq_true rfl) rfl rfl rfl
set_option maxRecDepth 100000 in
set_option maxHeartbeats 1000000 in
theorem c_X0_afterStar {l : Launch} {E : xEnv} {B N : Nat} {σ : Sg} (s : Int32) : xM l yX0_afterStar cX0_afterStar 1 (some .int) 0 0 0 0 E B [.int s] N σ N σ (some (.int (nI (astS s)))) := by
  refine xM_of [some (.int _)] (by decide +kernel) (Nat.le_of_ble_eq_true rfl) rfl (fun k0 C Z => ?_)
  refine x_iload_n C dX0_afterStar_0 rfl ?_
  refine x_bipush (v := 42) C dX0_afterStar_1 (by decide) ?_
  refine x_ic_ne C 11 dX0_afterStar_3 (by decide) (fun h3 => ?_) (fun h3 => ?_)
  · refine x_bipush (v := 11) C dX0_afterStar_11 (by decide) ?_
    exact x_zret C Z dX0_afterStar_13 rfl (Nat.le_of_ble_eq_true rfl) (Nat.le_of_ble_eq_true rfl) rfl rfl (congrArg nI (if_neg h3)).symm
  · refine x_bipush (v := 8) C dX0_afterStar_6 (by decide) ?_
    refine x_goto C 13 dX0_afterStar_8 (by decide) ?_
    exact x_zret C Z dX0_afterStar_13 rfl (Nat.le_of_ble_eq_true rfl) (Nat.le_of_ble_eq_true rfl) rfl rfl (congrArg nI (if_pos h3)).symm
set_option maxRecDepth 100000 in
set_option maxHeartbeats 1000000 in
theorem c_X0_afterEnd {l : Launch} {E : xEnv} {B N : Nat} {σ : Sg} (s : Int32) : xM l yX0_afterEnd cX0_afterEnd 1 (some .int) 0 0 0 0 E B [.int s] N σ N σ (some (.int (nI (aenS s)))) := by
  refine xM_of [some (.int _)] (by decide +kernel) (Nat.le_of_ble_eq_true rfl) rfl (fun k0 C Z => ?_)
  refine x_iload_n C dX0_afterEnd_0 rfl ?_
  refine x_bipush (v := 59) C dX0_afterEnd_1 (by decide) ?_
  refine x_ic_ne C 10 dX0_afterEnd_3 (by decide) (fun h3 => ?_) (fun h3 => ?_)
  · refine x_bipush (v := 11) C dX0_afterEnd_10 (by decide) ?_
    exact x_zret C Z dX0_afterEnd_12 rfl (Nat.le_of_ble_eq_true rfl) (Nat.le_of_ble_eq_true rfl) rfl rfl (congrArg nI (if_neg h3)).symm
  · refine x_iconst (v := 0) C dX0_afterEnd_6 (by decide) ?_
    refine x_goto C 12 dX0_afterEnd_7 (by decide) ?_
    exact x_zret C Z dX0_afterEnd_12 rfl (Nat.le_of_ble_eq_true rfl) (Nat.le_of_ble_eq_true rfl) rfl rfl (congrArg nI (if_pos h3)).symm
set_option maxRecDepth 100000 in
set_option maxHeartbeats 1000000 in
theorem c_X0_isGesture {l : Launch} {E : xEnv} {B N : Nat} {σ : Sg} (s : Int32) : xM l yX0_isGesture cX0_isGesture 1 (some .boolean) 0 0 0 0 E B [.int s] N σ N σ (some (.int (xb (gesP s)))) := by
  refine xM_of [some (.int _)] (by decide +kernel) (Nat.le_of_ble_eq_true rfl) rfl (fun k0 C Z => ?_)
  refine x_iload_n C dX0_isGesture_0 rfl ?_
  refine x_bipush (v := 119) C dX0_isGesture_1 (by decide) ?_
  refine x_ic_eq C 12 dX0_isGesture_3 (by decide) (fun h3 => ?_) (fun h3 => ?_)
  · refine x_iconst (v := 1) C dX0_isGesture_12 (by decide) ?_
    refine x_goto C 17 dX0_isGesture_13 (by decide) ?_
    exact x_zret C Z dX0_isGesture_17 rfl (Nat.le_of_ble_eq_true rfl) (Nat.le_of_ble_eq_true rfl) rfl rfl (b_t (Or.inl h3)).symm
  · refine x_iload_n C dX0_isGesture_6 rfl ?_
    refine x_bipush (v := 110) C dX0_isGesture_7 (by decide) ?_
    refine x_ic_ne C 16 dX0_isGesture_9 (by decide) (fun h9 => ?_) (fun h9 => ?_)
    · refine x_iconst (v := 0) C dX0_isGesture_16 (by decide) ?_
      exact x_zret C Z dX0_isGesture_17 rfl (Nat.le_of_ble_eq_true rfl) (Nat.le_of_ble_eq_true rfl) rfl rfl (b_f (fun z => z.elim h3 h9)).symm
    · refine x_iconst (v := 1) C dX0_isGesture_12 (by decide) ?_
      refine x_goto C 17 dX0_isGesture_13 (by decide) ?_
      exact x_zret C Z dX0_isGesture_17 rfl (Nat.le_of_ble_eq_true rfl) (Nat.le_of_ble_eq_true rfl) rfl rfl (b_t (Or.inr h9)).symm
set_option maxRecDepth 100000 in
set_option maxHeartbeats 1000000 in
theorem c_X0_isDigit {l : Launch} {E : xEnv} {B N : Nat} {σ : Sg} (s : Int32) : xM l yX0_isDigit cX0_isDigit 1 (some .boolean) 0 0 0 0 E B [.int s] N σ N σ (some (.int (xb (digP s)))) := by
  refine xM_of [some (.int _)] (by decide +kernel) (Nat.le_of_ble_eq_true rfl) rfl (fun k0 C Z => ?_)
  refine x_iload_n C dX0_isDigit_0 rfl ?_
  refine x_bipush (v := 48) C dX0_isDigit_1 (by decide) ?_
  refine x_ic_lt C 16 dX0_isDigit_3 (by decide) (fun h3 => ?_) (fun h3 => ?_)
  · refine x_iconst (v := 0) C dX0_isDigit_16 (by decide) ?_
    exact x_zret C Z dX0_isDigit_17 rfl (Nat.le_of_ble_eq_true rfl) (Nat.le_of_ble_eq_true rfl) rfl rfl (b_f (fun z => absurd h3 (Int32.not_lt.mpr z.1))).symm
  · refine x_iload_n C dX0_isDigit_6 rfl ?_
    refine x_bipush (v := 57) C dX0_isDigit_7 (by decide) ?_
    refine x_ic_gt C 16 dX0_isDigit_9 (by decide) (fun h9 => ?_) (fun h9 => ?_)
    · refine x_iconst (v := 0) C dX0_isDigit_16 (by decide) ?_
      exact x_zret C Z dX0_isDigit_17 rfl (Nat.le_of_ble_eq_true rfl) (Nat.le_of_ble_eq_true rfl) rfl rfl (b_f (fun z => absurd h9 (Int32.not_lt.mpr z.2))).symm
    · refine x_iconst (v := 1) C dX0_isDigit_12 (by decide) ?_
      refine x_goto C 17 dX0_isDigit_13 (by decide) ?_
      exact x_zret C Z dX0_isDigit_17 rfl (Nat.le_of_ble_eq_true rfl) (Nat.le_of_ble_eq_true rfl) rfl rfl (b_t ⟨Int32.not_lt.mp h3, Int32.not_lt.mp h9⟩).symm
set_option maxRecDepth 100000 in
set_option maxHeartbeats 1000000 in
theorem c_X0_expectedAfter {l : Launch} {E : xEnv} {B N : Nat} {σ : Sg} {j : Nat} (hj : j ≤ 10) (s : Int32) : xM l yX0_expectedAfter cX0_expectedAfter 2 (some .int) 1 20 0 0 E B [.int (nI j), .int s] N σ N σ (some (.int (nI (exS j s)))) := by
  rcases (show j = 0 ∨ j = 1 ∨ j = 2 ∨ j = 3 ∨ j = 4 ∨ j = 5 ∨ j = 6 ∨ j = 7 ∨ j = 8 ∨ j = 9 ∨ j = 10 by omega) with rfl | rfl | rfl | rfl | rfl | rfl | rfl | rfl | rfl | rfl | rfl
  · refine xM_of [some (.int _), some (.int _)] (by decide +kernel) (Nat.le_of_ble_eq_true rfl) rfl (fun k0 C Z => ?_)
    refine x_iload_n C dX0_expectedAfter_0 rfl ?_
    refine x_tbI C 60 dX0_expectedAfter_1 (by decide) (by decide) rfl (by decide) ?_
    refine x_iload_n C dX0_expectedAfter_60 rfl ?_
    refine x_bipush (v := 48) C dX0_expectedAfter_61 (by decide) ?_
    refine x_ic_lt C 76 dX0_expectedAfter_63 (by decide) (fun h63 => ?_) (fun h63 => ?_)
    · refine x_bipush (v := 11) C dX0_expectedAfter_76 (by decide) ?_
      exact x_zret C Z dX0_expectedAfter_78 rfl (Nat.le_of_ble_eq_true rfl) (Nat.le_of_ble_eq_true rfl) rfl rfl (congrArg nI (ex_0.trans (if_neg (fun z => absurd h63 (Int32.not_lt.mpr z.1))))).symm
    · refine x_iload_n C dX0_expectedAfter_66 rfl ?_
      refine x_bipush (v := 55) C dX0_expectedAfter_67 (by decide) ?_
      refine x_ic_gt C 76 dX0_expectedAfter_69 (by decide) (fun h69 => ?_) (fun h69 => ?_)
      · refine x_bipush (v := 11) C dX0_expectedAfter_76 (by decide) ?_
        exact x_zret C Z dX0_expectedAfter_78 rfl (Nat.le_of_ble_eq_true rfl) (Nat.le_of_ble_eq_true rfl) rfl rfl (congrArg nI (ex_0.trans (if_neg (fun z => absurd h69 (Int32.not_lt.mpr z.2))))).symm
      · refine x_iconst (v := 1) C dX0_expectedAfter_72 (by decide) ?_
        refine x_goto C 78 dX0_expectedAfter_73 (by decide) ?_
        exact x_zret C Z dX0_expectedAfter_78 rfl (Nat.le_of_ble_eq_true rfl) (Nat.le_of_ble_eq_true rfl) rfl rfl (congrArg nI (ex_0.trans (if_pos ⟨Int32.not_lt.mp h63, Int32.not_lt.mp h69⟩))).symm
  · refine xM_of [some (.int _), some (.int _)] (by decide +kernel) (Nat.le_of_ble_eq_true rfl) rfl (fun k0 C Z => ?_)
    refine x_iload_n C dX0_expectedAfter_0 rfl ?_
    refine x_tbI C 79 dX0_expectedAfter_1 (by decide) (by decide) rfl (by decide) ?_
    refine x_iload_n C dX0_expectedAfter_79 rfl ?_
    refine x_bipush (v := 46) C dX0_expectedAfter_80 (by decide) ?_
    refine x_ic_ne C 89 dX0_expectedAfter_82 (by decide) (fun h82 => ?_) (fun h82 => ?_)
    · refine x_bipush (v := 11) C dX0_expectedAfter_89 (by decide) ?_
      exact x_zret C Z dX0_expectedAfter_91 rfl (Nat.le_of_ble_eq_true rfl) (Nat.le_of_ble_eq_true rfl) rfl rfl (congrArg nI (ex_1.trans (if_neg h82))).symm
    · refine x_iconst (v := 2) C dX0_expectedAfter_85 (by decide) ?_
      refine x_goto C 91 dX0_expectedAfter_86 (by decide) ?_
      exact x_zret C Z dX0_expectedAfter_91 rfl (Nat.le_of_ble_eq_true rfl) (Nat.le_of_ble_eq_true rfl) rfl rfl (congrArg nI (ex_1.trans (if_pos h82))).symm
  · refine xM_of [some (.int _), some (.int _)] (by decide +kernel) (Nat.le_of_ble_eq_true rfl) rfl (fun k0 C Z => ?_)
    refine x_iload_n C dX0_expectedAfter_0 rfl ?_
    refine x_tbI C 92 dX0_expectedAfter_1 (by decide) (by decide) rfl (by decide) ?_
    refine x_iload_n C dX0_expectedAfter_92 rfl ?_
    refine x_bipush (v := 48) C dX0_expectedAfter_93 (by decide) ?_
    refine x_ic_lt C 108 dX0_expectedAfter_95 (by decide) (fun h95 => ?_) (fun h95 => ?_)
    · refine x_bipush (v := 11) C dX0_expectedAfter_108 (by decide) ?_
      exact x_zret C Z dX0_expectedAfter_110 rfl (Nat.le_of_ble_eq_true rfl) (Nat.le_of_ble_eq_true rfl) rfl rfl (congrArg nI (ex_2.trans (if_neg (fun z => absurd h95 (Int32.not_lt.mpr z.1))))).symm
    · refine x_iload_n C dX0_expectedAfter_98 rfl ?_
      refine x_bipush (v := 53) C dX0_expectedAfter_99 (by decide) ?_
      refine x_ic_gt C 108 dX0_expectedAfter_101 (by decide) (fun h101 => ?_) (fun h101 => ?_)
      · refine x_bipush (v := 11) C dX0_expectedAfter_108 (by decide) ?_
        exact x_zret C Z dX0_expectedAfter_110 rfl (Nat.le_of_ble_eq_true rfl) (Nat.le_of_ble_eq_true rfl) rfl rfl (congrArg nI (ex_2.trans (if_neg (fun z => absurd h101 (Int32.not_lt.mpr z.2))))).symm
      · refine x_iconst (v := 3) C dX0_expectedAfter_104 (by decide) ?_
        refine x_goto C 110 dX0_expectedAfter_105 (by decide) ?_
        exact x_zret C Z dX0_expectedAfter_110 rfl (Nat.le_of_ble_eq_true rfl) (Nat.le_of_ble_eq_true rfl) rfl rfl (congrArg nI (ex_2.trans (if_pos ⟨Int32.not_lt.mp h95, Int32.not_lt.mp h101⟩))).symm
  · refine xM_of [some (.int _), some (.int _)] (by decide +kernel) (Nat.le_of_ble_eq_true rfl) rfl (fun k0 C Z => ?_)
    refine x_iload_n C dX0_expectedAfter_0 rfl ?_
    refine x_tbI C 111 dX0_expectedAfter_1 (by decide) (by decide) rfl (by decide) ?_
    refine x_iload_n C dX0_expectedAfter_111 rfl ?_
    refine x_bipush (v := 61) C dX0_expectedAfter_112 (by decide) ?_
    refine x_ic_ne C 121 dX0_expectedAfter_114 (by decide) (fun h114 => ?_) (fun h114 => ?_)
    · refine x_bipush (v := 11) C dX0_expectedAfter_121 (by decide) ?_
      exact x_zret C Z dX0_expectedAfter_123 rfl (Nat.le_of_ble_eq_true rfl) (Nat.le_of_ble_eq_true rfl) rfl rfl (congrArg nI (ex_3.trans (if_neg h114))).symm
    · refine x_iconst (v := 4) C dX0_expectedAfter_117 (by decide) ?_
      refine x_goto C 123 dX0_expectedAfter_118 (by decide) ?_
      exact x_zret C Z dX0_expectedAfter_123 rfl (Nat.le_of_ble_eq_true rfl) (Nat.le_of_ble_eq_true rfl) rfl rfl (congrArg nI (ex_3.trans (if_pos h114))).symm
  · refine xM_of [some (.int _), some (.int _)] (by decide +kernel) (Nat.le_of_ble_eq_true rfl) rfl (fun k0 C Z => ?_)
    refine x_iload_n C dX0_expectedAfter_0 rfl ?_
    refine x_tbI C 124 dX0_expectedAfter_1 (by decide) (by decide) rfl (by decide) ?_
    refine x_iload_n C dX0_expectedAfter_124 rfl ?_
    refine x_callS C (c_X0_isGesture _) ks_X0_isGesture kl_X0_31 dX0_expectedAfter_125 rfl rfl rfl rfl (Nat.le_of_ble_eq_true rfl) (Nat.le_of_ble_eq_true rfl) (Nat.le_of_ble_eq_true rfl) (Nat.le_of_ble_eq_true rfl) (Nat.le_of_ble_eq_true rfl) ?_
    refine x_beq C 135 dX0_expectedAfter_128 (by decide) (fun h128 => ?_) (fun h128 => ?_)
    · refine x_bipush (v := 11) C dX0_expectedAfter_135 (by decide) ?_
      exact x_zret C Z dX0_expectedAfter_137 rfl (Nat.le_of_ble_eq_true rfl) (Nat.le_of_ble_eq_true rfl) rfl rfl (congrArg nI (ex_4.trans (if_neg h128))).symm
    · refine x_iconst (v := 5) C dX0_expectedAfter_131 (by decide) ?_
      refine x_goto C 137 dX0_expectedAfter_132 (by decide) ?_
      exact x_zret C Z dX0_expectedAfter_137 rfl (Nat.le_of_ble_eq_true rfl) (Nat.le_of_ble_eq_true rfl) rfl rfl (congrArg nI (ex_4.trans (if_pos h128))).symm
  · refine xM_of [some (.int _), some (.int _)] (by decide +kernel) (Nat.le_of_ble_eq_true rfl) rfl (fun k0 C Z => ?_)
    refine x_iload_n C dX0_expectedAfter_0 rfl ?_
    refine x_tbI C 138 dX0_expectedAfter_1 (by decide) (by decide) rfl (by decide) ?_
    refine x_iload_n C dX0_expectedAfter_138 rfl ?_
    refine x_callS C (c_X0_isGesture _) ks_X0_isGesture kl_X0_31 dX0_expectedAfter_139 rfl rfl rfl rfl (Nat.le_of_ble_eq_true rfl) (Nat.le_of_ble_eq_true rfl) (Nat.le_of_ble_eq_true rfl) (Nat.le_of_ble_eq_true rfl) (Nat.le_of_ble_eq_true rfl) ?_
    refine x_beq C 150 dX0_expectedAfter_142 (by decide) (fun h142 => ?_) (fun h142 => ?_)
    · refine x_iload_n C dX0_expectedAfter_150 rfl ?_
      refine x_callS C (c_X0_afterStar _) ks_X0_afterStar kl_X0_35 dX0_expectedAfter_151 rfl rfl rfl rfl (Nat.le_of_ble_eq_true rfl) (Nat.le_of_ble_eq_true rfl) (Nat.le_of_ble_eq_true rfl) (Nat.le_of_ble_eq_true rfl) (Nat.le_of_ble_eq_true rfl) ?_
      exact x_zret C Z dX0_expectedAfter_154 rfl (Nat.le_of_ble_eq_true rfl) (Nat.le_of_ble_eq_true rfl) rfl rfl (congrArg nI (ex_5.trans (if_neg h142))).symm
    · refine x_bipush (v := 6) C dX0_expectedAfter_145 (by decide) ?_
      refine x_goto C 154 dX0_expectedAfter_147 (by decide) ?_
      exact x_zret C Z dX0_expectedAfter_154 rfl (Nat.le_of_ble_eq_true rfl) (Nat.le_of_ble_eq_true rfl) rfl rfl (congrArg nI (ex_5.trans (if_pos h142))).symm
  · refine xM_of [some (.int _), some (.int _)] (by decide +kernel) (Nat.le_of_ble_eq_true rfl) rfl (fun k0 C Z => ?_)
    refine x_iload_n C dX0_expectedAfter_0 rfl ?_
    refine x_tbI C 155 dX0_expectedAfter_1 (by decide) (by decide) rfl (by decide) ?_
    refine x_iload_n C dX0_expectedAfter_155 rfl ?_
    refine x_callS C (c_X0_isGesture _) ks_X0_isGesture kl_X0_31 dX0_expectedAfter_156 rfl rfl rfl rfl (Nat.le_of_ble_eq_true rfl) (Nat.le_of_ble_eq_true rfl) (Nat.le_of_ble_eq_true rfl) (Nat.le_of_ble_eq_true rfl) (Nat.le_of_ble_eq_true rfl) ?_
    refine x_beq C 167 dX0_expectedAfter_159 (by decide) (fun h159 => ?_) (fun h159 => ?_)
    · refine x_iload_n C dX0_expectedAfter_167 rfl ?_
      refine x_callS C (c_X0_afterStar _) ks_X0_afterStar kl_X0_35 dX0_expectedAfter_168 rfl rfl rfl rfl (Nat.le_of_ble_eq_true rfl) (Nat.le_of_ble_eq_true rfl) (Nat.le_of_ble_eq_true rfl) (Nat.le_of_ble_eq_true rfl) (Nat.le_of_ble_eq_true rfl) ?_
      exact x_zret C Z dX0_expectedAfter_171 rfl (Nat.le_of_ble_eq_true rfl) (Nat.le_of_ble_eq_true rfl) rfl rfl (congrArg nI (ex_6.trans (if_neg h159))).symm
    · refine x_bipush (v := 7) C dX0_expectedAfter_162 (by decide) ?_
      refine x_goto C 171 dX0_expectedAfter_164 (by decide) ?_
      exact x_zret C Z dX0_expectedAfter_171 rfl (Nat.le_of_ble_eq_true rfl) (Nat.le_of_ble_eq_true rfl) rfl rfl (congrArg nI (ex_6.trans (if_pos h159))).symm
  · refine xM_of [some (.int _), some (.int _)] (by decide +kernel) (Nat.le_of_ble_eq_true rfl) rfl (fun k0 C Z => ?_)
    refine x_iload_n C dX0_expectedAfter_0 rfl ?_
    refine x_tbI C 172 dX0_expectedAfter_1 (by decide) (by decide) rfl (by decide) ?_
    refine x_iload_n C dX0_expectedAfter_172 rfl ?_
    refine x_callS C (c_X0_afterStar _) ks_X0_afterStar kl_X0_35 dX0_expectedAfter_173 rfl rfl rfl rfl (Nat.le_of_ble_eq_true rfl) (Nat.le_of_ble_eq_true rfl) (Nat.le_of_ble_eq_true rfl) (Nat.le_of_ble_eq_true rfl) (Nat.le_of_ble_eq_true rfl) ?_
    exact x_zret C Z dX0_expectedAfter_176 rfl (Nat.le_of_ble_eq_true rfl) (Nat.le_of_ble_eq_true rfl) rfl rfl (congrArg nI (ex_7.trans (rfl))).symm
  · refine xM_of [some (.int _), some (.int _)] (by decide +kernel) (Nat.le_of_ble_eq_true rfl) rfl (fun k0 C Z => ?_)
    refine x_iload_n C dX0_expectedAfter_0 rfl ?_
    refine x_tbI C 177 dX0_expectedAfter_1 (by decide) (by decide) rfl (by decide) ?_
    refine x_iload_n C dX0_expectedAfter_177 rfl ?_
    refine x_bipush (v := 48) C dX0_expectedAfter_178 (by decide) ?_
    refine x_ic_ne C 186 dX0_expectedAfter_180 (by decide) (fun h180 => ?_) (fun h180 => ?_)
    · refine x_iload_n C dX0_expectedAfter_186 rfl ?_
      refine x_callS C (c_X0_isDigit _) ks_X0_isDigit kl_X0_38 dX0_expectedAfter_187 rfl rfl rfl rfl (Nat.le_of_ble_eq_true rfl) (Nat.le_of_ble_eq_true rfl) (Nat.le_of_ble_eq_true rfl) (Nat.le_of_ble_eq_true rfl) (Nat.le_of_ble_eq_true rfl) ?_
      refine x_beq C 198 dX0_expectedAfter_190 (by decide) (fun h190 => ?_) (fun h190 => ?_)
      · refine x_bipush (v := 11) C dX0_expectedAfter_198 (by decide) ?_
        exact x_zret C Z dX0_expectedAfter_200 rfl (Nat.le_of_ble_eq_true rfl) (Nat.le_of_ble_eq_true rfl) rfl rfl (congrArg nI (ex_8.trans ((if_neg h180).trans (if_neg h190)))).symm
      · refine x_bipush (v := 9) C dX0_expectedAfter_193 (by decide) ?_
        refine x_goto C 200 dX0_expectedAfter_195 (by decide) ?_
        exact x_zret C Z dX0_expectedAfter_200 rfl (Nat.le_of_ble_eq_true rfl) (Nat.le_of_ble_eq_true rfl) rfl rfl (congrArg nI (ex_8.trans ((if_neg h180).trans (if_pos h190)))).symm
    · refine x_bipush (v := 10) C dX0_expectedAfter_183 (by decide) ?_
      exact x_zret C Z dX0_expectedAfter_185 rfl (Nat.le_of_ble_eq_true rfl) (Nat.le_of_ble_eq_true rfl) rfl rfl (congrArg nI (ex_8.trans (if_pos h180))).symm
  · refine xM_of [some (.int _), some (.int _)] (by decide +kernel) (Nat.le_of_ble_eq_true rfl) rfl (fun k0 C Z => ?_)
    refine x_iload_n C dX0_expectedAfter_0 rfl ?_
    refine x_tbI C 201 dX0_expectedAfter_1 (by decide) (by decide) rfl (by decide) ?_
    refine x_iload_n C dX0_expectedAfter_201 rfl ?_
    refine x_callS C (c_X0_isDigit _) ks_X0_isDigit kl_X0_38 dX0_expectedAfter_202 rfl rfl rfl rfl (Nat.le_of_ble_eq_true rfl) (Nat.le_of_ble_eq_true rfl) (Nat.le_of_ble_eq_true rfl) (Nat.le_of_ble_eq_true rfl) (Nat.le_of_ble_eq_true rfl) ?_
    refine x_beq C 213 dX0_expectedAfter_205 (by decide) (fun h205 => ?_) (fun h205 => ?_)
    · refine x_iload_n C dX0_expectedAfter_213 rfl ?_
      refine x_callS C (c_X0_afterEnd _) ks_X0_afterEnd kl_X0_41 dX0_expectedAfter_214 rfl rfl rfl rfl (Nat.le_of_ble_eq_true rfl) (Nat.le_of_ble_eq_true rfl) (Nat.le_of_ble_eq_true rfl) (Nat.le_of_ble_eq_true rfl) (Nat.le_of_ble_eq_true rfl) ?_
      exact x_zret C Z dX0_expectedAfter_217 rfl (Nat.le_of_ble_eq_true rfl) (Nat.le_of_ble_eq_true rfl) rfl rfl (congrArg nI (ex_9.trans (if_neg h205))).symm
    · refine x_bipush (v := 10) C dX0_expectedAfter_208 (by decide) ?_
      refine x_goto C 217 dX0_expectedAfter_210 (by decide) ?_
      exact x_zret C Z dX0_expectedAfter_217 rfl (Nat.le_of_ble_eq_true rfl) (Nat.le_of_ble_eq_true rfl) rfl rfl (congrArg nI (ex_9.trans (if_pos h205))).symm
  · refine xM_of [some (.int _), some (.int _)] (by decide +kernel) (Nat.le_of_ble_eq_true rfl) rfl (fun k0 C Z => ?_)
    refine x_iload_n C dX0_expectedAfter_0 rfl ?_
    refine x_tbI C 218 dX0_expectedAfter_1 (by decide) (by decide) rfl (by decide) ?_
    refine x_iload_n C dX0_expectedAfter_218 rfl ?_
    refine x_callS C (c_X0_afterEnd _) ks_X0_afterEnd kl_X0_41 dX0_expectedAfter_219 rfl rfl rfl rfl (Nat.le_of_ble_eq_true rfl) (Nat.le_of_ble_eq_true rfl) (Nat.le_of_ble_eq_true rfl) (Nat.le_of_ble_eq_true rfl) (Nat.le_of_ble_eq_true rfl) ?_
    exact x_zret C Z dX0_expectedAfter_222 rfl (Nat.le_of_ble_eq_true rfl) (Nat.le_of_ble_eq_true rfl) rfl rfl (congrArg nI (ex_10.trans (rfl))).symm
set_option maxRecDepth 100000 in
set_option maxHeartbeats 1000000 in
theorem c_X0_firstError_at {l : Launch} {E : xEnv} {B N : Nat} {σ : Sg} {h n : Nat} {tx : Fn} {q : Nat} (hn : n ≤ 80) (hqn : q < n) (hall : ∀ j, j ≤ q → auS tx j ≠ 11) (hq : auS tx (q + 1) = 11) : xM l yX0_firstError cX0_firstError 3 (some .int) 2 42 0 0 E B [.ref h] N (tput E σ h (nI n) tx) N (tput E σ h (nI n) tx) (some (.int (nI q))) := by
  refine xM_of [some (.ref _), none, none] (by decide +kernel) (Nat.le_of_ble_eq_true rfl) rfl (fun k0 C Z => ?_)
  have hl : ∀ i, i ≤ q → xX k0 N 0 0 (tput E σ h (nI n) tx) 4 [some (.ref h), some (.int (nI (auS tx i))), some (.int (nI i))] [] := by
    refine x_for q ?_ ?_
    · refine x_iload_n C dX0_firstError_4 rfl ?_
      refine x_aload_n C dX0_firstError_5 rfl ?_
      refine x_get C kf_X0_15 tput_0 rfl dX0_firstError_6 ?_
      refine x_ic_ge C 36 dX0_firstError_9 (by decide) (fun h => absurd h (nI_ge hqn (by omega))) (fun _ => ?_)
      refine x_iload_n C dX0_firstError_12 rfl ?_
      refine x_aload_n C dX0_firstError_13 rfl ?_
      refine x_iload_n C dX0_firstError_14 rfl ?_
      refine x_callV C (c_X0_signAt (by omega) hn) kv_X0_signAt kl_X0_23 dX0_firstError_15 tput_0 rfl rfl rfl rfl (Nat.le_of_ble_eq_true rfl) (Nat.le_of_ble_eq_true rfl) (Nat.le_of_ble_eq_true rfl) (Nat.le_of_ble_eq_true rfl) (Nat.le_of_ble_eq_true rfl) ?_
      rw [sg_in hqn]
      refine x_callS C (c_X0_expectedAfter (by have := hall q (Nat.le_refl _); have := auS_le (tx := tx) q; omega) _) ks_X0_expectedAfter kl_X0_27 dX0_firstError_18 rfl rfl rfl rfl (Nat.le_of_ble_eq_true rfl) (Nat.le_of_ble_eq_true rfl) (Nat.le_of_ble_eq_true rfl) (Nat.le_of_ble_eq_true rfl) (Nat.le_of_ble_eq_true rfl) ?_
      refine x_istore_n C dX0_firstError_21 (by decide) rfl ?_
      refine x_iload_n C dX0_firstError_22 rfl ?_
      refine x_bipush (v := 11) C dX0_firstError_23 (by decide) ?_
      refine x_ic_ne C 30 dX0_firstError_25 (by decide) (fun h => absurd (congrArg nI hq) h) (fun _ => ?_)
      refine x_iload_n C dX0_firstError_28 rfl ?_
      exact x_zret C Z dX0_firstError_29 rfl (Nat.le_of_ble_eq_true rfl) (Nat.le_of_ble_eq_true rfl) rfl rfl rfl
    · intro i hi ih
      refine x_iload_n C dX0_firstError_4 rfl ?_
      refine x_aload_n C dX0_firstError_5 rfl ?_
      refine x_get C kf_X0_15 tput_0 rfl dX0_firstError_6 ?_
      refine x_ic_ge C 36 dX0_firstError_9 (by decide) (fun h => absurd h (nI_ge (show i < n by omega) (by omega))) (fun _ => ?_)
      refine x_iload_n C dX0_firstError_12 rfl ?_
      refine x_aload_n C dX0_firstError_13 rfl ?_
      refine x_iload_n C dX0_firstError_14 rfl ?_
      refine x_callV C (c_X0_signAt (by omega) hn) kv_X0_signAt kl_X0_23 dX0_firstError_15 tput_0 rfl rfl rfl rfl (Nat.le_of_ble_eq_true rfl) (Nat.le_of_ble_eq_true rfl) (Nat.le_of_ble_eq_true rfl) (Nat.le_of_ble_eq_true rfl) (Nat.le_of_ble_eq_true rfl) ?_
      rw [sg_in (show i < n by omega)]
      refine x_callS C (c_X0_expectedAfter (by have := hall i (by omega); have := auS_le (tx := tx) i; omega) _) ks_X0_expectedAfter kl_X0_27 dX0_firstError_18 rfl rfl rfl rfl (Nat.le_of_ble_eq_true rfl) (Nat.le_of_ble_eq_true rfl) (Nat.le_of_ble_eq_true rfl) (Nat.le_of_ble_eq_true rfl) (Nat.le_of_ble_eq_true rfl) ?_
      refine x_istore_n C dX0_firstError_21 (by decide) rfl ?_
      refine x_iload_n C dX0_firstError_22 rfl ?_
      refine x_bipush (v := 11) C dX0_firstError_23 (by decide) ?_
      refine x_ic_ne C 30 dX0_firstError_25 (by decide) (fun _ => ?_) (fun h => absurd h (nI_neL (a := auS tx (i + 1)) (b := 11) (by have := auS_le (tx := tx) (i + 1); omega) (by omega) (hall (i + 1) (by omega))))
      refine x_iinc C dX0_firstError_30 rfl (nI_inc _) (by decide) rfl ?_
      refine x_goto C 4 dX0_firstError_33 (by decide) ?_
      refine xX.cl ih rfl (And.intro rfl (And.intro rfl (And.intro rfl trivial))) rfl
  refine x_iconst (v := 0) C dX0_firstError_0 (by decide) ?_
  refine x_istore_n C dX0_firstError_1 (by decide) rfl ?_
  refine x_iconst (v := 0) C dX0_firstError_2 (by decide) ?_
  refine x_istore_n C dX0_firstError_3 (by decide) rfl ?_
  refine xX.cl (hl 0 (by omega)) rfl (And.intro rfl (And.intro rfl (And.intro rfl trivial))) rfl
set_option maxRecDepth 100000 in
set_option maxHeartbeats 1000000 in
theorem c_X0_firstError_ok {l : Launch} {E : xEnv} {B N : Nat} {σ : Sg} {h n : Nat} {tx : Fn} (hn : n ≤ 80) (hall : ∀ j, j ≤ n → auS tx j ≠ 11) (hacc : auS tx n = 9 ∨ auS tx n = 10) : xM l yX0_firstError cX0_firstError 3 (some .int) 2 42 0 0 E B [.ref h] N (tput E σ h (nI n) tx) N (tput E σ h (nI n) tx) (some (.int (-6))) := by
  refine xM_of [some (.ref _), none, none] (by decide +kernel) (Nat.le_of_ble_eq_true rfl) rfl (fun k0 C Z => ?_)
  have hl : ∀ i, i ≤ n → xX k0 N 0 0 (tput E σ h (nI n) tx) 4 [some (.ref h), some (.int (nI (auS tx i))), some (.int (nI i))] [] := by
    refine x_for n ?_ ?_
    · refine x_iload_n C dX0_firstError_4 rfl ?_
      refine x_aload_n C dX0_firstError_5 rfl ?_
      refine x_get C kf_X0_15 tput_0 rfl dX0_firstError_6 ?_
      refine x_ic_ge C 36 dX0_firstError_9 (by decide) (fun _ => ?_) (fun h => absurd (nI_le (Nat.le_refl _) (by omega)) h)
      refine x_iload_n C dX0_firstError_36 rfl ?_
      refine x_bipush (v := 9) C dX0_firstError_37 (by decide) ?_
      refine x_ic_eq C 48 dX0_firstError_39 (by decide) (fun h39 => ?_) (fun h39 => ?_)
      · refine x_bipush (v := (-6)) C dX0_firstError_48 (by decide) ?_
        refine x_goto C 57 dX0_firstError_50 (by decide) ?_
        exact x_zret C Z dX0_firstError_57 rfl (Nat.le_of_ble_eq_true rfl) (Nat.le_of_ble_eq_true rfl) rfl rfl rfl
      · refine x_iload_n C dX0_firstError_42 rfl ?_
        refine x_bipush (v := 10) C dX0_firstError_43 (by decide) ?_
        refine x_ic_ne C 53 dX0_firstError_45 (by decide) (fun h => absurd (congrArg nI (hacc.resolve_left (fun z => h39 (congrArg nI z)))) h) (fun _ => ?_)
        refine x_bipush (v := (-6)) C dX0_firstError_48 (by decide) ?_
        refine x_goto C 57 dX0_firstError_50 (by decide) ?_
        exact x_zret C Z dX0_firstError_57 rfl (Nat.le_of_ble_eq_true rfl) (Nat.le_of_ble_eq_true rfl) rfl rfl rfl
    · intro i hi ih
      refine x_iload_n C dX0_firstError_4 rfl ?_
      refine x_aload_n C dX0_firstError_5 rfl ?_
      refine x_get C kf_X0_15 tput_0 rfl dX0_firstError_6 ?_
      refine x_ic_ge C 36 dX0_firstError_9 (by decide) (fun h => absurd h (nI_ge (show i < n by omega) (by omega))) (fun _ => ?_)
      refine x_iload_n C dX0_firstError_12 rfl ?_
      refine x_aload_n C dX0_firstError_13 rfl ?_
      refine x_iload_n C dX0_firstError_14 rfl ?_
      refine x_callV C (c_X0_signAt (by omega) hn) kv_X0_signAt kl_X0_23 dX0_firstError_15 tput_0 rfl rfl rfl rfl (Nat.le_of_ble_eq_true rfl) (Nat.le_of_ble_eq_true rfl) (Nat.le_of_ble_eq_true rfl) (Nat.le_of_ble_eq_true rfl) (Nat.le_of_ble_eq_true rfl) ?_
      rw [sg_in (show i < n by omega)]
      refine x_callS C (c_X0_expectedAfter (by have := hall i (by omega); have := auS_le (tx := tx) i; omega) _) ks_X0_expectedAfter kl_X0_27 dX0_firstError_18 rfl rfl rfl rfl (Nat.le_of_ble_eq_true rfl) (Nat.le_of_ble_eq_true rfl) (Nat.le_of_ble_eq_true rfl) (Nat.le_of_ble_eq_true rfl) (Nat.le_of_ble_eq_true rfl) ?_
      refine x_istore_n C dX0_firstError_21 (by decide) rfl ?_
      refine x_iload_n C dX0_firstError_22 rfl ?_
      refine x_bipush (v := 11) C dX0_firstError_23 (by decide) ?_
      refine x_ic_ne C 30 dX0_firstError_25 (by decide) (fun _ => ?_) (fun h => absurd h (nI_neL (a := auS tx (i + 1)) (b := 11) (by have := auS_le (tx := tx) (i + 1); omega) (by omega) (hall (i + 1) (by omega))))
      refine x_iinc C dX0_firstError_30 rfl (nI_inc _) (by decide) rfl ?_
      refine x_goto C 4 dX0_firstError_33 (by decide) ?_
      refine xX.cl ih rfl (And.intro rfl (And.intro rfl (And.intro rfl trivial))) rfl
  refine x_iconst (v := 0) C dX0_firstError_0 (by decide) ?_
  refine x_istore_n C dX0_firstError_1 (by decide) rfl ?_
  refine x_iconst (v := 0) C dX0_firstError_2 (by decide) ?_
  refine x_istore_n C dX0_firstError_3 (by decide) rfl ?_
  refine xX.cl (hl 0 (by omega)) rfl (And.intro rfl (And.intro rfl (And.intro rfl trivial))) rfl
set_option maxRecDepth 100000 in
set_option maxHeartbeats 1000000 in
theorem c_X0_firstError_end {l : Launch} {E : xEnv} {B N : Nat} {σ : Sg} {h n : Nat} {tx : Fn} (hn : n ≤ 80) (hall : ∀ j, j ≤ n → auS tx j ≠ 11) (hacc : ¬ (auS tx n = 9 ∨ auS tx n = 10)) : xM l yX0_firstError cX0_firstError 3 (some .int) 2 42 0 0 E B [.ref h] N (tput E σ h (nI n) tx) N (tput E σ h (nI n) tx) (some (.int (nI n))) := by
  refine xM_of [some (.ref _), none, none] (by decide +kernel) (Nat.le_of_ble_eq_true rfl) rfl (fun k0 C Z => ?_)
  have hl : ∀ i, i ≤ n → xX k0 N 0 0 (tput E σ h (nI n) tx) 4 [some (.ref h), some (.int (nI (auS tx i))), some (.int (nI i))] [] := by
    refine x_for n ?_ ?_
    · refine x_iload_n C dX0_firstError_4 rfl ?_
      refine x_aload_n C dX0_firstError_5 rfl ?_
      refine x_get C kf_X0_15 tput_0 rfl dX0_firstError_6 ?_
      refine x_ic_ge C 36 dX0_firstError_9 (by decide) (fun _ => ?_) (fun h => absurd (nI_le (Nat.le_refl _) (by omega)) h)
      refine x_iload_n C dX0_firstError_36 rfl ?_
      refine x_bipush (v := 9) C dX0_firstError_37 (by decide) ?_
      refine x_ic_eq C 48 dX0_firstError_39 (by decide) (fun h => absurd h (nI_neL (a := auS tx n) (b := 9) (by have := auS_le (tx := tx) n; omega) (by omega) (fun z => hacc (Or.inl z)))) (fun _ => ?_)
      refine x_iload_n C dX0_firstError_42 rfl ?_
      refine x_bipush (v := 10) C dX0_firstError_43 (by decide) ?_
      refine x_ic_ne C 53 dX0_firstError_45 (by decide) (fun _ => ?_) (fun h => absurd h (nI_neL (a := auS tx n) (b := 10) (by have := auS_le (tx := tx) n; omega) (by omega) (fun z => hacc (Or.inr z))))
      refine x_aload_n C dX0_firstError_53 rfl ?_
      refine x_get C kf_X0_15 tput_0 rfl dX0_firstError_54 ?_
      exact x_zret C Z dX0_firstError_57 rfl (Nat.le_of_ble_eq_true rfl) (Nat.le_of_ble_eq_true rfl) rfl rfl rfl
    · intro i hi ih
      refine x_iload_n C dX0_firstError_4 rfl ?_
      refine x_aload_n C dX0_firstError_5 rfl ?_
      refine x_get C kf_X0_15 tput_0 rfl dX0_firstError_6 ?_
      refine x_ic_ge C 36 dX0_firstError_9 (by decide) (fun h => absurd h (nI_ge (show i < n by omega) (by omega))) (fun _ => ?_)
      refine x_iload_n C dX0_firstError_12 rfl ?_
      refine x_aload_n C dX0_firstError_13 rfl ?_
      refine x_iload_n C dX0_firstError_14 rfl ?_
      refine x_callV C (c_X0_signAt (by omega) hn) kv_X0_signAt kl_X0_23 dX0_firstError_15 tput_0 rfl rfl rfl rfl (Nat.le_of_ble_eq_true rfl) (Nat.le_of_ble_eq_true rfl) (Nat.le_of_ble_eq_true rfl) (Nat.le_of_ble_eq_true rfl) (Nat.le_of_ble_eq_true rfl) ?_
      rw [sg_in (show i < n by omega)]
      refine x_callS C (c_X0_expectedAfter (by have := hall i (by omega); have := auS_le (tx := tx) i; omega) _) ks_X0_expectedAfter kl_X0_27 dX0_firstError_18 rfl rfl rfl rfl (Nat.le_of_ble_eq_true rfl) (Nat.le_of_ble_eq_true rfl) (Nat.le_of_ble_eq_true rfl) (Nat.le_of_ble_eq_true rfl) (Nat.le_of_ble_eq_true rfl) ?_
      refine x_istore_n C dX0_firstError_21 (by decide) rfl ?_
      refine x_iload_n C dX0_firstError_22 rfl ?_
      refine x_bipush (v := 11) C dX0_firstError_23 (by decide) ?_
      refine x_ic_ne C 30 dX0_firstError_25 (by decide) (fun _ => ?_) (fun h => absurd h (nI_neL (a := auS tx (i + 1)) (b := 11) (by have := auS_le (tx := tx) (i + 1); omega) (by omega) (hall (i + 1) (by omega))))
      refine x_iinc C dX0_firstError_30 rfl (nI_inc _) (by decide) rfl ?_
      refine x_goto C 4 dX0_firstError_33 (by decide) ?_
      refine xX.cl ih rfl (And.intro rfl (And.intro rfl (And.intro rfl trivial))) rfl
  refine x_iconst (v := 0) C dX0_firstError_0 (by decide) ?_
  refine x_istore_n C dX0_firstError_1 (by decide) rfl ?_
  refine x_iconst (v := 0) C dX0_firstError_2 (by decide) ?_
  refine x_istore_n C dX0_firstError_3 (by decide) rfl ?_
  refine xX.cl (hl 0 (by omega)) rfl (And.intro rfl (And.intro rfl (And.intro rfl trivial))) rfl
theorem c_X0_firstError {l : Launch} {E : xEnv} {B N : Nat} {σ : Sg} {h n : Nat} {tx : Fn} (hn : n ≤ 80) : xM l yX0_firstError cX0_firstError 3 (some .int) 2 42 0 0 E B [.ref h] N (tput E σ h (nI n) tx) N (tput E σ h (nI n) tx) (some (.int (feS tx n))) := by
  rcases feS_c tx n with ⟨q, h1, h2, h3, h4⟩ | ⟨h1, h2, h3⟩ | ⟨h1, h2, h3⟩
  · rw [h4]; exact c_X0_firstError_at hn h1 h2 h3
  · rw [h3]; exact c_X0_firstError_ok hn h1 h2
  · rw [h3]; exact c_X0_firstError_end hn h1 h2
