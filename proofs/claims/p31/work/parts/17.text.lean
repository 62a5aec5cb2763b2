set_option maxRecDepth 100000 in
set_option maxHeartbeats 1000000 in
theorem c_X1_keep {l : Launch} {E : xEnv} {B N : Nat} {σ : Sg} {VV : Cs} {p z : Nat} {len : Int32} {tx : Fn} (hp : p < 6) (hz : z ≤ 6) : xM l yX1_keep cX1_keep 2 none 3 75 0 0 E B [.ref (B + 41), .ref (B + 1)] N (cput E σ B VV (nI p) (nI z) len tx) N (cput E σ B (kpV VV p) (nI ((p + 1) % 6)) (nI (min 6 (z + 1))) len tx) none := by
  refine xM_of [some (.ref _), some (.ref _)] (by decide +kernel) (Nat.le_of_ble_eq_true rfl) rfl (fun k0 C Z => ?_)
  refine x_aload_n C dX1_keep_0 rfl ?_
  refine x_get C kf_X1_18 cput_41 rfl dX1_keep_1 ?_
  refine x_bipush (v := 6) C dX1_keep_4 (by decide) ?_
  refine x_callS C (c_X4_isBelow _ _) ks_X4_isBelow kl_X1_22 dX1_keep_6 rfl rfl rfl rfl (Nat.le_of_ble_eq_true rfl) (Nat.le_of_ble_eq_true rfl) (Nat.le_of_ble_eq_true rfl) (Nat.le_of_ble_eq_true rfl) (Nat.le_of_ble_eq_true rfl) ?_
  refine x_bne C 13 dX1_keep_9 (by decide) (fun _ => ?_) (fun h => absurd (bd_in (c := 6) hp (by decide)) h)
  refine x_aload_n C dX1_keep_13 rfl ?_
  refine x_get C kf_X1_11 cput_41 rfl dX1_keep_14 ?_
  refine x_aload_n C dX1_keep_17 rfl ?_
  refine x_get C kf_X1_18 cput_41 rfl dX1_keep_18 ?_
  refine x_aald2 (t0 := 3) C cput_42 rfl rfl hp (by decide) dX1_keep_21 ?_
  refine x_aload_n C dX1_keep_22 rfl ?_
  refine x_callV C (c_X3_copyFrom (V := VV (2 + p)) (W := VV 0) (by omega)) kv_X3_copyFrom kl_X1_26 dX1_keep_23 (cput_hv hp) (cput_k1 hp) (cput_k2 hp) rfl rfl (Nat.le_of_ble_eq_true rfl) (Nat.le_of_ble_eq_true rfl) (Nat.le_of_ble_eq_true rfl) (Nat.le_of_ble_eq_true rfl) (Nat.le_of_ble_eq_true rfl) ?_
  refine x_aload_n C dX1_keep_26 rfl ?_
  refine x_aload_n C dX1_keep_27 rfl ?_
  refine x_get C kf_X1_18 cput_41 rfl dX1_keep_28 ?_
  refine x_iconst (v := 1) C dX1_keep_31 (by decide) ?_
  refine x_iadd C dX1_keep_32 ?_
  refine x_bipush (v := 6) C dX1_keep_33 (by decide) ?_
  refine x_irem C dX1_keep_35 (by decide) ?_
  refine x_put (ty := .int) C kf_X1_18 cput_41 rfl (by decide +kernel) rfl rfl (Nat.le_of_ble_eq_true rfl) cput_s dX1_keep_36 ?_
  refine xX.sg (congrArg (fun q => cput E σ B _ q (nI z) len tx) (mod6 hp)) ?_
  refine x_aload_n C dX1_keep_39 rfl ?_
  refine x_bipush (v := 6) C dX1_keep_40 (by decide) ?_
  refine x_aload_n C dX1_keep_42 rfl ?_
  refine x_get C kf_X1_30 cput_41 rfl dX1_keep_43 ?_
  refine x_iconst (v := 1) C dX1_keep_46 (by decide) ?_
  refine x_iadd C dX1_keep_47 ?_
  refine x_mmin C kl_X1_33 kz_smin ki_math kz_cmin (Nat.le_of_ble_eq_true rfl) (Nat.le_of_ble_eq_true rfl) (Nat.le_of_ble_eq_true rfl) (Nat.le_of_ble_eq_true rfl) dX1_keep_48 ?_
  refine x_put (ty := .int) C kf_X1_30 cput_41 rfl (by decide +kernel) rfl rfl (Nat.le_of_ble_eq_true rfl) cput_s dX1_keep_51 ?_
  exact x_vret C Z dX1_keep_54 (Nat.le_of_ble_eq_true rfl) (Nat.le_of_ble_eq_true rfl) rfl (congrArg (fun q => cput E σ B _ _ q len tx) (min6 hz))
