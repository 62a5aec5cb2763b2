set_option maxRecDepth 100000 in
set_option maxHeartbeats 1000000 in
theorem c_X4_ifMet_ok {l : Launch} {E : xEnv} {B N : Nat} {σ : Sg} {VV : Cs} {p z n : Nat} {tx : Fn}{k1 : Nat} (hk1 : k1 < 8) (hp1 : VV 0 10 k1 = 1){k2 : Nat} (hk2 : k2 < 8) (hp2 : VV 0 10 k2 = 1) {m : Nat} (hm : m < 6) {j : Nat} (hj : j < 4) (hne : k1 ≠ k2) (hs : sok (VV 0)) : xM l yX4_ifMet cX4_ifMet 8 (some .int) 5 118 0 0 E B [.ref B, .int (nI k1), .int (nI k2), .int (nI m), .int (nI j)] N (cput E σ B VV (nI p) (nI z) (nI n) tx) N (cput E σ B (upV VV 1 (mtV (cpV (VV 1) (VV 0)) k1 k2 m)) (nI p) (nI z) (nI n) tx) (some (.int (imS (cpV (VV 1) (VV 0)) k1 k2 m j))) := by
  rcases (show j = 0 ∨ j = 1 ∨ j = 2 ∨ j = 3 by omega) with rfl | rfl | rfl | rfl
  · refine xM_of [some (.ref _), some (.int _), some (.int _), some (.int _), some (.int _), none, none, none] (by decide +kernel) (Nat.le_of_ble_eq_true rfl) rfl (fun k0 C Z => ?_)
    refine x_aload_n C dX4_ifMet_0 rfl ?_
    refine x_get C kf_X4_10 cput_0 rfl dX4_ifMet_1 ?_
    refine x_iload_n C dX4_ifMet_4 rfl ?_
    refine x_callV C (c_X3_find_some hk1 hp1) kv_X3_find kl_X4_45 dX4_ifMet_5 cput_h0 (cput_is0 rfl) (cput_is0 rfl).symm rfl rfl (Nat.le_of_ble_eq_true rfl) (Nat.le_of_ble_eq_true rfl) (Nat.le_of_ble_eq_true rfl) (Nat.le_of_ble_eq_true rfl) (Nat.le_of_ble_eq_true rfl) ?_
    refine x_ifnull C dX4_ifMet_8 ?_
    refine x_aload_n C dX4_ifMet_11 rfl ?_
    refine x_get C kf_X4_10 cput_0 rfl dX4_ifMet_12 ?_
    refine x_iload_n C dX4_ifMet_15 rfl ?_
    refine x_callV C (c_X3_find_some hk2 hp2) kv_X3_find kl_X4_45 dX4_ifMet_16 cput_h0 (cput_is0 rfl) (cput_is0 rfl).symm rfl rfl (Nat.le_of_ble_eq_true rfl) (Nat.le_of_ble_eq_true rfl) (Nat.le_of_ble_eq_true rfl) (Nat.le_of_ble_eq_true rfl) (Nat.le_of_ble_eq_true rfl) ?_
    refine x_ifnull C dX4_ifMet_19 ?_
    refine x_iload_n C dX4_ifMet_22 rfl ?_
    refine x_callS C (c_X4_isMeaning _) ks_X4_isMeaning kl_X4_80 dX4_ifMet_23 rfl rfl rfl rfl (Nat.le_of_ble_eq_true rfl) (Nat.le_of_ble_eq_true rfl) (Nat.le_of_ble_eq_true rfl) (Nat.le_of_ble_eq_true rfl) (Nat.le_of_ble_eq_true rfl) ?_
    refine x_bne C 31 dX4_ifMet_26 (by decide) (fun _ => ?_) (fun h => absurd (bd_in (c := 6) hm (by decide)) h)
    refine x_iload C dX4_ifMet_31 rfl ?_
    refine x_iconst (v := 4) C dX4_ifMet_33 (by decide) ?_
    refine x_callS C (c_X4_isBelow _ _) ks_X4_isBelow kl_X4_57 dX4_ifMet_34 rfl rfl rfl rfl (Nat.le_of_ble_eq_true rfl) (Nat.le_of_ble_eq_true rfl) (Nat.le_of_ble_eq_true rfl) (Nat.le_of_ble_eq_true rfl) (Nat.le_of_ble_eq_true rfl) ?_
    refine x_bne C 43 dX4_ifMet_37 (by decide) (fun _ => ?_) (fun h => absurd (bd_in (c := 4) hj (by decide)) h)
    refine x_iload_n C dX4_ifMet_43 rfl ?_
    refine x_iload_n C dX4_ifMet_44 rfl ?_
    refine x_ic_ne C 51 dX4_ifMet_45 (by decide) (fun _ => ?_) (fun h => absurd h (nI_neL (by omega) (by omega) hne))
    refine x_aload_n C dX4_ifMet_51 rfl ?_
    refine x_get C kf_X4_16 cput_0 rfl dX4_ifMet_52 ?_
    refine x_aload_n C dX4_ifMet_55 rfl ?_
    refine x_get C kf_X4_10 cput_0 rfl dX4_ifMet_56 ?_
    refine x_callV C (c_X3_copyFrom (V := VV 1) (W := VV 0) (by omega)) kv_X3_copyFrom kl_X4_143 dX4_ifMet_59 cput_h1 cput_t1 cput_t2 rfl rfl (Nat.le_of_ble_eq_true rfl) (Nat.le_of_ble_eq_true rfl) (Nat.le_of_ble_eq_true rfl) (Nat.le_of_ble_eq_true rfl) (Nat.le_of_ble_eq_true rfl) ?_
    refine x_aload_n C dX4_ifMet_62 rfl ?_
    refine x_get C kf_X4_16 cput_0 rfl dX4_ifMet_63 ?_
    refine x_iload_n C dX4_ifMet_66 rfl ?_
    refine x_callV C (c_X3_find_some hk1 ((cpV_k (Or.inl rfl) hk1).trans hp1)) kv_X3_find kl_X4_45 dX4_ifMet_67 cput_h1 (cput_is1 upV_s) (cput_is1 upV_s).symm rfl rfl (Nat.le_of_ble_eq_true rfl) (Nat.le_of_ble_eq_true rfl) (Nat.le_of_ble_eq_true rfl) (Nat.le_of_ble_eq_true rfl) (Nat.le_of_ble_eq_true rfl) ?_
    refine x_astore C dX4_ifMet_70 (by decide) rfl ?_
    refine x_aload_n C dX4_ifMet_72 rfl ?_
    refine x_get C kf_X4_16 cput_0 rfl dX4_ifMet_73 ?_
    refine x_iload_n C dX4_ifMet_76 rfl ?_
    refine x_callV C (c_X3_find_some hk2 ((cpV_k (Or.inl rfl) hk2).trans hp2)) kv_X3_find kl_X4_45 dX4_ifMet_77 cput_h1 (cput_is1 upV_s) (cput_is1 upV_s).symm rfl rfl (Nat.le_of_ble_eq_true rfl) (Nat.le_of_ble_eq_true rfl) (Nat.le_of_ble_eq_true rfl) (Nat.le_of_ble_eq_true rfl) (Nat.le_of_ble_eq_true rfl) ?_
    refine x_astore C dX4_ifMet_80 (by decide) rfl ?_
    refine x_aload C dX4_ifMet_82 rfl ?_
    refine x_ifnull C dX4_ifMet_84 ?_
    refine x_aload C dX4_ifMet_87 rfl ?_
    refine x_ifnn C 94 dX4_ifMet_89 (by decide) ?_
    refine x_aload_n C dX4_ifMet_94 rfl ?_
    refine x_get C kf_X4_16 cput_0 rfl dX4_ifMet_95 ?_
    refine x_aload C dX4_ifMet_98 rfl ?_
    refine x_aload C dX4_ifMet_100 rfl ?_
    refine x_iload_n C dX4_ifMet_102 rfl ?_
    refine x_callV C (c_X3_holdMeeting hk1 hk2 hm (cpV_ok hs)) kv_X3_holdMeeting kl_X4_98 dX4_ifMet_103 cput_h1 (cput_is1 upV_s) cput_w1 rfl rfl (Nat.le_of_ble_eq_true rfl) (Nat.le_of_ble_eq_true rfl) (Nat.le_of_ble_eq_true rfl) (Nat.le_of_ble_eq_true rfl) (Nat.le_of_ble_eq_true rfl) ?_
    refine x_istore C dX4_ifMet_106 (by decide) rfl ?_
    refine x_iload C dX4_ifMet_108 rfl ?_
    refine x_tbI C 136 dX4_ifMet_110 (by decide) (by decide) rfl (by decide) ?_
    refine x_iload C dX4_ifMet_136 rfl ?_
    refine x_bipush (v := 10) C dX4_ifMet_138 (by decide) ?_
    refine x_idiv C dX4_ifMet_140 (by decide) ?_
    exact x_zret C Z dX4_ifMet_141 rfl (Nat.le_of_ble_eq_true rfl) (Nat.le_of_ble_eq_true rfl) rfl (congrArg (fun q => cput E σ B q _ _ _ _) upV_u) ((o10 mt1_w mt1_h).trans imS_0.symm)
  · refine xM_of [some (.ref _), some (.int _), some (.int _), some (.int _), some (.int _), none, none, none] (by decide +kernel) (Nat.le_of_ble_eq_true rfl) rfl (fun k0 C Z => ?_)
    refine x_aload_n C dX4_ifMet_0 rfl ?_
    refine x_get C kf_X4_10 cput_0 rfl dX4_ifMet_1 ?_
    refine x_iload_n C dX4_ifMet_4 rfl ?_
    refine x_callV C (c_X3_find_some hk1 hp1) kv_X3_find kl_X4_45 dX4_ifMet_5 cput_h0 (cput_is0 rfl) (cput_is0 rfl).symm rfl rfl (Nat.le_of_ble_eq_true rfl) (Nat.le_of_ble_eq_true rfl) (Nat.le_of_ble_eq_true rfl) (Nat.le_of_ble_eq_true rfl) (Nat.le_of_ble_eq_true rfl) ?_
    refine x_ifnull C dX4_ifMet_8 ?_
    refine x_aload_n C dX4_ifMet_11 rfl ?_
    refine x_get C kf_X4_10 cput_0 rfl dX4_ifMet_12 ?_
    refine x_iload_n C dX4_ifMet_15 rfl ?_
    refine x_callV C (c_X3_find_some hk2 hp2) kv_X3_find kl_X4_45 dX4_ifMet_16 cput_h0 (cput_is0 rfl) (cput_is0 rfl).symm rfl rfl (Nat.le_of_ble_eq_true rfl) (Nat.le_of_ble_eq_true rfl) (Nat.le_of_ble_eq_true rfl) (Nat.le_of_ble_eq_true rfl) (Nat.le_of_ble_eq_true rfl) ?_
    refine x_ifnull C dX4_ifMet_19 ?_
    refine x_iload_n C dX4_ifMet_22 rfl ?_
    refine x_callS C (c_X4_isMeaning _) ks_X4_isMeaning kl_X4_80 dX4_ifMet_23 rfl rfl rfl rfl (Nat.le_of_ble_eq_true rfl) (Nat.le_of_ble_eq_true rfl) (Nat.le_of_ble_eq_true rfl) (Nat.le_of_ble_eq_true rfl) (Nat.le_of_ble_eq_true rfl) ?_
    refine x_bne C 31 dX4_ifMet_26 (by decide) (fun _ => ?_) (fun h => absurd (bd_in (c := 6) hm (by decide)) h)
    refine x_iload C dX4_ifMet_31 rfl ?_
    refine x_iconst (v := 4) C dX4_ifMet_33 (by decide) ?_
    refine x_callS C (c_X4_isBelow _ _) ks_X4_isBelow kl_X4_57 dX4_ifMet_34 rfl rfl rfl rfl (Nat.le_of_ble_eq_true rfl) (Nat.le_of_ble_eq_true rfl) (Nat.le_of_ble_eq_true rfl) (Nat.le_of_ble_eq_true rfl) (Nat.le_of_ble_eq_true rfl) ?_
    refine x_bne C 43 dX4_ifMet_37 (by decide) (fun _ => ?_) (fun h => absurd (bd_in (c := 4) hj (by decide)) h)
    refine x_iload_n C dX4_ifMet_43 rfl ?_
    refine x_iload_n C dX4_ifMet_44 rfl ?_
    refine x_ic_ne C 51 dX4_ifMet_45 (by decide) (fun _ => ?_) (fun h => absurd h (nI_neL (by omega) (by omega) hne))
    refine x_aload_n C dX4_ifMet_51 rfl ?_
    refine x_get C kf_X4_16 cput_0 rfl dX4_ifMet_52 ?_
    refine x_aload_n C dX4_ifMet_55 rfl ?_
    refine x_get C kf_X4_10 cput_0 rfl dX4_ifMet_56 ?_
    refine x_callV C (c_X3_copyFrom (V := VV 1) (W := VV 0) (by omega)) kv_X3_copyFrom kl_X4_143 dX4_ifMet_59 cput_h1 cput_t1 cput_t2 rfl rfl (Nat.le_of_ble_eq_true rfl) (Nat.le_of_ble_eq_true rfl) (Nat.le_of_ble_eq_true rfl) (Nat.le_of_ble_eq_true rfl) (Nat.le_of_ble_eq_true rfl) ?_
    refine x_aload_n C dX4_ifMet_62 rfl ?_
    refine x_get C kf_X4_16 cput_0 rfl dX4_ifMet_63 ?_
    refine x_iload_n C dX4_ifMet_66 rfl ?_
    refine x_callV C (c_X3_find_some hk1 ((cpV_k (Or.inl rfl) hk1).trans hp1)) kv_X3_find kl_X4_45 dX4_ifMet_67 cput_h1 (cput_is1 upV_s) (cput_is1 upV_s).symm rfl rfl (Nat.le_of_ble_eq_true rfl) (Nat.le_of_ble_eq_true rfl) (Nat.le_of_ble_eq_true rfl) (Nat.le_of_ble_eq_true rfl) (Nat.le_of_ble_eq_true rfl) ?_
    refine x_astore C dX4_ifMet_70 (by decide) rfl ?_
    refine x_aload_n C dX4_ifMet_72 rfl ?_
    refine x_get C kf_X4_16 cput_0 rfl dX4_ifMet_73 ?_
    refine x_iload_n C dX4_ifMet_76 rfl ?_
    refine x_callV C (c_X3_find_some hk2 ((cpV_k (Or.inl rfl) hk2).trans hp2)) kv_X3_find kl_X4_45 dX4_ifMet_77 cput_h1 (cput_is1 upV_s) (cput_is1 upV_s).symm rfl rfl (Nat.le_of_ble_eq_true rfl) (Nat.le_of_ble_eq_true rfl) (Nat.le_of_ble_eq_true rfl) (Nat.le_of_ble_eq_true rfl) (Nat.le_of_ble_eq_true rfl) ?_
    refine x_astore C dX4_ifMet_80 (by decide) rfl ?_
    refine x_aload C dX4_ifMet_82 rfl ?_
    refine x_ifnull C dX4_ifMet_84 ?_
    refine x_aload C dX4_ifMet_87 rfl ?_
    refine x_ifnn C 94 dX4_ifMet_89 (by decide) ?_
    refine x_aload_n C dX4_ifMet_94 rfl ?_
    refine x_get C kf_X4_16 cput_0 rfl dX4_ifMet_95 ?_
    refine x_aload C dX4_ifMet_98 rfl ?_
    refine x_aload C dX4_ifMet_100 rfl ?_
    refine x_iload_n C dX4_ifMet_102 rfl ?_
    refine x_callV C (c_X3_holdMeeting hk1 hk2 hm (cpV_ok hs)) kv_X3_holdMeeting kl_X4_98 dX4_ifMet_103 cput_h1 (cput_is1 upV_s) cput_w1 rfl rfl (Nat.le_of_ble_eq_true rfl) (Nat.le_of_ble_eq_true rfl) (Nat.le_of_ble_eq_true rfl) (Nat.le_of_ble_eq_true rfl) (Nat.le_of_ble_eq_true rfl) ?_
    refine x_istore C dX4_ifMet_106 (by decide) rfl ?_
    refine x_iload C dX4_ifMet_108 rfl ?_
    refine x_tbI C 142 dX4_ifMet_110 (by decide) (by decide) rfl (by decide) ?_
    refine x_iload C dX4_ifMet_142 rfl ?_
    refine x_bipush (v := 10) C dX4_ifMet_144 (by decide) ?_
    refine x_irem C dX4_ifMet_146 (by decide) ?_
    exact x_zret C Z dX4_ifMet_147 rfl (Nat.le_of_ble_eq_true rfl) (Nat.le_of_ble_eq_true rfl) rfl (congrArg (fun q => cput E σ B q _ _ _ _) upV_u) ((o10r mt1_w mt1_h).trans imS_1.symm)
  · refine xM_of [some (.ref _), some (.int _), some (.int _), some (.int _), some (.int _), none, none, none] (by decide +kernel) (Nat.le_of_ble_eq_true rfl) rfl (fun k0 C Z => ?_)
    refine x_aload_n C dX4_ifMet_0 rfl ?_
    refine x_get C kf_X4_10 cput_0 rfl dX4_ifMet_1 ?_
    refine x_iload_n C dX4_ifMet_4 rfl ?_
    refine x_callV C (c_X3_find_some hk1 hp1) kv_X3_find kl_X4_45 dX4_ifMet_5 cput_h0 (cput_is0 rfl) (cput_is0 rfl).symm rfl rfl (Nat.le_of_ble_eq_true rfl) (Nat.le_of_ble_eq_true rfl) (Nat.le_of_ble_eq_true rfl) (Nat.le_of_ble_eq_true rfl) (Nat.le_of_ble_eq_true rfl) ?_
    refine x_ifnull C dX4_ifMet_8 ?_
    refine x_aload_n C dX4_ifMet_11 rfl ?_
    refine x_get C kf_X4_10 cput_0 rfl dX4_ifMet_12 ?_
    refine x_iload_n C dX4_ifMet_15 rfl ?_
    refine x_callV C (c_X3_find_some hk2 hp2) kv_X3_find kl_X4_45 dX4_ifMet_16 cput_h0 (cput_is0 rfl) (cput_is0 rfl).symm rfl rfl (Nat.le_of_ble_eq_true rfl) (Nat.le_of_ble_eq_true rfl) (Nat.le_of_ble_eq_true rfl) (Nat.le_of_ble_eq_true rfl) (Nat.le_of_ble_eq_true rfl) ?_
    refine x_ifnull C dX4_ifMet_19 ?_
    refine x_iload_n C dX4_ifMet_22 rfl ?_
    refine x_callS C (c_X4_isMeaning _) ks_X4_isMeaning kl_X4_80 dX4_ifMet_23 rfl rfl rfl rfl (Nat.le_of_ble_eq_true rfl) (Nat.le_of_ble_eq_true rfl) (Nat.le_of_ble_eq_true rfl) (Nat.le_of_ble_eq_true rfl) (Nat.le_of_ble_eq_true rfl) ?_
    refine x_bne C 31 dX4_ifMet_26 (by decide) (fun _ => ?_) (fun h => absurd (bd_in (c := 6) hm (by decide)) h)
    refine x_iload C dX4_ifMet_31 rfl ?_
    refine x_iconst (v := 4) C dX4_ifMet_33 (by decide) ?_
    refine x_callS C (c_X4_isBelow _ _) ks_X4_isBelow kl_X4_57 dX4_ifMet_34 rfl rfl rfl rfl (Nat.le_of_ble_eq_true rfl) (Nat.le_of_ble_eq_true rfl) (Nat.le_of_ble_eq_true rfl) (Nat.le_of_ble_eq_true rfl) (Nat.le_of_ble_eq_true rfl) ?_
    refine x_bne C 43 dX4_ifMet_37 (by decide) (fun _ => ?_) (fun h => absurd (bd_in (c := 4) hj (by decide)) h)
    refine x_iload_n C dX4_ifMet_43 rfl ?_
    refine x_iload_n C dX4_ifMet_44 rfl ?_
    refine x_ic_ne C 51 dX4_ifMet_45 (by decide) (fun _ => ?_) (fun h => absurd h (nI_neL (by omega) (by omega) hne))
    refine x_aload_n C dX4_ifMet_51 rfl ?_
    refine x_get C kf_X4_16 cput_0 rfl dX4_ifMet_52 ?_
    refine x_aload_n C dX4_ifMet_55 rfl ?_
    refine x_get C kf_X4_10 cput_0 rfl dX4_ifMet_56 ?_
    refine x_callV C (c_X3_copyFrom (V := VV 1) (W := VV 0) (by omega)) kv_X3_copyFrom kl_X4_143 dX4_ifMet_59 cput_h1 cput_t1 cput_t2 rfl rfl (Nat.le_of_ble_eq_true rfl) (Nat.le_of_ble_eq_true rfl) (Nat.le_of_ble_eq_true rfl) (Nat.le_of_ble_eq_true rfl) (Nat.le_of_ble_eq_true rfl) ?_
    refine x_aload_n C dX4_ifMet_62 rfl ?_
    refine x_get C kf_X4_16 cput_0 rfl dX4_ifMet_63 ?_
    refine x_iload_n C dX4_ifMet_66 rfl ?_
    refine x_callV C (c_X3_find_some hk1 ((cpV_k (Or.inl rfl) hk1).trans hp1)) kv_X3_find kl_X4_45 dX4_ifMet_67 cput_h1 (cput_is1 upV_s) (cput_is1 upV_s).symm rfl rfl (Nat.le_of_ble_eq_true rfl) (Nat.le_of_ble_eq_true rfl) (Nat.le_of_ble_eq_true rfl) (Nat.le_of_ble_eq_true rfl) (Nat.le_of_ble_eq_true rfl) ?_
    refine x_astore C dX4_ifMet_70 (by decide) rfl ?_
    refine x_aload_n C dX4_ifMet_72 rfl ?_
    refine x_get C kf_X4_16 cput_0 rfl dX4_ifMet_73 ?_
    refine x_iload_n C dX4_ifMet_76 rfl ?_
    refine x_callV C (c_X3_find_some hk2 ((cpV_k (Or.inl rfl) hk2).trans hp2)) kv_X3_find kl_X4_45 dX4_ifMet_77 cput_h1 (cput_is1 upV_s) (cput_is1 upV_s).symm rfl rfl (Nat.le_of_ble_eq_true rfl) (Nat.le_of_ble_eq_true rfl) (Nat.le_of_ble_eq_true rfl) (Nat.le_of_ble_eq_true rfl) (Nat.le_of_ble_eq_true rfl) ?_
    refine x_astore C dX4_ifMet_80 (by decide) rfl ?_
    refine x_aload C dX4_ifMet_82 rfl ?_
    refine x_ifnull C dX4_ifMet_84 ?_
    refine x_aload C dX4_ifMet_87 rfl ?_
    refine x_ifnn C 94 dX4_ifMet_89 (by decide) ?_
    refine x_aload_n C dX4_ifMet_94 rfl ?_
    refine x_get C kf_X4_16 cput_0 rfl dX4_ifMet_95 ?_
    refine x_aload C dX4_ifMet_98 rfl ?_
    refine x_aload C dX4_ifMet_100 rfl ?_
    refine x_iload_n C dX4_ifMet_102 rfl ?_
    refine x_callV C (c_X3_holdMeeting hk1 hk2 hm (cpV_ok hs)) kv_X3_holdMeeting kl_X4_98 dX4_ifMet_103 cput_h1 (cput_is1 upV_s) cput_w1 rfl rfl (Nat.le_of_ble_eq_true rfl) (Nat.le_of_ble_eq_true rfl) (Nat.le_of_ble_eq_true rfl) (Nat.le_of_ble_eq_true rfl) (Nat.le_of_ble_eq_true rfl) ?_
    refine x_istore C dX4_ifMet_106 (by decide) rfl ?_
    refine x_iload C dX4_ifMet_108 rfl ?_
    refine x_tbI C 148 dX4_ifMet_110 (by decide) (by decide) rfl (by decide) ?_
    refine x_iload C dX4_ifMet_148 rfl ?_
    refine x_bipush (v := 10) C dX4_ifMet_150 (by decide) ?_
    refine x_irem C dX4_ifMet_152 (by decide) ?_
    refine x_iload_n C dX4_ifMet_153 rfl ?_
    refine x_ic_ne C 161 dX4_ifMet_154 (by decide) (fun h154 => ?_) (fun h154 => ?_)
    · refine x_iconst (v := 0) C dX4_ifMet_161 (by decide) ?_
      exact x_zret C Z dX4_ifMet_162 rfl (Nat.le_of_ble_eq_true rfl) (Nat.le_of_ble_eq_true rfl) rfl (congrArg (fun q => cput E σ B q _ _ _ _) upV_u) (imS_2f h154)
    · refine x_iconst (v := 1) C dX4_ifMet_157 (by decide) ?_
      refine x_goto C 162 dX4_ifMet_158 (by decide) ?_
      exact x_zret C Z dX4_ifMet_162 rfl (Nat.le_of_ble_eq_true rfl) (Nat.le_of_ble_eq_true rfl) rfl (congrArg (fun q => cput E σ B q _ _ _ _) upV_u) (imS_2t hm h154)
  · refine xM_of [some (.ref _), some (.int _), some (.int _), some (.int _), some (.int _), none, none, none] (by decide +kernel) (Nat.le_of_ble_eq_true rfl) rfl (fun k0 C Z => ?_)
    refine x_aload_n C dX4_ifMet_0 rfl ?_
    refine x_get C kf_X4_10 cput_0 rfl dX4_ifMet_1 ?_
    refine x_iload_n C dX4_ifMet_4 rfl ?_
    refine x_callV C (c_X3_find_some hk1 hp1) kv_X3_find kl_X4_45 dX4_ifMet_5 cput_h0 (cput_is0 rfl) (cput_is0 rfl).symm rfl rfl (Nat.le_of_ble_eq_true rfl) (Nat.le_of_ble_eq_true rfl) (Nat.le_of_ble_eq_true rfl) (Nat.le_of_ble_eq_true rfl) (Nat.le_of_ble_eq_true rfl) ?_
    refine x_ifnull C dX4_ifMet_8 ?_
    refine x_aload_n C dX4_ifMet_11 rfl ?_
    refine x_get C kf_X4_10 cput_0 rfl dX4_ifMet_12 ?_
    refine x_iload_n C dX4_ifMet_15 rfl ?_
    refine x_callV C (c_X3_find_some hk2 hp2) kv_X3_find kl_X4_45 dX4_ifMet_16 cput_h0 (cput_is0 rfl) (cput_is0 rfl).symm rfl rfl (Nat.le_of_ble_eq_true rfl) (Nat.le_of_ble_eq_true rfl) (Nat.le_of_ble_eq_true rfl) (Nat.le_of_ble_eq_true rfl) (Nat.le_of_ble_eq_true rfl) ?_
    refine x_ifnull C dX4_ifMet_19 ?_
    refine x_iload_n C dX4_ifMet_22 rfl ?_
    refine x_callS C (c_X4_isMeaning _) ks_X4_isMeaning kl_X4_80 dX4_ifMet_23 rfl rfl rfl rfl (Nat.le_of_ble_eq_true rfl) (Nat.le_of_ble_eq_true rfl) (Nat.le_of_ble_eq_true rfl) (Nat.le_of_ble_eq_true rfl) (Nat.le_of_ble_eq_true rfl) ?_
    refine x_bne C 31 dX4_ifMet_26 (by decide) (fun _ => ?_) (fun h => absurd (bd_in (c := 6) hm (by decide)) h)
    refine x_iload C dX4_ifMet_31 rfl ?_
    refine x_iconst (v := 4) C dX4_ifMet_33 (by decide) ?_
    refine x_callS C (c_X4_isBelow _ _) ks_X4_isBelow kl_X4_57 dX4_ifMet_34 rfl rfl rfl rfl (Nat.le_of_ble_eq_true rfl) (Nat.le_of_ble_eq_true rfl) (Nat.le_of_ble_eq_true rfl) (Nat.le_of_ble_eq_true rfl) (Nat.le_of_ble_eq_true rfl) ?_
    refine x_bne C 43 dX4_ifMet_37 (by decide) (fun _ => ?_) (fun h => absurd (bd_in (c := 4) hj (by decide)) h)
    refine x_iload_n C dX4_ifMet_43 rfl ?_
    refine x_iload_n C dX4_ifMet_44 rfl ?_
    refine x_ic_ne C 51 dX4_ifMet_45 (by decide) (fun _ => ?_) (fun h => absurd h (nI_neL (by omega) (by omega) hne))
    refine x_aload_n C dX4_ifMet_51 rfl ?_
    refine x_get C kf_X4_16 cput_0 rfl dX4_ifMet_52 ?_
    refine x_aload_n C dX4_ifMet_55 rfl ?_
    refine x_get C kf_X4_10 cput_0 rfl dX4_ifMet_56 ?_
    refine x_callV C (c_X3_copyFrom (V := VV 1) (W := VV 0) (by omega)) kv_X3_copyFrom kl_X4_143 dX4_ifMet_59 cput_h1 cput_t1 cput_t2 rfl rfl (Nat.le_of_ble_eq_true rfl) (Nat.le_of_ble_eq_true rfl) (Nat.le_of_ble_eq_true rfl) (Nat.le_of_ble_eq_true rfl) (Nat.le_of_ble_eq_true rfl) ?_
    refine x_aload_n C dX4_ifMet_62 rfl ?_
    refine x_get C kf_X4_16 cput_0 rfl dX4_ifMet_63 ?_
    refine x_iload_n C dX4_ifMet_66 rfl ?_
    refine x_callV C (c_X3_find_some hk1 ((cpV_k (Or.inl rfl) hk1).trans hp1)) kv_X3_find kl_X4_45 dX4_ifMet_67 cput_h1 (cput_is1 upV_s) (cput_is1 upV_s).symm rfl rfl (Nat.le_of_ble_eq_true rfl) (Nat.le_of_ble_eq_true rfl) (Nat.le_of_ble_eq_true rfl) (Nat.le_of_ble_eq_true rfl) (Nat.le_of_ble_eq_true rfl) ?_
    refine x_astore C dX4_ifMet_70 (by decide) rfl ?_
    refine x_aload_n C dX4_ifMet_72 rfl ?_
    refine x_get C kf_X4_16 cput_0 rfl dX4_ifMet_73 ?_
    refine x_iload_n C dX4_ifMet_76 rfl ?_
    refine x_callV C (c_X3_find_some hk2 ((cpV_k (Or.inl rfl) hk2).trans hp2)) kv_X3_find kl_X4_45 dX4_ifMet_77 cput_h1 (cput_is1 upV_s) (cput_is1 upV_s).symm rfl rfl (Nat.le_of_ble_eq_true rfl) (Nat.le_of_ble_eq_true rfl) (Nat.le_of_ble_eq_true rfl) (Nat.le_of_ble_eq_true rfl) (Nat.le_of_ble_eq_true rfl) ?_
    refine x_astore C dX4_ifMet_80 (by decide) rfl ?_
    refine x_aload C dX4_ifMet_82 rfl ?_
    refine x_ifnull C dX4_ifMet_84 ?_
    refine x_aload C dX4_ifMet_87 rfl ?_
    refine x_ifnn C 94 dX4_ifMet_89 (by decide) ?_
    refine x_aload_n C dX4_ifMet_94 rfl ?_
    refine x_get C kf_X4_16 cput_0 rfl dX4_ifMet_95 ?_
    refine x_aload C dX4_ifMet_98 rfl ?_
    refine x_aload C dX4_ifMet_100 rfl ?_
    refine x_iload_n C dX4_ifMet_102 rfl ?_
    refine x_callV C (c_X3_holdMeeting hk1 hk2 hm (cpV_ok hs)) kv_X3_holdMeeting kl_X4_98 dX4_ifMet_103 cput_h1 (cput_is1 upV_s) cput_w1 rfl rfl (Nat.le_of_ble_eq_true rfl) (Nat.le_of_ble_eq_true rfl) (Nat.le_of_ble_eq_true rfl) (Nat.le_of_ble_eq_true rfl) (Nat.le_of_ble_eq_true rfl) ?_
    refine x_istore C dX4_ifMet_106 (by decide) rfl ?_
    refine x_iload C dX4_ifMet_108 rfl ?_
    refine x_tbO C 163 dX4_ifMet_110 (Or.inr (by decide)) (by decide) ?_
    refine x_aload C dX4_ifMet_163 rfl ?_
    refine x_aload C dX4_ifMet_165 rfl ?_
    refine x_callS C (c_X4_agreementByMeanings hk1 hk2) ks_X4_agreementByMeanings kl_X4_130 dX4_ifMet_167 (cput_is1 upV_s) (cput_is1 upV_s).symm rfl rfl (Nat.le_of_ble_eq_true rfl) (Nat.le_of_ble_eq_true rfl) (Nat.le_of_ble_eq_true rfl) (Nat.le_of_ble_eq_true rfl) (Nat.le_of_ble_eq_true rfl) ?_
    exact x_zret C Z dX4_ifMet_170 rfl (Nat.le_of_ble_eq_true rfl) (Nat.le_of_ble_eq_true rfl) rfl (congrArg (fun q => cput E σ B q _ _ _ _) upV_u) imS_3.symm
set_option maxRecDepth 100000 in
set_option maxHeartbeats 1000000 in
theorem c_X4_ifMet_n1 {l : Launch} {E : xEnv} {B N : Nat} {σ : Sg} {VV : Cs} {p z n : Nat} {tx : Fn}{x : Int32} (hno : ¬ ∃ k, k < 8 ∧ x = nI k ∧ VV 0 10 k = 1) {y m w : Int32} : xM l yX4_ifMet cX4_ifMet 8 (some .int) 5 118 0 0 E B [.ref B, .int x, .int y, .int m, .int w] N (cput E σ B VV (nI p) (nI z) (nI n) tx) N (cput E σ B VV (nI p) (nI z) (nI n) tx) (some (.int (-1))) := by
  refine xM_of [some (.ref _), some (.int _), some (.int _), some (.int _), some (.int _), none, none, none] (by decide +kernel) (Nat.le_of_ble_eq_true rfl) rfl (fun k0 C Z => ?_)
  refine x_aload_n C dX4_ifMet_0 rfl ?_
  refine x_get C kf_X4_10 cput_0 rfl dX4_ifMet_1 ?_
  refine x_iload_n C dX4_ifMet_4 rfl ?_
  refine x_callV C (c_X3_find_none hno) kv_X3_find kl_X4_45 dX4_ifMet_5 cput_h0 (cput_is0 rfl) (cput_is0 rfl).symm rfl rfl (Nat.le_of_ble_eq_true rfl) (Nat.le_of_ble_eq_true rfl) (Nat.le_of_ble_eq_true rfl) (Nat.le_of_ble_eq_true rfl) (Nat.le_of_ble_eq_true rfl) ?_
  refine x_ifnullN C 29 dX4_ifMet_8 (by decide) ?_
  refine x_iconst (v := (-1)) C dX4_ifMet_29 (by decide) ?_
  exact x_zret C Z dX4_ifMet_30 rfl (Nat.le_of_ble_eq_true rfl) (Nat.le_of_ble_eq_true rfl) rfl rfl rfl
set_option maxRecDepth 100000 in
set_option maxHeartbeats 1000000 in
theorem c_X4_ifMet_n2 {l : Launch} {E : xEnv} {B N : Nat} {σ : Sg} {VV : Cs} {p z n : Nat} {tx : Fn}{k1 : Nat} (hk1 : k1 < 8) (hp1 : VV 0 10 k1 = 1){y : Int32} (hny : ¬ ∃ k, k < 8 ∧ y = nI k ∧ VV 0 10 k = 1) {m w : Int32} : xM l yX4_ifMet cX4_ifMet 8 (some .int) 5 118 0 0 E B [.ref B, .int (nI k1), .int y, .int m, .int w] N (cput E σ B VV (nI p) (nI z) (nI n) tx) N (cput E σ B VV (nI p) (nI z) (nI n) tx) (some (.int (-1))) := by
  refine xM_of [some (.ref _), some (.int _), some (.int _), some (.int _), some (.int _), none, none, none] (by decide +kernel) (Nat.le_of_ble_eq_true rfl) rfl (fun k0 C Z => ?_)
  refine x_aload_n C dX4_ifMet_0 rfl ?_
  refine x_get C kf_X4_10 cput_0 rfl dX4_ifMet_1 ?_
  refine x_iload_n C dX4_ifMet_4 rfl ?_
  refine x_callV C (c_X3_find_some hk1 hp1) kv_X3_find kl_X4_45 dX4_ifMet_5 cput_h0 (cput_is0 rfl) (cput_is0 rfl).symm rfl rfl (Nat.le_of_ble_eq_true rfl) (Nat.le_of_ble_eq_true rfl) (Nat.le_of_ble_eq_true rfl) (Nat.le_of_ble_eq_true rfl) (Nat.le_of_ble_eq_true rfl) ?_
  refine x_ifnull C dX4_ifMet_8 ?_
  refine x_aload_n C dX4_ifMet_11 rfl ?_
  refine x_get C kf_X4_10 cput_0 rfl dX4_ifMet_12 ?_
  refine x_iload_n C dX4_ifMet_15 rfl ?_
  refine x_callV C (c_X3_find_none hny) kv_X3_find kl_X4_45 dX4_ifMet_16 cput_h0 (cput_is0 rfl) (cput_is0 rfl).symm rfl rfl (Nat.le_of_ble_eq_true rfl) (Nat.le_of_ble_eq_true rfl) (Nat.le_of_ble_eq_true rfl) (Nat.le_of_ble_eq_true rfl) (Nat.le_of_ble_eq_true rfl) ?_
  refine x_ifnullN C 29 dX4_ifMet_19 (by decide) ?_
  refine x_iconst (v := (-1)) C dX4_ifMet_29 (by decide) ?_
  exact x_zret C Z dX4_ifMet_30 rfl (Nat.le_of_ble_eq_true rfl) (Nat.le_of_ble_eq_true rfl) rfl rfl rfl
set_option maxRecDepth 100000 in
set_option maxHeartbeats 1000000 in
theorem c_X4_ifMet_n3 {l : Launch} {E : xEnv} {B N : Nat} {σ : Sg} {VV : Cs} {p z n : Nat} {tx : Fn}{k1 : Nat} (hk1 : k1 < 8) (hp1 : VV 0 10 k1 = 1){k2 : Nat} (hk2 : k2 < 8) (hp2 : VV 0 10 k2 = 1) {m w : Int32} (hb : ¬ (0 ≤ m ∧ m < 6)) : xM l yX4_ifMet cX4_ifMet 8 (some .int) 5 118 0 0 E B [.ref B, .int (nI k1), .int (nI k2), .int m, .int w] N (cput E σ B VV (nI p) (nI z) (nI n) tx) N (cput E σ B VV (nI p) (nI z) (nI n) tx) (some (.int (-1))) := by
  refine xM_of [some (.ref _), some (.int _), some (.int _), some (.int _), some (.int _), none, none, none] (by decide +kernel) (Nat.le_of_ble_eq_true rfl) rfl (fun k0 C Z => ?_)
  refine x_aload_n C dX4_ifMet_0 rfl ?_
  refine x_get C kf_X4_10 cput_0 rfl dX4_ifMet_1 ?_
  refine x_iload_n C dX4_ifMet_4 rfl ?_
  refine x_callV C (c_X3_find_some hk1 hp1) kv_X3_find kl_X4_45 dX4_ifMet_5 cput_h0 (cput_is0 rfl) (cput_is0 rfl).symm rfl rfl (Nat.le_of_ble_eq_true rfl) (Nat.le_of_ble_eq_true rfl) (Nat.le_of_ble_eq_true rfl) (Nat.le_of_ble_eq_true rfl) (Nat.le_of_ble_eq_true rfl) ?_
  refine x_ifnull C dX4_ifMet_8 ?_
  refine x_aload_n C dX4_ifMet_11 rfl ?_
  refine x_get C kf_X4_10 cput_0 rfl dX4_ifMet_12 ?_
  refine x_iload_n C dX4_ifMet_15 rfl ?_
  refine x_callV C (c_X3_find_some hk2 hp2) kv_X3_find kl_X4_45 dX4_ifMet_16 cput_h0 (cput_is0 rfl) (cput_is0 rfl).symm rfl rfl (Nat.le_of_ble_eq_true rfl) (Nat.le_of_ble_eq_true rfl) (Nat.le_of_ble_eq_true rfl) (Nat.le_of_ble_eq_true rfl) (Nat.le_of_ble_eq_true rfl) ?_
  refine x_ifnull C dX4_ifMet_19 ?_
  refine x_iload_n C dX4_ifMet_22 rfl ?_
  refine x_callS C (c_X4_isMeaning _) ks_X4_isMeaning kl_X4_80 dX4_ifMet_23 rfl rfl rfl rfl (Nat.le_of_ble_eq_true rfl) (Nat.le_of_ble_eq_true rfl) (Nat.le_of_ble_eq_true rfl) (Nat.le_of_ble_eq_true rfl) (Nat.le_of_ble_eq_true rfl) ?_
  refine x_bne C 31 dX4_ifMet_26 (by decide) (fun h => absurd h hb) (fun _ => ?_)
  refine x_iconst (v := (-1)) C dX4_ifMet_29 (by decide) ?_
  exact x_zret C Z dX4_ifMet_30 rfl (Nat.le_of_ble_eq_true rfl) (Nat.le_of_ble_eq_true rfl) rfl rfl rfl
set_option maxRecDepth 100000 in
set_option maxHeartbeats 1000000 in
theorem c_X4_ifMet_bad {l : Launch} {E : xEnv} {B N : Nat} {σ : Sg} {VV : Cs} {p z n : Nat} {tx : Fn}{k1 : Nat} (hk1 : k1 < 8) (hp1 : VV 0 10 k1 = 1){k2 : Nat} (hk2 : k2 < 8) (hp2 : VV 0 10 k2 = 1) {m : Nat} (hm : m < 6) {w : Int32} (hb : ¬ (0 ≤ w ∧ w < 4)) : xM l yX4_ifMet cX4_ifMet 8 (some .int) 5 118 0 0 E B [.ref B, .int (nI k1), .int (nI k2), .int (nI m), .int w] N (cput E σ B VV (nI p) (nI z) (nI n) tx) N (cput E σ B VV (nI p) (nI z) (nI n) tx) (some (.int (-2))) := by
  refine xM_of [some (.ref _), some (.int _), some (.int _), some (.int _), some (.int _), none, none, none] (by decide +kernel) (Nat.le_of_ble_eq_true rfl) rfl (fun k0 C Z => ?_)
  refine x_aload_n C dX4_ifMet_0 rfl ?_
  refine x_get C kf_X4_10 cput_0 rfl dX4_ifMet_1 ?_
  refine x_iload_n C dX4_ifMet_4 rfl ?_
  refine x_callV C (c_X3_find_some hk1 hp1) kv_X3_find kl_X4_45 dX4_ifMet_5 cput_h0 (cput_is0 rfl) (cput_is0 rfl).symm rfl rfl (Nat.le_of_ble_eq_true rfl) (Nat.le_of_ble_eq_true rfl) (Nat.le_of_ble_eq_true rfl) (Nat.le_of_ble_eq_true rfl) (Nat.le_of_ble_eq_true rfl) ?_
  refine x_ifnull C dX4_ifMet_8 ?_
  refine x_aload_n C dX4_ifMet_11 rfl ?_
  refine x_get C kf_X4_10 cput_0 rfl dX4_ifMet_12 ?_
  refine x_iload_n C dX4_ifMet_15 rfl ?_
  refine x_callV C (c_X3_find_some hk2 hp2) kv_X3_find kl_X4_45 dX4_ifMet_16 cput_h0 (cput_is0 rfl) (cput_is0 rfl).symm rfl rfl (Nat.le_of_ble_eq_true rfl) (Nat.le_of_ble_eq_true rfl) (Nat.le_of_ble_eq_true rfl) (Nat.le_of_ble_eq_true rfl) (Nat.le_of_ble_eq_true rfl) ?_
  refine x_ifnull C dX4_ifMet_19 ?_
  refine x_iload_n C dX4_ifMet_22 rfl ?_
  refine x_callS C (c_X4_isMeaning _) ks_X4_isMeaning kl_X4_80 dX4_ifMet_23 rfl rfl rfl rfl (Nat.le_of_ble_eq_true rfl) (Nat.le_of_ble_eq_true rfl) (Nat.le_of_ble_eq_true rfl) (Nat.le_of_ble_eq_true rfl) (Nat.le_of_ble_eq_true rfl) ?_
  refine x_bne C 31 dX4_ifMet_26 (by decide) (fun _ => ?_) (fun h => absurd (bd_in (c := 6) hm (by decide)) h)
  refine x_iload C dX4_ifMet_31 rfl ?_
  refine x_iconst (v := 4) C dX4_ifMet_33 (by decide) ?_
  refine x_callS C (c_X4_isBelow _ _) ks_X4_isBelow kl_X4_57 dX4_ifMet_34 rfl rfl rfl rfl (Nat.le_of_ble_eq_true rfl) (Nat.le_of_ble_eq_true rfl) (Nat.le_of_ble_eq_true rfl) (Nat.le_of_ble_eq_true rfl) (Nat.le_of_ble_eq_true rfl) ?_
  refine x_bne C 43 dX4_ifMet_37 (by decide) (fun h => absurd h hb) (fun _ => ?_)
  refine x_bipush (v := (-2)) C dX4_ifMet_40 (by decide) ?_
  exact x_zret C Z dX4_ifMet_42 rfl (Nat.le_of_ble_eq_true rfl) (Nat.le_of_ble_eq_true rfl) rfl rfl rfl
set_option maxRecDepth 100000 in
set_option maxHeartbeats 1000000 in
theorem c_X4_ifMet_same {l : Launch} {E : xEnv} {B N : Nat} {σ : Sg} {VV : Cs} {p z n : Nat} {tx : Fn}{k1 : Nat} (hk1 : k1 < 8) (hp1 : VV 0 10 k1 = 1) {m : Nat} (hm : m < 6) {j : Nat} (hj : j < 4) : xM l yX4_ifMet cX4_ifMet 8 (some .int) 5 118 0 0 E B [.ref B, .int (nI k1), .int (nI k1), .int (nI m), .int (nI j)] N (cput E σ B VV (nI p) (nI z) (nI n) tx) N (cput E σ B VV (nI p) (nI z) (nI n) tx) (some (.int (-3))) := by
  refine xM_of [some (.ref _), some (.int _), some (.int _), some (.int _), some (.int _), none, none, none] (by decide +kernel) (Nat.le_of_ble_eq_true rfl) rfl (fun k0 C Z => ?_)
  refine x_aload_n C dX4_ifMet_0 rfl ?_
  refine x_get C kf_X4_10 cput_0 rfl dX4_ifMet_1 ?_
  refine x_iload_n C dX4_ifMet_4 rfl ?_
  refine x_callV C (c_X3_find_some hk1 hp1) kv_X3_find kl_X4_45 dX4_ifMet_5 cput_h0 (cput_is0 rfl) (cput_is0 rfl).symm rfl rfl (Nat.le_of_ble_eq_true rfl) (Nat.le_of_ble_eq_true rfl) (Nat.le_of_ble_eq_true rfl) (Nat.le_of_ble_eq_true rfl) (Nat.le_of_ble_eq_true rfl) ?_
  refine x_ifnull C dX4_ifMet_8 ?_
  refine x_aload_n C dX4_ifMet_11 rfl ?_
  refine x_get C kf_X4_10 cput_0 rfl dX4_ifMet_12 ?_
  refine x_iload_n C dX4_ifMet_15 rfl ?_
  refine x_callV C (c_X3_find_some hk1 hp1) kv_X3_find kl_X4_45 dX4_ifMet_16 cput_h0 (cput_is0 rfl) (cput_is0 rfl).symm rfl rfl (Nat.le_of_ble_eq_true rfl) (Nat.le_of_ble_eq_true rfl) (Nat.le_of_ble_eq_true rfl) (Nat.le_of_ble_eq_true rfl) (Nat.le_of_ble_eq_true rfl) ?_
  refine x_ifnull C dX4_ifMet_19 ?_
  refine x_iload_n C dX4_ifMet_22 rfl ?_
  refine x_callS C (c_X4_isMeaning _) ks_X4_isMeaning kl_X4_80 dX4_ifMet_23 rfl rfl rfl rfl (Nat.le_of_ble_eq_true rfl) (Nat.le_of_ble_eq_true rfl) (Nat.le_of_ble_eq_true rfl) (Nat.le_of_ble_eq_true rfl) (Nat.le_of_ble_eq_true rfl) ?_
  refine x_bne C 31 dX4_ifMet_26 (by decide) (fun _ => ?_) (fun h => absurd (bd_in (c := 6) hm (by decide)) h)
  refine x_iload C dX4_ifMet_31 rfl ?_
  refine x_iconst (v := 4) C dX4_ifMet_33 (by decide) ?_
  refine x_callS C (c_X4_isBelow _ _) ks_X4_isBelow kl_X4_57 dX4_ifMet_34 rfl rfl rfl rfl (Nat.le_of_ble_eq_true rfl) (Nat.le_of_ble_eq_true rfl) (Nat.le_of_ble_eq_true rfl) (Nat.le_of_ble_eq_true rfl) (Nat.le_of_ble_eq_true rfl) ?_
  refine x_bne C 43 dX4_ifMet_37 (by decide) (fun _ => ?_) (fun h => absurd (bd_in (c := 4) hj (by decide)) h)
  refine x_iload_n C dX4_ifMet_43 rfl ?_
  refine x_iload_n C dX4_ifMet_44 rfl ?_
  refine x_ic_ne C 51 dX4_ifMet_45 (by decide) (fun h => absurd rfl h) (fun _ => ?_)
  refine x_bipush (v := (-3)) C dX4_ifMet_48 (by decide) ?_
  exact x_zret C Z dX4_ifMet_50 rfl (Nat.le_of_ble_eq_true rfl) (Nat.le_of_ble_eq_true rfl) rfl rfl rfl
set_option maxRecDepth 100000 in
set_option maxHeartbeats 1000000 in
theorem c_X4_bestSayer_ok {l : Launch} {E : xEnv} {B N : Nat} {σ : Sg} {VV : Cs} {p z n : Nat} {tx : Fn}{k : Nat} (hk : k < 8) (hp1 : VV 0 10 k = 1) : xM l yX4_bestSayer cX4_bestSayer 8 (some .int) 4 91 0 0 E B [.ref B, .int (nI k)] N (cput E σ B VV (nI p) (nI z) (nI n) tx) N (cput E σ B VV (nI p) (nI z) (nI n) tx) (some (.int (oI (bsL (VV 0) k 8)))) := by
  refine xM_of [some (.ref _), some (.int _), none, none, none, none, none, none] (by decide +kernel) (Nat.le_of_ble_eq_true rfl) rfl (fun k0 C Z => ?_)
  have hl : ∀ i, i ≤ 8 → xX k0 N 0 0 (cput E σ B VV (nI p) (nI z) (nI n) tx) 24 [some (.ref B), some (.int (nI k)), some (.ref (B + 1 + 2 + 2 * k)), some (.int (oI (bsL (VV 0) k i))), some (.int (bsG (VV 0) k (bsL (VV 0) k i))), some (.int (nI i)), none, none] [] := by
    refine x_for 8 ?_ ?_
    · refine x_iload C dX4_bestSayer_24 rfl ?_
      refine x_bipush (v := 8) C dX4_bestSayer_26 (by decide) ?_
      refine x_ic_ge C 84 dX4_bestSayer_28 (by decide) (fun _ => ?_) (fun h => absurd (nI_le (a := 8) (Nat.le_refl _) (by omega)) h)
      refine x_iload_n C dX4_bestSayer_84 rfl ?_
      exact x_zret C Z dX4_bestSayer_85 rfl (Nat.le_of_ble_eq_true rfl) (Nat.le_of_ble_eq_true rfl) rfl rfl rfl
    · intro i hi ih
      refine x_iload C dX4_bestSayer_24 rfl ?_
      refine x_bipush (v := 8) C dX4_bestSayer_26 (by decide) ?_
      refine x_ic_ge C 84 dX4_bestSayer_28 (by decide) (fun h => absurd h (nI_ge (b := 8) hi (by omega))) (fun _ => ?_)
      cases hy : bsL (VV 0) k i with
      | none =>
        refine x_aload_n C dX4_bestSayer_31 rfl ?_
        refine x_get C kf_X4_10 cput_0 rfl dX4_bestSayer_32 ?_
        by_cases hi1 : VV 0 10 i = 1
        · skip
          refine x_iload C dX4_bestSayer_35 rfl ?_
          refine x_callV C (c_X3_find_some hi hi1) kv_X3_find kl_X4_45 dX4_bestSayer_37 cput_h0 (cput_is0 rfl) (cput_is0 rfl).symm rfl rfl (Nat.le_of_ble_eq_true rfl) (Nat.le_of_ble_eq_true rfl) (Nat.le_of_ble_eq_true rfl) (Nat.le_of_ble_eq_true rfl) (Nat.le_of_ble_eq_true rfl) ?_
          refine x_astore C dX4_bestSayer_40 (by decide) rfl ?_
          refine x_aload C dX4_bestSayer_42 rfl ?_
          refine x_ifnull C dX4_bestSayer_44 ?_
          refine x_iload C dX4_bestSayer_47 rfl ?_
          refine x_iload_n C dX4_bestSayer_49 rfl ?_
          refine x_ic_ne C 56 dX4_bestSayer_50 (by decide) (fun h50 => ?_) (fun h50 => ?_)
          · refine x_aload C dX4_bestSayer_56 rfl ?_
            refine x_aload_n C dX4_bestSayer_58 rfl ?_
            refine x_callS C (c_X4_understandingOf hi hk) ks_X4_understandingOf kl_X4_137 dX4_bestSayer_59 (cput_is0 rfl) (cput_is0 rfl).symm rfl rfl (Nat.le_of_ble_eq_true rfl) (Nat.le_of_ble_eq_true rfl) (Nat.le_of_ble_eq_true rfl) (Nat.le_of_ble_eq_true rfl) (Nat.le_of_ble_eq_true rfl) ?_
            refine x_istore C dX4_bestSayer_62 (by decide) rfl ?_
            refine x_iload C dX4_bestSayer_64 rfl ?_
            refine x_iload C dX4_bestSayer_66 rfl ?_
            refine x_ic_le C 78 dX4_bestSayer_68 (by decide) (fun h => absurd h (nI_nm1 (by have := unN_le (V := VV 0) (s := i) (h := k) 6; omega))) (fun _ => ?_)
            refine x_iload C dX4_bestSayer_71 rfl ?_
            refine x_istore C dX4_bestSayer_73 (by decide) rfl ?_
            refine x_iload C dX4_bestSayer_75 rfl ?_
            refine x_istore_n C dX4_bestSayer_77 (by decide) rfl ?_
            refine x_iinc C dX4_bestSayer_78 rfl (nI_inc _) (by decide) rfl ?_
            refine x_goto C 24 dX4_bestSayer_81 (by decide) ?_
            refine xX.cl ih rfl (And.intro rfl (And.intro rfl (And.intro rfl (And.intro ?_ (And.intro ?_ (And.intro rfl trivial)))))) rfl
            all_goals (rw [bsL_n hi1 (fun z => h50 (by rw [z])) hy]; rfl)
          · refine x_goto C 78 dX4_bestSayer_53 (by decide) ?_
            refine x_iinc C dX4_bestSayer_78 rfl (nI_inc _) (by decide) rfl ?_
            refine x_goto C 24 dX4_bestSayer_81 (by decide) ?_
            refine xX.cl ih rfl (And.intro rfl (And.intro rfl (And.intro rfl (And.intro ?_ (And.intro ?_ (And.intro rfl trivial)))))) rfl
            all_goals (rw [bsL_sk (Or.inr ((nI_eq (by omega) (by omega)).mp h50)), hy]; rfl)
        · skip
          refine x_iload C dX4_bestSayer_35 rfl ?_
          refine x_callV C (c_X3_find_none (no_f hi hi1)) kv_X3_find kl_X4_45 dX4_bestSayer_37 cput_h0 (cput_is0 rfl) (cput_is0 rfl).symm rfl rfl (Nat.le_of_ble_eq_true rfl) (Nat.le_of_ble_eq_true rfl) (Nat.le_of_ble_eq_true rfl) (Nat.le_of_ble_eq_true rfl) (Nat.le_of_ble_eq_true rfl) ?_
          refine x_astoreN C dX4_bestSayer_40 (by decide) rfl ?_
          refine x_aloadN C dX4_bestSayer_42 rfl ?_
          refine x_ifnullN C 78 dX4_bestSayer_44 (by decide) ?_
          refine x_iinc C dX4_bestSayer_78 rfl (nI_inc _) (by decide) rfl ?_
          refine x_goto C 24 dX4_bestSayer_81 (by decide) ?_
          refine xX.cl ih rfl (And.intro rfl (And.intro rfl (And.intro rfl (And.intro ?_ (And.intro ?_ (And.intro rfl trivial)))))) rfl
          all_goals (rw [bsL_sk (Or.inl hi1), hy]; rfl)
      | some y =>
        have hy8 := bsL_in hy
        refine x_aload_n C dX4_bestSayer_31 rfl ?_
        refine x_get C kf_X4_10 cput_0 rfl dX4_bestSayer_32 ?_
        by_cases hi1 : VV 0 10 i = 1
        · skip
          refine x_iload C dX4_bestSayer_35 rfl ?_
          refine x_callV C (c_X3_find_some hi hi1) kv_X3_find kl_X4_45 dX4_bestSayer_37 cput_h0 (cput_is0 rfl) (cput_is0 rfl).symm rfl rfl (Nat.le_of_ble_eq_true rfl) (Nat.le_of_ble_eq_true rfl) (Nat.le_of_ble_eq_true rfl) (Nat.le_of_ble_eq_true rfl) (Nat.le_of_ble_eq_true rfl) ?_
          refine x_astore C dX4_bestSayer_40 (by decide) rfl ?_
          refine x_aload C dX4_bestSayer_42 rfl ?_
          refine x_ifnull C dX4_bestSayer_44 ?_
          refine x_iload C dX4_bestSayer_47 rfl ?_
          refine x_iload_n C dX4_bestSayer_49 rfl ?_
          refine x_ic_ne C 56 dX4_bestSayer_50 (by decide) (fun h50 => ?_) (fun h50 => ?_)
          · refine x_aload C dX4_bestSayer_56 rfl ?_
            refine x_aload_n C dX4_bestSayer_58 rfl ?_
            refine x_callS C (c_X4_understandingOf hi hk) ks_X4_understandingOf kl_X4_137 dX4_bestSayer_59 (cput_is0 rfl) (cput_is0 rfl).symm rfl rfl (Nat.le_of_ble_eq_true rfl) (Nat.le_of_ble_eq_true rfl) (Nat.le_of_ble_eq_true rfl) (Nat.le_of_ble_eq_true rfl) (Nat.le_of_ble_eq_true rfl) ?_
            refine x_istore C dX4_bestSayer_62 (by decide) rfl ?_
            refine x_iload C dX4_bestSayer_64 rfl ?_
            refine x_iload C dX4_bestSayer_66 rfl ?_
            refine x_ic_le C 78 dX4_bestSayer_68 (by decide) (fun h68 => ?_) (fun h68 => ?_)
            · refine x_iinc C dX4_bestSayer_78 rfl (nI_inc _) (by decide) rfl ?_
              refine x_goto C 24 dX4_bestSayer_81 (by decide) ?_
              refine xX.cl ih rfl (And.intro rfl (And.intro rfl (And.intro rfl (And.intro ?_ (And.intro ?_ (And.intro rfl trivial)))))) rfl
              all_goals (rw [bsL_k hi1 (fun z => h50 (by rw [z])) hy ((nI_leI (by have := unN_le (V := VV 0) (s := i) (h := k) 6; omega) (by have := unN_le (V := VV 0) (s := y) (h := k) 6; omega)).mp h68)]; rfl)
            · refine x_iload C dX4_bestSayer_71 rfl ?_
              refine x_istore C dX4_bestSayer_73 (by decide) rfl ?_
              refine x_iload C dX4_bestSayer_75 rfl ?_
              refine x_istore_n C dX4_bestSayer_77 (by decide) rfl ?_
              refine x_iinc C dX4_bestSayer_78 rfl (nI_inc _) (by decide) rfl ?_
              refine x_goto C 24 dX4_bestSayer_81 (by decide) ?_
              refine xX.cl ih rfl (And.intro rfl (And.intro rfl (And.intro rfl (And.intro ?_ (And.intro ?_ (And.intro rfl trivial)))))) rfl
              all_goals (rw [bsL_u hi1 (fun z => h50 (by rw [z])) hy (fun z => h68 ((nI_leI (by have := unN_le (V := VV 0) (s := i) (h := k) 6; omega) (by have := unN_le (V := VV 0) (s := y) (h := k) 6; omega)).mpr z))]; rfl)
          · refine x_goto C 78 dX4_bestSayer_53 (by decide) ?_
            refine x_iinc C dX4_bestSayer_78 rfl (nI_inc _) (by decide) rfl ?_
            refine x_goto C 24 dX4_bestSayer_81 (by decide) ?_
            refine xX.cl ih rfl (And.intro rfl (And.intro rfl (And.intro rfl (And.intro ?_ (And.intro ?_ (And.intro rfl trivial)))))) rfl
            all_goals (rw [bsL_sk (Or.inr ((nI_eq (by omega) (by omega)).mp h50)), hy]; rfl)
        · skip
          refine x_iload C dX4_bestSayer_35 rfl ?_
          refine x_callV C (c_X3_find_none (no_f hi hi1)) kv_X3_find kl_X4_45 dX4_bestSayer_37 cput_h0 (cput_is0 rfl) (cput_is0 rfl).symm rfl rfl (Nat.le_of_ble_eq_true rfl) (Nat.le_of_ble_eq_true rfl) (Nat.le_of_ble_eq_true rfl) (Nat.le_of_ble_eq_true rfl) (Nat.le_of_ble_eq_true rfl) ?_
          refine x_astoreN C dX4_bestSayer_40 (by decide) rfl ?_
          refine x_aloadN C dX4_bestSayer_42 rfl ?_
          refine x_ifnullN C 78 dX4_bestSayer_44 (by decide) ?_
          refine x_iinc C dX4_bestSayer_78 rfl (nI_inc _) (by decide) rfl ?_
          refine x_goto C 24 dX4_bestSayer_81 (by decide) ?_
          refine xX.cl ih rfl (And.intro rfl (And.intro rfl (And.intro rfl (And.intro ?_ (And.intro ?_ (And.intro rfl trivial)))))) rfl
          all_goals (rw [bsL_sk (Or.inl hi1), hy]; rfl)
  refine x_aload_n C dX4_bestSayer_0 rfl ?_
  refine x_get C kf_X4_10 cput_0 rfl dX4_bestSayer_1 ?_
  refine x_iload_n C dX4_bestSayer_4 rfl ?_
  refine x_callV C (c_X3_find_some hk hp1) kv_X3_find kl_X4_45 dX4_bestSayer_5 cput_h0 (cput_is0 rfl) (cput_is0 rfl).symm rfl rfl (Nat.le_of_ble_eq_true rfl) (Nat.le_of_ble_eq_true rfl) (Nat.le_of_ble_eq_true rfl) (Nat.le_of_ble_eq_true rfl) (Nat.le_of_ble_eq_true rfl) ?_
  refine x_astore_n C dX4_bestSayer_8 (by decide) rfl ?_
  refine x_aload_n C dX4_bestSayer_9 rfl ?_
  refine x_ifnn C 15 dX4_bestSayer_10 (by decide) ?_
  refine x_bipush (v := (-6)) C dX4_bestSayer_15 (by decide) ?_
  refine x_istore_n C dX4_bestSayer_17 (by decide) rfl ?_
  refine x_iconst (v := (-1)) C dX4_bestSayer_18 (by decide) ?_
  refine x_istore C dX4_bestSayer_19 (by decide) rfl ?_
  refine x_iconst (v := 0) C dX4_bestSayer_21 (by decide) ?_
  refine x_istore C dX4_bestSayer_22 (by decide) rfl ?_
  refine xX.cl (hl 0 (by omega)) rfl (And.intro rfl (And.intro rfl (And.intro rfl (And.intro rfl (And.intro rfl (And.intro rfl trivial)))))) rfl
set_option maxRecDepth 100000 in
set_option maxHeartbeats 1000000 in
theorem c_X4_bestSayer_no {l : Launch} {E : xEnv} {B N : Nat} {σ : Sg} {VV : Cs} {p z n : Nat} {tx : Fn}{x : Int32} (hno : ¬ ∃ k, k < 8 ∧ x = nI k ∧ VV 0 10 k = 1) : xM l yX4_bestSayer cX4_bestSayer 8 (some .int) 4 91 0 0 E B [.ref B, .int x] N (cput E σ B VV (nI p) (nI z) (nI n) tx) N (cput E σ B VV (nI p) (nI z) (nI n) tx) (some (.int (-1))) := by
  refine xM_of [some (.ref _), some (.int _), none, none, none, none, none, none] (by decide +kernel) (Nat.le_of_ble_eq_true rfl) rfl (fun k0 C Z => ?_)
  refine x_aload_n C dX4_bestSayer_0 rfl ?_
  refine x_get C kf_X4_10 cput_0 rfl dX4_bestSayer_1 ?_
  refine x_iload_n C dX4_bestSayer_4 rfl ?_
  refine x_callV C (c_X3_find_none hno) kv_X3_find kl_X4_45 dX4_bestSayer_5 cput_h0 (cput_is0 rfl) (cput_is0 rfl).symm rfl rfl (Nat.le_of_ble_eq_true rfl) (Nat.le_of_ble_eq_true rfl) (Nat.le_of_ble_eq_true rfl) (Nat.le_of_ble_eq_true rfl) (Nat.le_of_ble_eq_true rfl) ?_
  refine x_astore_nN C dX4_bestSayer_8 (by decide) rfl ?_
  refine x_aload_nN C dX4_bestSayer_9 rfl ?_
  refine x_ifnnN C dX4_bestSayer_10 ?_
  refine x_iconst (v := (-1)) C dX4_bestSayer_13 (by decide) ?_
  exact x_zret C Z dX4_bestSayer_14 rfl (Nat.le_of_ble_eq_true rfl) (Nat.le_of_ble_eq_true rfl) rfl rfl rfl
