set_option maxRecDepth 100000 in
set_option maxHeartbeats 1000000 in
theorem c_X4_ifMet_ok {l : Launch} {E : xEnv} {B N : Nat} {σ : Sg} {VV : Cs} {p z n : Nat} {tx : Fn}{k1 : Nat} (hk1 : k1 < 8) (hp1 : VV 0 10 k1 = 1){k2 : Nat} (hk2 : k2 < 8) (hp2 : VV 0 10 k2 = 1) {m : Nat} (hm : m < 6) {j : Nat} (hj : j < 4) (hne : k1 ≠ k2) (hs : sok (VV 0)) : xM l yX4_ifMet cX4_ifMet 8 (some .int) 5 118 0 0 E B [.ref B, .int (nI k1), .int (nI k2), .int (nI m), .int (nI j)] N (cput E σ B VV (nI p) (nI z) (nI n) tx) N (cput E σ B (upV VV 1 (mtV (cpV (VV 1) (VV 0)) k1 k2 m)) (nI p) (nI z) (nI n) tx) (some (.int (imS (cpV (VV 1) (VV 0)) k1 k2 m j))) := by
  rcases (show j = 0 ∨ j = 1 ∨ j = 2 ∨ j = 3 by omega) with rfl | rfl | rfl | rfl
  · refine xM_of [some (.ref _), some (.int _), some (.int _), some (.int _), some (.int _), none, none, none] (by decide +kernel) (Nat.le_of_ble_eq_true rfl) rfl (fun k0 C Z => ?_)
    refine x_aload_n C dX4_ifMet_0 rfl ?_
    refine x_get C kf_X4_10 cput_0 rfl dX4_ifMet_1 ?_
    refine x_iload_n C dX4_ifMet_4 rfl ?_
    refine x_callV C (c_X3_find_some hk1 hp1) kv_X3_find kl_X4_45 dX4_ifMet_5 cput_h0 (cput_is0 rfl) (cput_is0 rfl).symm rfl rfl (Nat.le_of_ble_eq_true rfl) (Nat.le_of_ble_eq_true rfl) (Nat.le_of_ble_eq_true rfl) (Nat.le_of_ble_eq_true rfl) (Nat.le_of_ble_eq_true rfl) ?_
    refine x_ifnull C dX4_ifMet_8 ?_
    refine x_aload_n C dX4_ifMet_11 rfl ?_
    refine x_get C kf_X4_10 cput_0 rfl dX4_ifMet_12 ?_
    refine x_iload_n C dX4_ifMet_15 rfl ?_
    refine x_callV C (c_X3_find_some hk2 hp2) kv_X3_find kl_X4_45 dX4_ifMet_16 cput_h0 (cput_is0 rfl) (cput_is0 rfl).symm rfl rfl (Nat.le_of_ble_eq_true rfl) (Nat.le_of_ble_eq_true rfl) (Nat.le_of_ble_eq_true rfl) (Nat.le_of_ble_eq_true rfl) (Nat.le_of_ble_eq_true rfl) ?_
    refine x_ifnull C dX4_ifMet_19 ?_
    refine x_iload_n C dX4_ifMet_22 rfl ?_
    refine x_callS C (c_X4_isMeaning _) ks_X4_isMeaning kl_X4_80 dX4_ifMet_23 rfl rfl rfl rfl (Nat.le_of_ble_eq_true rfl) (Nat.le_of_ble_eq_true rfl) (Nat.le_of_ble_eq_true rfl) (Nat.le_of_ble_eq_true rfl) (Nat.le_of_ble_eq_true rfl) ?_
    refine x_bne C 31 dX4_ifMet_26 (by decide) (fun _ => ?_) (fun h => absurd (bd_in (c := 6) hm (by decide)) h)
    refine x_iload C dX4_ifMet_31 rfl ?_
    refine x_iconst (v := 4) C dX4_ifMet_33 (by decide) ?_
    refine x_callS C (c_X4_isBelow _ _) ks_X4_isBelow kl_X4_57 dX4_ifMet_34 rfl rfl rfl rfl (Nat.le_of_ble_eq_true rfl) (Nat.le_of_ble_eq_true rfl) (Nat.le_of_ble_eq_true rfl) (Nat.le_of_ble_eq_true rfl) (Nat.le_of_ble_eq_true rfl) ?_
    refine x_bne C 43 dX4_ifMet_37 (by decide) (fun _ => ?_) (fun h => absurd (bd_in (c := 4) hj (by decide)) h)
    refine x_iload_n C dX4_ifMet_43 rfl ?_
    refine x_iload_n C dX4_ifMet_44 rfl ?_
    refine x_ic_ne C 51 dX4_ifMet_45 (by decide) (fun _ => ?_) (fun h => absurd h (nI_neL (by omega) (by omega) hne))
    refine x_aload_n C dX4_ifMet_51 rfl ?_
    refine x_get C kf_X4_16 cput_0 rfl dX4_ifMet_52 ?_
    refine x_aload_n C dX4_ifMet_55 rfl ?_
    refine x_get C kf_X4_10 cput_0 rfl dX4_ifMet_56 ?_
    refine x_callV C (c_X3_copyFrom (V := VV 1) (W := VV 0) (by omega)) kv_X3_copyFrom kl_X4_143 dX4_ifMet_59 cput_h1 cput_t1 cput_t2 rfl rfl (Nat.le_of_ble_eq_true rfl) (Nat.le_of_ble_eq_true rfl) (Nat.le_of_ble_eq_true rfl) (Nat.le_of_ble_eq_true rfl) (Nat.le_of_ble_eq_true rfl) ?_
    refine x_aload_n C dX4_ifMet_62 rfl ?_
    refine x_get C kf_X4_16 cput_0 rfl dX4_ifMet_63 ?_
    refine x_iload_n C dX4_ifMet_66 rfl ?_
    refine x_callV C (c_X3_find_some hk1 ((cpV_k (Or.inl rfl) hk1).trans hp1)) kv_X3_find kl_X4_45 dX4_ifMet_67 cput_h1 (cput_is1 upV_s) (cput_is1 upV_s).symm rfl rfl (Nat.le_of_ble_eq_true rfl) (Nat.le_of_ble_eq_true rfl) (Nat.le_of_ble_eq_true rfl) (Nat.le_of_ble_eq_true rfl) (Nat.le_of_ble_eq_true rfl) ?_
    refine x_astore C dX4_ifMet_70 (by decide) rfl ?_
    refine x_aload_n C dX4_ifMet_72 rfl ?_
    refine x_get C kf_X4_16 cput_0 rfl dX4_ifMet_73 ?_
    refine x_iload_n C dX4_ifMet_76 rfl ?_
    refine x_callV C (c_X3_find_some hk2 ((cpV_k (Or.inl rfl) hk2).trans hp2)) kv_X3_find kl_X4_45 dX4_ifMet_77 cput_h1 (cput_is1 upV_s) (cput_is1 upV_s).symm rfl rfl (Nat.le_of_ble_eq_true rfl) (Nat.le_of_ble_eq_true rfl) (Nat.le_of_ble_eq_true rfl) (Nat.le_of_ble_eq_true rfl) (Nat.le_of_ble_eq_true rfl) ?_
    refine x_astore C dX4_ifMet_80 (by decide) rfl ?_
    refine x_aload C dX4_ifMet_82 rfl ?_
    refine x_ifnull C dX4_ifMet_84 ?_
    refine x_aload C dX4_ifMet_87 rfl ?_
    refine x_ifnn C 94 dX4_ifMet_89 (by decide) ?_
    refine x_aload_n C dX4_ifMet_94 rfl ?_
    refine x_get C kf_X4_16 cput_0 rfl dX4_ifMet_95 ?_
    refine x_aload C dX4_ifMet_98 rfl ?_
    refine x_aload C dX4_ifMet_100 rfl ?_
    refine x_iload_n C dX4_ifMet_102 rfl ?_
    refine x_callV C (c_X3_holdMeeting hk1 hk2 hm (cpV_ok hs)) kv_X3_holdMeeting kl_X4_98 dX4_ifMet_103 cput_h1 (cput_is1 upV_s) cput_w1 rfl rfl (Nat.le_of_ble_eq_true rfl) (Nat.le_of_ble_eq_true rfl) (Nat.le_of_ble_eq_true rfl) (Nat.le_of_ble_eq_true rfl) (Nat.le_of_ble_eq_true rfl) ?_
    refine x_istore C dX4_ifMet_106 (by decide) rfl ?_
    refine x_iload C dX4_ifMet_108 rfl ?_
    refine x_tbI C 136 dX4_ifMet_110 (by decide) (by decide) rfl (by decide) ?_
    refine x_iload C dX4_ifMet_136 rfl ?_
    refine x_bipush (v := 10) C dX4_ifMet_138 (by decide) ?_
    refine x_idiv C dX4_ifMet_140 (by decide) ?_
    exact x_zret C Z dX4_ifMet_141 rfl (Nat.le_of_ble_eq_true rfl) (Nat.le_of_ble_eq_true rfl) rfl (congrArg (fun q => cput E σ B q _ _ _ _) upV_u) ((o10 mt1_w mt1_h).trans imS_0.symm)
  · refine xM_of [some (.ref _), some (.int _), some (.int _), some (.int _), some (.int _), none, none, none] (by decide +kernel) (Nat.le_of_ble_eq_true rfl) rfl (fun k0 C Z => ?_)
    refine x_aload_n C dX4_ifMet_0 rfl ?_
    refine x_get C kf_X4_10 cput_0 rfl dX4_ifMet_1 ?_
    refine x_iload_n C dX4_ifMet_4 rfl ?_
    refine x_callV C (c_X3_find_some hk1 hp1) kv_X3_find kl_X4_45 dX4_ifMet_5 cput_h0 (cput_is0 rfl) (cput_is0 rfl).symm rfl rfl (Nat.le_of_ble_eq_true rfl) (Nat.le_of_ble_eq_true rfl) (Nat.le_of_ble_eq_true rfl) (Nat.le_of_ble_eq_true rfl) (Nat.le_of_ble_eq_true rfl) ?_
    refine x_ifnull C dX4_ifMet_8 ?_
    refine x_aload_n C dX4_ifMet_11 rfl ?_
    refine x_get C kf_X4_10 cput_0 rfl dX4_ifMet_12 ?_
    refine x_iload_n C dX4_ifMet_15 rfl ?_
    refine x_callV C (c_X3_find_some hk2 hp2) kv_X3_find kl_X4_45 dX4_ifMet_16 cput_h0 (cput_is0 rfl) (cput_is0 rfl).symm rfl rfl (Nat.le_of_ble_eq_true rfl) (Nat.le_of_ble_eq_true rfl) (Nat.le_of_ble_eq_true rfl) (Nat.le_of_ble_eq_true rfl) (Nat.le_of_ble_eq_true rfl) ?_
    refine x_ifnull C dX4_ifMet_19 ?_
    refine x_iload_n C dX4_ifMet_22 rfl ?_
    refine x_callS C (c_X4_isMeaning _) ks_X4_isMeaning kl_X4_80 dX4_ifMet_23 rfl rfl rfl rfl (Nat.le_of_ble_eq_true rfl) (Nat.le_of_ble_eq_true rfl) (Nat.le_of_ble_eq_true rfl) (Nat.le_of_ble_eq_true rfl) (Nat.le_of_ble_eq_true rfl) ?_
    refine x_bne C 31 dX4_ifMet_26 (by decide) (fun _ => ?_) (fun h => absurd (bd_in (c := 6) hm (by decide)) h)
    refine x_iload C dX4_ifMet_31 rfl ?_
    refine x_iconst (v := 4) C dX4_ifMet_33 (by decide) ?_
    refine x_callS C (c_X4_isBelow _ _) ks_X4_isBelow kl_X4_57 dX4_ifMet_34 rfl rfl rfl rfl (Nat.le_of_ble_eq_true rfl) (Nat.le_of_ble_eq_true rfl) (Nat.le_of_ble_eq_true rfl) (Nat.le_of_ble_eq_true rfl) (Nat.le_of_ble_eq_true rfl) ?_
    refine x_bne C 43 dX4_ifMet_37 (by decide) (fun _ => ?_) (fun h => absurd (bd_in (c := 4) hj (by decide)) h)
    refine x_iload_n C dX4_ifMet_43 rfl ?_
    refine x_iload_n C dX4_ifMet_44 rfl ?_
    refine x_ic_ne C 51 dX4_ifMet_45 (by decide) (fun _ => ?_) (fun h => absurd h (nI_neL (by omega) (by omega) hne))
    refine x_aload_n C dX4_ifMet_51 rfl ?_
    refine x_get C kf_X4_16 cput_0 rfl dX4_ifMet_52 ?_
    refine x_aload_n C dX4_ifMet_55 rfl ?_
    refine x_get C kf_X4_10 cput_0 rfl dX4_ifMet_56 ?_
    refine x_callV C (c_X3_copyFrom (V := VV 1) (W := VV 0) (by omega)) kv_X3_copyFrom kl_X4_143 dX4_ifMet_59 cput_h1 cput_t1 cput_t2 rfl rfl (Nat.le_of_ble_eq_true rfl) (Nat.le_of_ble_eq_true rfl) (Nat.le_of_ble_eq_true rfl) (Nat.le_of_ble_eq_true rfl) (Nat.le_of_ble_eq_true rfl) ?_
    refine x_aload_n C dX4_ifMet_62 rfl ?_
    refine x_get C kf_X4_16 cput_0 rfl dX4_ifMet_63 ?_
    refine x_iload_n C dX4_ifMet_66 rfl ?_
    refine x_callV C (c_X3_find_some hk1 ((cpV_k (Or.inl rfl) hk1).trans hp1)) kv_X3_find kl_X4_45 dX4_ifMet_67 cput_h1 (cput_is1 upV_s) (cput_is1 upV_s).symm rfl rfl (Nat.le_of_ble_eq_true rfl) (Nat.le_of_ble_eq_true rfl) (Nat.le_of_ble_eq_true rfl) (Nat.le_of_ble_eq_true rfl) (Nat.le_of_ble_eq_true rfl) ?_
    refine x_astore C dX4_ifMet_70 (by decide) rfl ?_
    refine x_aload_n C dX4_ifMet_72 rfl ?_
    refine x_get C kf_X4_16 cput_0 rfl dX4_ifMet_73 ?_
    refine x_iload_n C dX4_ifMet_76 rfl ?_
    refine x_callV C (c_X3_find_some hk2 ((cpV_k (Or.inl rfl) hk2).trans hp2)) kv_X3_find kl_X4_45 dX4_ifMet_77 cput_h1 (cput_is1 upV_s) (cput_is1 upV_s).symm rfl rfl (Nat.le_of_ble_eq_true rfl) (Nat.le_of_ble_eq_true rfl) (Nat.le_of_ble_eq_true rfl) (Nat.le_of_ble_eq_true rfl) (Nat.le_of_ble_eq_true rfl) ?_
    refine x_astore C dX4_ifMet_80 (by decide) rfl ?_
    refine x_aload C dX4_ifMet_82 rfl ?_
    refine x_ifnull C dX4_ifMet_84 ?_
    refine x_aload C dX4_ifMet_87 rfl ?_
    refine x_ifnn C 94 dX4_ifMet_89 (by decide) ?_
    refine x_aload_n C dX4_ifMet_94 rfl ?_
    refine x_get C kf_X4_16 cput_0 rfl dX4_ifMet_95 ?_
    refine x_aload C dX4_ifMet_98 rfl ?_
    refine x_aload C dX4_ifMet_100 rfl ?_
    refine x_iload_n C dX4_ifMet_102 rfl ?_
    refine x_callV C (c_X3_holdMeeting hk1 hk2 hm (cpV_ok hs)) kv_X3_holdMeeting kl_X4_98 dX4_ifMet_103 cput_h1 (cput_is1 upV_s) cput_w1 rfl rfl (Nat.le_of_ble_eq_true rfl) (Nat.le_of_ble_eq_true rfl) (Nat.le_of_ble_eq_true rfl) (Nat.le_of_ble_eq_true rfl) (Nat.le_of_ble_eq_true rfl) ?_
    refine x_istore C dX4_ifMet_106 (by decide) rfl ?_
    refine x_iload C dX4_ifMet_108 rfl ?_
    refine x_tbI C 142 dX4_ifMet_110 (by decide) (by decide) rfl (by decide) ?_
    refine x_iload C dX4_ifMet_142 rfl ?_
    refine x_bipush (v := 10) C dX4_ifMet_144 (by decide) ?_
    refine x_irem C dX4_ifMet_146 (by decide) ?_
    exact x_zret C Z dX4_ifMet_147 rfl (Nat.le_of_ble_eq_true rfl) (Nat.le_of_ble_eq_true rfl) rfl (congrArg (fun q => cput E σ B q _ _ _ _) upV_u) ((o10r mt1_w mt1_h).trans imS_1.symm)
  · refine xM_of [some (.ref _), some (.int _), some (.int _), some (.int _), some (.int _), none, none, none] (by decide +kernel) (Nat.le_of_ble_eq_true rfl) rfl (fun k0 C Z => ?_)
    refine x_aload_n C dX4_ifMet_0 rfl ?_
    refine x_get C kf_X4_10 cput_0 rfl dX4_ifMet_1 ?_
    refine x_iload_n C dX4_ifMet_4 rfl ?_
    refine x_callV C (c_X3_find_some hk1 hp1) kv_X3_find kl_X4_45 dX4_ifMet_5 cput_h0 (cput_is0 rfl) (cput_is0 rfl).symm rfl rfl (Nat.le_of_ble_eq_true rfl) (Nat.le_of_ble_eq_true rfl) (Nat.le_of_ble_eq_true rfl) (Nat.le_of_ble_eq_true rfl) (Nat.le_of_ble_eq_true rfl) ?_
    refine x_ifnull C dX4_ifMet_8 ?_
    refine x_aload_n C dX4_ifMet_11 rfl ?_
    refine x_get C kf_X4_10 cput_0 rfl dX4_ifMet_12 ?_
    refine x_iload_n C dX4_ifMet_15 rfl ?_
    refine x_callV C (c_X3_find_some hk2 hp2) kv_X3_find kl_X4_45 dX4_ifMet_16 cput_h0 (cput_is0 rfl) (cput_is0 rfl).symm rfl rfl (Nat.le_of_ble_eq_true rfl) (Nat.le_of_ble_eq_true rfl) (Nat.le_of_ble_eq_true rfl) (Nat.le_of_ble_eq_true rfl) (Nat.le_of_ble_eq_true rfl) ?_
    refine x_ifnull C dX4_ifMet_19 ?_
    refine x_iload_n C dX4_ifMet_22 rfl ?_
    refine x_callS C (c_X4_isMeaning _) ks_X4_isMeaning kl_X4_80 dX4_ifMet_23 rfl rfl rfl rfl (Nat.le_of_ble_eq_true rfl) (Nat.le_of_ble_eq_true rfl) (Nat.le_of_ble_eq_true rfl) (Nat.le_of_ble_eq_true rfl) (Nat.le_of_ble_eq_true rfl) ?_
    refine x_bne C 31 dX4_ifMet_26 (by decide) (fun _ => ?_) (fun h => absurd (bd_in (c := 6) hm (by decide)) h)
    refine x_iload C dX4_ifMet_31 rfl ?_
    refine x_iconst (v := 4) C dX4_ifMet_33 (by decide) ?_
    refine x_callS C (c_X4_isBelow _ _) ks_X4_isBelow kl_X4_57 dX4_ifMet_34 rfl rfl rfl rfl (Nat.le_of_ble_eq_true rfl) (Nat.le_of_ble_eq_true rfl) (Nat.le_of_ble_eq_true rfl) (Nat.le_of_ble_eq_true rfl) (Nat.le_of_ble_eq_true rfl) ?_
    refine x_bne C 43 dX4_ifMet_37 (by decide) (fun _ => ?_) (fun h => absurd (bd_in (c := 4) hj (by decide)) h)
    refine x_iload_n C dX4_ifMet_43 rfl ?_
    refine x_iload_n C dX4_ifMet_44 rfl ?_
    refine x_ic_ne C 51 dX4_ifMet_45 (by decide) (fun _ => ?_) (fun h => absurd h (nI_neL (by omega) (by omega) hne))
    refine x_aload_n C dX4_ifMet_51 rfl ?_
    refine x_get C kf_X4_16 cput_0 rfl dX4_ifMet_52 ?_
    refine x_aload_n C dX4_ifMet_55 rfl ?_
    refine x_get C kf_X4_10 cput_0 rfl dX4_ifMet_56 ?_
    refine x_callV C (c_X3_copyFrom (V := VV 1) (W := VV 0) (by omega)) kv_X3_copyFrom kl_X4_143 dX4_ifMet_59 cput_h1 cput_t1 cput_t2 rfl rfl (Nat.le_of_ble_eq_true rfl) (Nat.le_of_ble_eq_true rfl) (Nat.le_of_ble_eq_true rfl) (Nat.le_of_ble_eq_true rfl) (Nat.le_of_ble_eq_true rfl) ?_
    refine x_aload_n C dX4_ifMet_62 rfl ?_
    refine x_get C kf_X4_16 cput_0 rfl dX4_ifMet_63 ?_
    refine x_iload_n C dX4_ifMet_66 rfl ?_
    refine x_callV C (c_X3_find_some hk1 ((cpV_k (Or.inl rfl) hk1).trans hp1)) kv_X3_find kl_X4_45 dX4_ifMet_67 cput_h1 (cput_is1 upV_s) (cput_is1 upV_s).symm rfl rfl (Nat.le_of_ble_eq_true rfl) (Nat.le_of_ble_eq_true rfl) (Nat.le_of_ble_eq_true rfl) (Nat.le_of_ble_eq_true rfl) (Nat.le_of_ble_eq_true rfl) ?_
    refine x_astore C dX4_ifMet_70 (by decide) rfl ?_
    refine x_aload_n C dX4_ifMet_72 rfl ?_
    refine x_get C kf_X4_16 cput_0 rfl dX4_ifMet_73 ?_
    refine x_iload_n C dX4_ifMet_76 rfl ?_
    refine x_callV C (c_X3_find_some hk2 ((cpV_k (Or.inl rfl) hk2).trans hp2)) kv_X3_find kl_X4_45 dX4_ifMet_77 cput_h1 (cput_is1 upV_s) (cput_is1 upV_s).symm rfl rfl (Nat.le_of_ble_eq_true rfl) (Nat.le_of_ble_eq_true rfl) (Nat.le_of_ble_eq_true rfl) (Nat.le_of_ble_eq_true rfl) (Nat.le_of_ble_eq_true rfl) ?_
    refine x_astore C dX4_ifMet_80 (by decide) rfl ?_
    refine x_aload C dX4_ifMet_82 rfl ?_
    refine x_ifnull C dX4_ifMet_84 ?_
    refine x_aload C dX4_ifMet_87 rfl ?_
    refine x_ifnn C 94 dX4_ifMet_89 (by decide) ?_
    refine x_aload_n C dX4_ifMet_94 rfl ?_
    refine x_get C kf_X4_16 cput_0 rfl dX4_ifMet_95 ?_
    refine x_aload C dX4_ifMet_98 rfl ?_
    refine x_aload C dX4_ifMet_100 rfl ?_
    refine x_iload_n C dX4_ifMet_102 rfl ?_
    refine x_callV C (c_X3_holdMeeting hk1 hk2 hm (cpV_ok hs)) kv_X3_holdMeeting kl_X4_98 dX4_ifMet_103 cput_h1 (cput_is1 upV_s) cput_w1 rfl rfl (Nat.le_of_ble_eq_true rfl) (Nat.le_of_ble_eq_true rfl) (Nat.le_of_ble_eq_true rfl) (Nat.le_of_ble_eq_true rfl) (Nat.le_of_ble_eq_true rfl) ?_
    refine x_istore C dX4_ifMet_106 (by decide) rfl ?_
    refine x_iload C dX4_ifMet_108 rfl ?_
    refine x_tbI C 148 dX4_ifMet_110 (by decide) (by decide) rfl (by decide) ?_
    refine x_iload C dX4_ifMet_148 rfl ?_
    refine x_bipush (v := 10) C dX4_ifMet_150 (by decide) ?_
    refine x_irem C dX4_ifMet_152 (by decide) ?_
    refine x_iload_n C dX4_ifMet_153 rfl ?_
    refine x_ic_ne C 161 dX4_ifMet_154 (by decide) (fun h154 => ?_) (fun h154 => ?_)
    · refine x_iconst (v := 0) C dX4_ifMet_161 (by decide) ?_
      exact x_zret C Z dX4_ifMet_162 rfl (Nat.le_of_ble_eq_true rfl) (Nat.le_of_ble_eq_true rfl) rfl (congrArg (fun q => cput E σ B q _ _ _ _) upV_u) (imS_2f h154)
    · refine x_iconst (v := 1) C dX4_ifMet_157 (by decide) ?_
      refine x_goto C 162 dX4_ifMet_158 (by decide) ?_
      exact x_zret C Z dX4_ifMet_162 rfl (Nat.le_of_ble_eq_true rfl) (Nat.le_of_ble_eq_true rfl) rfl (congrArg (fun q => cput E σ B q _ _ _ _) upV_u) (imS_2t hm h154)
  · refine xM_of [some (.ref _), some (.int _), some (.int _), some (.int _), some (.int _), none, none, none] (by decide +kernel) (Nat.le_of_ble_eq_true rfl) rfl (fun k0 C Z => ?_)
    refine x_aload_n C dX4_ifMet_0 rfl ?_
    refine x_get C kf_X4_10 cput_0 rfl dX4_ifMet_1 ?_
    refine x_iload_n C dX4_ifMet_4 rfl ?_
    refine x_callV C (c_X3_find_some hk1 hp1) kv_X3_find kl_X4_45 dX4_ifMet_5 cput_h0 (cput_is0 rfl) (cput_is0 rfl).symm rfl rfl (Nat.le_of_ble_eq_true rfl) (Nat.le_of_ble_eq_true rfl) (Nat.le_of_ble_eq_true rfl) (Nat.le_of_ble_eq_true rfl) (Nat.le_of_ble_eq_true rfl) ?_
    refine x_ifnull C dX4_ifMet_8 ?_
    refine x_aload_n C dX4_ifMet_11 rfl ?_
    refine x_get C kf_X4_10 cput_0 rfl dX4_ifMet_12 ?_
    refine x_iload_n C dX4_ifMet_15 rfl ?_
    refine x_callV C (c_X3_find_some hk2 hp2) kv_X3_find kl_X4_45 dX4_ifMet_16 cput_h0 (cput_is0 rfl) (cput_is0 rfl).symm rfl rfl (Nat.le_of_ble_eq_true rfl) (Nat.le_of_ble_eq_true rfl) (Nat.le_of_ble_eq_true rfl) (Nat.le_of_ble_eq_true rfl) (Nat.le_of_ble_eq_true rfl) ?_
    refine x_ifnull C dX4_ifMet_19 ?_
    refine x_iload_n C dX4_ifMet_22 rfl ?_
    refine x_callS C (c_X4_isMeaning _) ks_X4_isMeaning kl_X4_80 dX4_ifMet_23 rfl rfl rfl rfl (Nat.le_of_ble_eq_true rfl) (Nat.le_of_ble_eq_true rfl) (Nat.le_of_ble_eq_true rfl) (Nat.le_of_ble_eq_true rfl) (Nat.le_of_ble_eq_true rfl) ?_
    refine x_bne C 31 dX4_ifMet_26 (by decide) (fun _ => ?_) (fun h => absurd (bd_in (c := 6) hm (by decide)) h)
    refine x_iload C dX4_ifMet_31 rfl ?_
    refine x_iconst (v := 4) C dX4_ifMet_33 (by decide) ?_
    refine x_callS C (c_X4_isBelow _ _) ks_X4_isBelow kl_X4_57 dX4_ifMet_34 rfl rfl rfl rfl (Nat.le_of_ble_eq_true rfl) (Nat.le_of_ble_eq_true rfl) (Nat.le_of_ble_eq_true rfl) (Nat.le_of_ble_eq_true rfl) (Nat.le_of_ble_eq_true rfl) ?_
    refine x_bne C 43 dX4_ifMet_37 (by decide) (fun _ => ?_) (fun h => absurd (bd_in (c := 4) hj (by decide)) h)
    refine x_iload_n C dX4_ifMet_43 rfl ?_
    refine x_iload_n C dX4_ifMet_44 rfl ?_
    refine x_ic_ne C 51 dX4_ifMet_45 (by decide) (fun _ => ?_) (fun h => absurd h (nI_neL (by omega) (by omega) hne))
    refine x_aload_n C dX4_ifMet_51 rfl ?_
    refine x_get C kf_X4_16 cput_0 rfl dX4_ifMet_52 ?_
    refine x_aload_n C dX4_ifMet_55 rfl ?_
    refine x_get C kf_X4_10 cput_0 rfl dX4_ifMet_56 ?_
    refine x_callV C (c_X3_copyFrom (V := VV 1) (W := VV 0) (by omega)) kv_X3_copyFrom kl_X4_143 dX4_ifMet_59 cput_h1 cput_t1 cput_t2 rfl rfl (Nat.le_of_ble_eq_true rfl) (Nat.le_of_ble_eq_true rfl) (Nat.le_of_ble_eq_true rfl) (Nat.le_of_ble_eq_true rfl) (Nat.le_of_ble_eq_true rfl) ?_
    refine x_aload_n C dX4_ifMet_62 rfl ?_
    refine x_get C kf_X4_16 cput_0 rfl dX4_ifMet_63 ?_
    refine x_iload_n C dX4_ifMet_66 rfl ?_
    refine x_callV C (c_X3_find_some hk1 ((cpV_k (Or.inl rfl) hk1).trans hp1)) kv_X3_find kl_X4_45 dX4_ifMet_67 cput_h1 (cput_is1 upV_s) (cput_is1 upV_s).symm rfl rfl (Nat.le_of_ble_eq_true rfl) (Nat.le_of_ble_eq_true rfl) (Nat.le_of_ble_eq_true rfl) (Nat.le_of_ble_eq_true rfl) (Nat.le_of_ble_eq_true rfl) ?_
    refine x_astore C dX4_ifMet_70 (by decide) rfl ?_
    refine x_aload_n C dX4_ifMet_72 rfl ?_
    refine x_get C kf_X4_16 cput_0 rfl dX4_ifMet_73 ?_
    refine x_iload_n C dX4_ifMet_76 rfl ?_
    refine x_callV C (c_X3_find_some hk2 ((cpV_k (Or.inl rfl) hk2).trans hp2)) kv_X3_find kl_X4_45 dX4_ifMet_77 cput_h1 (cput_is1 upV_s) (cput_is1 upV_s).symm rfl rfl (Nat.le_of_ble_eq_true rfl) (Nat.le_of_ble_eq_true rfl) (Nat.le_of_ble_eq_true rfl) (Nat.le_of_ble_eq_true rfl) (Nat.le_of_ble_eq_true rfl) ?_
    refine x_astore C dX4_ifMet_80 (by decide) rfl ?_
    refine x_aload C dX4_ifMet_82 rfl ?_
    refine x_ifnull C dX4_ifMet_84 ?_
    refine x_aload C dX4_ifMet_87 rfl ?_
    refine x_ifnn C 94 dX4_ifMet_89 (by decide) ?_
    refine x_aload_n C dX4_ifMet_94 rfl ?_
    refine x_get C kf_X4_16 cput_0 rfl dX4_ifMet_95 ?_
    refine x_aload C dX4_ifMet_98 rfl ?_
    refine x_aload C dX4_ifMet_100 rfl ?_
    refine x_iload_n C dX4_ifMet_102 rfl ?_
    refine x_callV C (c_X3_holdMeeting hk1 hk2 hm (cpV_ok hs)) kv_X3_holdMeeting kl_X4_98 dX4_ifMet_103 cput_h1 (cput_is1 upV_s) cput_w1 rfl rfl (Nat.le_of_ble_eq_true rfl) (Nat.le_of_ble_eq_true rfl) (Nat.le_of_ble_eq_true rfl) (Nat.le_of_ble_eq_true rfl) (Nat.le_of_ble_eq_true rfl) ?_
    refine x_istore C dX4_ifMet_106 (by decide) rfl ?_
    refine x_iload C dX4_ifMet_108 rfl ?_
    refine x_tbO C 163 dX4_ifMet_110 (Or.inr (by decide)) (by decide) ?_
    refine x_aload C dX4_ifMet_163 rfl ?_
    refine x_aload C dX4_ifMet_165 rfl ?_
    refine x_callS C (c_X4_agreementByMeanings hk1 hk2) ks_X4_agreementByMeanings kl_X4_130 dX4_ifMet_167 (cput_is1 upV_s) (cput_is1 upV_s).symm rfl rfl (Nat.le_of_ble_eq_true rfl) (Nat.le_of_ble_eq_true rfl) (Nat.le_of_ble_eq_true rfl) (Nat.le_of_ble_eq_true rfl) (Nat.le_of_ble_eq_true rfl) ?_
    exact x_zret C Z dX4_ifMet_170 rfl (Nat.le_of_ble_eq_true rfl) (Nat.le_of_ble_eq_true rfl) rfl (congrArg (fun q => cput E σ B q _ _ _ _) upV_u) imS_3.symm
set_option maxRecDepth 100000 in
set_option maxHeartbeats 1000000 in
theorem c_X4_ifMet_n1 {l : Launch} {E : xEnv} {B N : Nat} {σ : Sg} {VV : Cs} {p z n : Nat} {tx : Fn}{x : Int32} (hno : ¬ ∃ k, k < 8 ∧ x = nI k ∧ VV 0 10 k = 1) {y m w : Int32} : xM l yX4_ifMet cX4_ifMet 8 (some .int) 5 118 0 0 E B [.ref B, .int x, .int y, .int m, .int w] N (cput E σ B VV (nI p) (nI z) (nI n) tx) N (cput E σ B VV (nI p) (nI z) (nI n) tx) (some (.int (-1))) := by
  refine xM_of [some (.ref _), some (.int _), some (.int _), some (.int _), some (.int _), none, none, none] (by decide +kernel) (Nat.le_of_ble_eq_true rfl) rfl (fun k0 C Z => ?_)
  refine x_aload_n C dX4_ifMet_0 rfl ?_
  refine x_get C kf_X4_10 cput_0 rfl dX4_ifMet_1 ?_
  refine x_iload_n C dX4_ifMet_4 rfl ?_
  refine x_callV C (c_X3_find_none hno) kv_X3_find kl_X4_45 dX4_ifMet_5 cput_h0 (cput_is0 rfl) (cput_is0 rfl).symm rfl rfl (Nat.le_of_ble_eq_true rfl) (Nat.le_of_ble_eq_true rfl) (Nat.le_of_ble_eq_true rfl) (Nat.le_of_ble_eq_true rfl) (Nat.le_of_ble_eq_true rfl) ?_
  refine x_ifnullN C 29 dX4_ifMet_8 (by decide) ?_
  refine x_iconst (v := (-1)) C dX4_ifMet_29 (by decide) ?_
  exact x_zret C Z dX4_ifMet_30 rfl (Nat.le_of_ble_eq_true rfl) (Nat.le_of_ble_eq_true rfl) rfl rfl rfl
set_option maxRecDepth 100000 in
set_option maxHeartbeats 1000000 in
theorem c_X4_ifMet_n2 {l : Launch} {E : xEnv} {B N : Nat} {σ : Sg} {VV : Cs} {p z n : Nat} {tx : Fn}{k1 : Nat} (hk1 : k1 < 8) (hp1 : VV 0 10 k1 = 1){y : Int32} (hny : ¬ ∃ k, k < 8 ∧ y = nI k ∧ VV 0 10 k = 1) {m w : Int32} : xM l yX4_ifMet cX4_ifMet 8 (some .int) 5 118 0 0 E B [.ref B, .int (nI k1), .int y, .int m, .int w] N (cput E σ B VV (nI p) (nI z) (nI n) tx) N (cput E σ B VV (nI p) (nI z) (nI n) tx) (some (.int (-1))) := by
  refine xM_of [some (.ref _), some (.int _), some (.int _), some (.int _), some (.int _), none, none, none] (by decide +kernel) (Nat.le_of_ble_eq_true rfl) rfl (fun k0 C Z => ?_)
  refine x_aload_n C dX4_ifMet_0 rfl ?_
  refine x_get C kf_X4_10 cput_0 rfl dX4_ifMet_1 ?_
  refine x_iload_n C dX4_ifMet_4 rfl ?_
  refine x_callV C (c_X3_find_some hk1 hp1) kv_X3_find kl_X4_45 dX4_ifMet_5 cput_h0 (cput_is0 rfl) (cput_is0 rfl).symm rfl rfl (Nat.le_of_ble_eq_true rfl) (Nat.le_of_ble_eq_true rfl) (Nat.le_of_ble_eq_true rfl) (Nat.le_of_ble_eq_true rfl) (Nat.le_of_ble_eq_true rfl) ?_
  refine x_ifnull C dX4_ifMet_8 ?_
  refine x_aload_n C dX4_ifMet_11 rfl ?_
  refine x_get C kf_X4_10 cput_0 rfl dX4_ifMet_12 ?_
  refine x_iload_n C dX4_ifMet_15 rfl ?_
  refine x_callV C (c_X3_find_none hny) kv_X3_find kl_X4_45 dX4_ifMet_16 cput_h0 (cput_is0 rfl) (cput_is0 rfl).symm rfl rfl (Nat.le_of_ble_eq_true rfl) (Nat.le_of_ble_eq_true rfl) (Nat.le_of_ble_eq_true rfl) (Nat.le_of_ble_eq_true rfl) (Nat.le_of_ble_eq_true rfl) ?_
  refine x_ifnullN C 29 dX4_ifMet_19 (by decide) ?_
  refine x_iconst (v := (-1)) C dX4_ifMet_29 (by decide) ?_
  exact x_zret C Z dX4_ifMet_30 rfl (Nat.le_of_ble_eq_true rfl) (Nat.le_of_ble_eq_true rfl) rfl rfl rfl
set_option maxRecDepth 100000 in
set_option maxHeartbeats 1000000 in
theorem c_X4_ifMet_n3 {l : Launch} {E : xEnv} {B N : Nat} {σ : Sg} {VV : Cs} {p z n : Nat} {tx : Fn}{k1 : Nat} (hk1 : k1 < 8) (hp1 : VV 0 10 k1 = 1){k2 : Nat} (hk2 : k2 < 8) (hp2 : VV 0 10 k2 = 1) {m w : Int32} (hb : ¬ (0 ≤ m ∧ m < 6)) : xM l yX4_ifMet cX4_ifMet 8 (some .int) 5 118 0 0 E B [.ref B, .int (nI k1), .int (nI k2), .int m, .int w] N (cput E σ B VV (nI p) (nI z) (nI n) tx) N (cput E σ B VV (nI p) (nI z) (nI n) tx) (some (.int (-1))) := by
  refine xM_of [some (.ref _), some (.int _), some (.int _), some (.int _), some (.int _), none, none, none] (by decide +kernel) (Nat.le_of_ble_eq_true rfl) rfl (fun k0 C Z => ?_)
  refine x_aload_n C dX4_ifMet_0 rfl ?_
  refine x_get C kf_X4_10 cput_0 rfl dX4_ifMet_1 ?_
  refine x_iload_n C dX4_ifMet_4 rfl ?_
  refine x_callV C (c_X3_find_some hk1 hp1) kv_X3_find kl_X4_45 dX4_ifMet_5 cput_h0 (cput_is0 rfl) (cput_is0 rfl).symm rfl rfl (Nat.le_of_ble_eq_true rfl) (Nat.le_of_ble_eq_true rfl) (Nat.le_of_ble_eq_true rfl) (Nat.le_of_ble_eq_true rfl) (Nat.le_of_ble_eq_true rfl) ?_
  refine x_ifnull C dX4_ifMet_8 ?_
  refine x_aload_n C dX4_ifMet_11 rfl ?_
  refine x_get C kf_X4_10 cput_0 rfl dX4_ifMet_12 ?_
  refine x_iload_n C dX4_ifMet_15 rfl ?_
  refine x_callV C (c_X3_find_some hk2 hp2) kv_X3_find kl_X4_45 dX4_ifMet_16 cput_h0 (cput_is0 rfl) (cput_is0 rfl).symm rfl rfl (Nat.le_of_ble_eq_true rfl) (Nat.le_of_ble_eq_true rfl) (Nat.le_of_ble_eq_true rfl) (Nat.le_of_ble_eq_true rfl) (Nat.le_of_ble_eq_true rfl) ?_
  refine x_ifnull C dX4_ifMet_19 ?_
  refine x_iload_n C dX4_ifMet_22 rfl ?_
  refine x_callS C (c_X4_isMeaning _) ks_X4_isMeaning kl_X4_80 dX4_ifMet_23 rfl rfl rfl rfl (Nat.le_of_ble_eq_true rfl) (Nat.le_of_ble_eq_true rfl) (Nat.le_of_ble_eq_true rfl) (Nat.le_of_ble_eq_true rfl) (Nat.le_of_ble_eq_true rfl) ?_
  refine x_bne C 31 dX4_ifMet_26 (by decide) (fun h => absurd h hb) (fun _ => ?_)
  refine x_iconst (v := (-1)) C dX4_ifMet_29 (by decide) ?_
  exact x_zret C Z dX4_ifMet_30 rfl (Nat.le_of_ble_eq_true rfl) (Nat.le_of_ble_eq_true rfl) rfl rfl rfl
set_option maxRecDepth 100000 in
set_option maxHeartbeats 1000000 in
theorem c_X4_ifMet_bad {l : Launch} {E : xEnv} {B N : Nat} {σ : Sg} {VV : Cs} {p z n : Nat} {tx : Fn}{k1 : Nat} (hk1 : k1 < 8) (hp1 : VV 0 10 k1 = 1){k2 : Nat} (hk2 : k2 < 8) (hp2 : VV 0 10 k2 = 1) {m : Nat} (hm : m < 6) {w : Int32} (hb : ¬ (0 ≤ w ∧ w < 4)) : xM l yX4_ifMet cX4_ifMet 8 (some .int) 5 118 0 0 E B [.ref B, .int (nI k1), .int (nI k2), .int (nI m), .int w] N (cput E σ B VV (nI p) (nI z) (nI n) tx) N (cput E σ B VV (nI p) (nI z) (nI n) tx) (some (.int (-2))) := by
  refine xM_of [some (.ref _), some (.int _), some (.int _), some (.int _), some (.int _), none, none, none] (by decide +kernel) (Nat.le_of_ble_eq_true rfl) rfl (fun k0 C Z => ?_)
  refine x_aload_n C dX4_ifMet_0 rfl ?_
  refine x_get C kf_X4_10 cput_0 rfl dX4_ifMet_1 ?_
  refine x_iload_n C dX4_ifMet_4 rfl ?_
  refine x_callV C (c_X3_find_some hk1 hp1) kv_X3_find kl_X4_45 dX4_ifMet_5 cput_h0 (cput_is0 rfl) (cput_is0 rfl).symm rfl rfl (Nat.le_of_ble_eq_true rfl) (Nat.le_of_ble_eq_true rfl) (Nat.le_of_ble_eq_true rfl) (Nat.le_of_ble_eq_true rfl) (Nat.le_of_ble_eq_true rfl) ?_
  refine x_ifnull C dX4_ifMet_8 ?_
  refine x_aload_n C dX4_ifMet_11 rfl ?_
  refine x_get C kf_X4_10 cput_0 rfl dX4_ifMet_12 ?_
  refine x_iload_n C dX4_ifMet_15 rfl ?_
  refine x_callV C (c_X3_find_some hk2 hp2) kv_X3_find kl_X4_45 dX4_ifMet_16 cput_h0 (cput_is0 rfl) (cput_is0 rfl).symm rfl rfl (Nat.le_of_ble_eq_true rfl) (Nat.le_of_ble_eq_true rfl) (Nat.le_of_ble_eq_true rfl) (Nat.le_of_ble_eq_true rfl) (Nat.le_of_ble_eq_true rfl) ?_
  refine x_ifnull C dX4_ifMet_19 ?_
  refine x_iload_n C dX4_ifMet_22 rfl ?_
  refine x_callS C (c_X4_isMeaning _) ks_X4_isMeaning kl_X4_80 dX4_ifMet_23 rfl rfl rfl rfl (Nat.le_of_ble_eq_true rfl) (Nat.le_of_ble_eq_true rfl) (Nat.le_of_ble_eq_true rfl) (Nat.le_of_ble_eq_true rfl) (Nat.le_of_ble_eq_true rfl) ?_
  refine x_bne C 31 dX4_ifMet_26 (by decide) (fun _ => ?_) (fun h => absurd (bd_in (c := 6) hm (by decide)) h)
  refine x_iload C dX4_ifMet_31 rfl ?_
  refine x_iconst (v := 4) C dX4_ifMet_33 (by decide) ?_
  refine x_callS C (c_X4_isBelow _ _) ks_X4_isBelow kl_X4_57 dX4_ifMet_34 rfl rfl rfl rfl (Nat.le_of_ble_eq_true rfl) (Nat.le_of_ble_eq_true rfl) (Nat.le_of_ble_eq_true rfl) (Nat.le_of_ble_eq_true rfl) (Nat.le_of_ble_eq_true rfl) ?_
  refine x_bne C 43 dX4_ifMet_37 (by decide) (fun h => absurd h hb) (fun _ => ?_)
  refine x_bipush (v := (-2)) C dX4_ifMet_40 (by decide) ?_
  exact x_zret C Z dX4_ifMet_42 rfl (Nat.le_of_ble_eq_true rfl) (Nat.le_of_ble_eq_true rfl) rfl rfl rfl
set_option maxRecDepth 100000 in
set_option maxHeartbeats 1000000 in
theorem c_X4_ifMet_same {l : Launch} {E : xEnv} {B N : Nat} {σ : Sg} {VV : Cs} {p z n : Nat} {tx : Fn}{k1 : Nat} (hk1 : k1 < 8) (hp1 : VV 0 10 k1 = 1) {m : Nat} (hm : m < 6) {j : Nat} (hj : j < 4) : xM l yX4_ifMet cX4_ifMet 8 (some .int) 5 118 0 0 E B [.ref B, .int (nI k1), .int (nI k1), .int (nI m), .int (nI j)] N (cput E σ B VV (nI p) (nI z) (nI n) tx) N (cput E σ B VV (nI p) (nI z) (nI n) tx) (some (.int (-3))) := by
  refine xM_of [some (.ref _), some (.int _), some (.int _), some (.int _), some (.int _), none, none, none] (by decide +kernel) (Nat.le_of_ble_eq_true rfl) rfl (fun k0 C Z => ?_)
  refine x_aload_n C dX4_ifMet_0 rfl ?_
  refine x_get C kf_X4_10 cput_0 rfl dX4_ifMet_1 ?_
  refine x_iload_n C dX4_ifMet_4 rfl ?_
  refine x_callV C (c_X3_find_some hk1 hp1) kv_X3_find kl_X4_45 dX4_ifMet_5 cput_h0 (cput_is0 rfl) (cput_is0 rfl).symm rfl rfl (Nat.le_of_ble_eq_true rfl) (Nat.le_of_ble_eq_true rfl) (Nat.le_of_ble_eq_true rfl) (Nat.le_of_ble_eq_true rfl) (Nat.le_of_ble_eq_true rfl) ?_
  refine x_ifnull C dX4_ifMet_8 ?_
  refine x_aload_n C dX4_ifMet_11 rfl ?_
  refine x_get C kf_X4_10 cput_0 rfl dX4_ifMet_12 ?_
  refine x_iload_n C dX4_ifMet_15 rfl ?_
  refine x_callV C (c_X3_find_some hk1 hp1) kv_X3_find kl_X4_45 dX4_ifMet_16 cput_h0 (cput_is0 rfl) (cput_is0 rfl).symm rfl rfl (Nat.le_of_ble_eq_true rfl) (Nat.le_of_ble_eq_true rfl) (Nat.le_of_ble_eq_true rfl) (Nat.le_of_ble_eq_true rfl) (Nat.le_of_ble_eq_true rfl) ?_
  refine x_ifnull C dX4_ifMet_19 ?_
  refine x_iload_n C dX4_ifMet_22 rfl ?_
  refine x_callS C (c_X4_isMeaning _) ks_X4_isMeaning kl_X4_80 dX4_ifMet_23 rfl rfl rfl rfl (Nat.le_of_ble_eq_true rfl) (Nat.le_of_ble_eq_true rfl) (Nat.le_of_ble_eq_true rfl) (Nat.le_of_ble_eq_true rfl) (Nat.le_of_ble_eq_true rfl) ?_
  refine x_bne C 31 dX4_ifMet_26 (by decide) (fun _ => ?_) (fun h => absurd (bd_in (c := 6) hm (by decide)) h)
  refine x_iload C dX4_ifMet_31 rfl ?_
  refine x_iconst (v := 4) C dX4_ifMet_33 (by decide) ?_
  refine x_callS C (c_X4_isBelow _ _) ks_X4_isBelow kl_X4_57 dX4_ifMet_34 rfl rfl rfl rfl (Nat.le_of_ble_eq_true rfl) (Nat.le_of_ble_eq_true rfl) (Nat.le_of_ble_eq_true rfl) (Nat.le_of_ble_eq_true rfl) (Nat.le_of_ble_eq_true rfl) ?_
  refine x_bne C 43 dX4_ifMet_37 (by decide) (fun _ => ?_) (fun h => absurd (bd_in (c := 4) hj (by decide)) h)
  refine x_iload_n C dX4_ifMet_43 rfl ?_
  refine x_iload_n C dX4_ifMet_44 rfl ?_
  refine x_ic_ne C 51 dX4_ifMet_45 (by decide) (fun h => absurd rfl h) (fun _ => ?_)
  refine x_bipush (v := (-3)) C dX4_ifMet_48 (by decide) ?_
  exact x_zret C Z dX4_ifMet_50 rfl (Nat.le_of_ble_eq_true rfl) (Nat.le_of_ble_eq_true rfl) rfl rfl rfl
set_option maxRecDepth 100000 in
set_option maxHeartbeats 1000000 in
theorem c_X4_ifChat_ok {l : Launch} {E : xEnv} {B N : Nat} {σ : Sg} {VV : Cs} {p z n : Nat} {tx : Fn} {q : Nat} (h1 : 1 ≤ q) (h2 : q ≤ 200) {c : Nat} (hc : cnN (VV 0 10) 8 = c) (hc2 : 2 ≤ c) (hs : sok (VV 0)) : xM l yX4_ifChat cX4_ifChat 3 (some .int) 6 147 0 0 E B [.ref B, .int (nI q)] N (cput E σ B VV (nI p) (nI z) (nI n) tx) N (cput E σ B (upV VV 1 (chL (cpV (VV 1) (VV 0)) c q)) (nI p) (nI z) (nI n) tx) (some (.int (chL (cpV (VV 1) (VV 0)) c q 9 2 - (cpV (VV 1) (VV 0)) 9 2))) := by
  refine xM_of [some (.ref _), some (.int _), none] (by decide +kernel) (Nat.le_of_ble_eq_true rfl) rfl (fun k0 C Z => ?_)
  refine x_aload_n C dX4_ifChat_0 rfl ?_
  refine x_iload_n C dX4_ifChat_1 rfl ?_
  refine x_callV C (c_X4_refusalOfChat_ok h1 h2 (by rw [hc]; exact hc2)) kv_X4_refusalOfChat kl_X4_102 dX4_ifChat_2 cput_0 rfl rfl rfl rfl (Nat.le_of_ble_eq_true rfl) (Nat.le_of_ble_eq_true rfl) (Nat.le_of_ble_eq_true rfl) (Nat.le_of_ble_eq_true rfl) (Nat.le_of_ble_eq_true rfl) ?_
  refine x_istore_n C dX4_ifChat_5 (by decide) rfl ?_
  refine x_iload_n C dX4_ifChat_6 rfl ?_
  refine x_if_eq C 12 dX4_ifChat_7 (by decide) (fun _ => ?_) (fun h => absurd rfl h)
  refine x_aload_n C dX4_ifChat_12 rfl ?_
  refine x_get C kf_X4_16 cput_0 rfl dX4_ifChat_13 ?_
  refine x_aload_n C dX4_ifChat_16 rfl ?_
  refine x_get C kf_X4_10 cput_0 rfl dX4_ifChat_17 ?_
  refine x_callV C (c_X3_copyFrom (V := VV 1) (W := VV 0) (by omega)) kv_X3_copyFrom kl_X4_143 dX4_ifChat_20 cput_h1 cput_t1 cput_t2 rfl rfl (Nat.le_of_ble_eq_true rfl) (Nat.le_of_ble_eq_true rfl) (Nat.le_of_ble_eq_true rfl) (Nat.le_of_ble_eq_true rfl) (Nat.le_of_ble_eq_true rfl) ?_
  refine x_aload_n C dX4_ifChat_23 rfl ?_
  refine x_get C kf_X4_16 cput_0 rfl dX4_ifChat_24 ?_
  refine x_iload_n C dX4_ifChat_27 rfl ?_
  refine x_callV C (c_X3_holdChats (by omega) (cpV_cn hc) hc2 (cpV_ok hs)) kv_X3_holdChats kl_X4_105 dX4_ifChat_28 cput_h1 (cput_is1 upV_s) cput_w1 rfl rfl (Nat.le_of_ble_eq_true rfl) (Nat.le_of_ble_eq_true rfl) (Nat.le_of_ble_eq_true rfl) (Nat.le_of_ble_eq_true rfl) (Nat.le_of_ble_eq_true rfl) ?_
  exact x_zret C Z dX4_ifChat_31 rfl (Nat.le_of_ble_eq_true rfl) (Nat.le_of_ble_eq_true rfl) rfl (congrArg (fun q => cput E σ B q _ _ _ _) upV_u) rfl
set_option maxRecDepth 100000 in
set_option maxHeartbeats 1000000 in
theorem c_X4_bestSayer_ok {l : Launch} {E : xEnv} {B N : Nat} {σ : Sg} {VV : Cs} {p z n : Nat} {tx : Fn}{k : Nat} (hk : k < 8) (hp1 : VV 0 10 k = 1) : xM l yX4_bestSayer cX4_bestSayer 8 (some .int) 4 91 0 0 E B [.ref B, .int (nI k)] N (cput E σ B VV (nI p) (nI z) (nI n) tx) N (cput E σ B VV (nI p) (nI z) (nI n) tx) (some (.int (oI (bsL (VV 0) k 8)))) := by
  refine xM_of [some (.ref _), some (.int _), none, none, none, none, none, none] (by decide +kernel) (Nat.le_of_ble_eq_true rfl) rfl (fun k0 C Z => ?_)
  have hl : ∀ i, i ≤ 8 → xX k0 N 0 0 (cput E σ B VV (nI p) (nI z) (nI n) tx) 24 [some (.ref B), some (.int (nI k)), some (.ref (B + 1 + 2 + 2 * k)), some (.int (oI (bsL (VV 0) k i))), some (.int (bsG (VV 0) k (bsL (VV 0) k i))), some (.int (nI i)), none, none] [] := by
    refine x_for 8 ?_ ?_
    · refine x_iload C dX4_bestSayer_24 rfl ?_
      refine x_bipush (v := 8) C dX4_bestSayer_26 (by decide) ?_
      refine x_ic_ge C 84 dX4_bestSayer_28 (by decide) (fun _ => ?_) (fun h => absurd (nI_le (a := 8) (Nat.le_refl _) (by omega)) h)
      refine x_iload_n C dX4_bestSayer_84 rfl ?_
      exact x_zret C Z dX4_bestSayer_85 rfl (Nat.le_of_ble_eq_true rfl) (Nat.le_of_ble_eq_true rfl) rfl rfl rfl
    · intro i hi ih
      refine x_iload C dX4_bestSayer_24 rfl ?_
      refine x_bipush (v := 8) C dX4_bestSayer_26 (by decide) ?_
      refine x_ic_ge C 84 dX4_bestSayer_28 (by decide) (fun h => absurd h (nI_ge (b := 8) hi (by omega))) (fun _ => ?_)
      cases hy : bsL (VV 0) k i with
      | none =>
        refine x_aload_n C dX4_bestSayer_31 rfl ?_
        refine x_get C kf_X4_10 cput_0 rfl dX4_bestSayer_32 ?_
        by_cases hi1 : VV 0 10 i = 1
        · skip
          refine x_iload C dX4_bestSayer_35 rfl ?_
          refine x_callV C (c_X3_find_some hi hi1) kv_X3_find kl_X4_45 dX4_bestSayer_37 cput_h0 (cput_is0 rfl) (cput_is0 rfl).symm rfl rfl (Nat.le_of_ble_eq_true rfl) (Nat.le_of_ble_eq_true rfl) (Nat.le_of_ble_eq_true rfl) (Nat.le_of_ble_eq_true rfl) (Nat.le_of_ble_eq_true rfl) ?_
          refine x_astore C dX4_bestSayer_40 (by decide) rfl ?_
          refine x_aload C dX4_bestSayer_42 rfl ?_
          refine x_ifnull C dX4_bestSayer_44 ?_
          refine x_iload C dX4_bestSayer_47 rfl ?_
          refine x_iload_n C dX4_bestSayer_49 rfl ?_
          refine x_ic_ne C 56 dX4_bestSayer_50 (by decide) (fun h50 => ?_) (fun h50 => ?_)
          · refine x_aload C dX4_bestSayer_56 rfl ?_
            refine x_aload_n C dX4_bestSayer_58 rfl ?_
            refine x_callS C (c_X4_understandingOf hi hk) ks_X4_understandingOf kl_X4_137 dX4_bestSayer_59 (cput_is0 rfl) (cput_is0 rfl).symm rfl rfl (Nat.le_of_ble_eq_true rfl) (Nat.le_of_ble_eq_true rfl) (Nat.le_of_ble_eq_true rfl) (Nat.le_of_ble_eq_true rfl) (Nat.le_of_ble_eq_true rfl) ?_
            refine x_istore C dX4_bestSayer_62 (by decide) rfl ?_
            refine x_iload C dX4_bestSayer_64 rfl ?_
            refine x_iload C dX4_bestSayer_66 rfl ?_
            refine x_ic_le C 78 dX4_bestSayer_68 (by decide) (fun h => absurd h (nI_nm1 (by have := unN_le (V := VV 0) (s := i) (h := k) 6; omega))) (fun _ => ?_)
            refine x_iload C dX4_bestSayer_71 rfl ?_
            refine x_istore C dX4_bestSayer_73 (by decide) rfl ?_
            refine x_iload C dX4_bestSayer_75 rfl ?_
            refine x_istore_n C dX4_bestSayer_77 (by decide) rfl ?_
            refine x_iinc C dX4_bestSayer_78 rfl (nI_inc _) (by decide) rfl ?_
            refine x_goto C 24 dX4_bestSayer_81 (by decide) ?_
            refine xX.cl ih rfl (And.intro rfl (And.intro rfl (And.intro rfl (And.intro ?_ (And.intro ?_ (And.intro rfl trivial)))))) rfl
            all_goals (rw [bsL_n hi1 (fun z => h50 (by rw [z])) hy]; rfl)
          · refine x_goto C 78 dX4_bestSayer_53 (by decide) ?_
            refine x_iinc C dX4_bestSayer_78 rfl (nI_inc _) (by decide) rfl ?_
            refine x_goto C 24 dX4_bestSayer_81 (by decide) ?_
            refine xX.cl ih rfl (And.intro rfl (And.intro rfl (And.intro rfl (And.intro ?_ (And.intro ?_ (And.intro rfl trivial)))))) rfl
            all_goals (rw [bsL_sk (Or.inr ((nI_eq (by omega) (by omega)).mp h50)), hy]; rfl)
        · skip
          refine x_iload C dX4_bestSayer_35 rfl ?_
          refine x_callV C (c_X3_find_none (no_f hi hi1)) kv_X3_find kl_X4_45 dX4_bestSayer_37 cput_h0 (cput_is0 rfl) (cput_is0 rfl).symm rfl rfl (Nat.le_of_ble_eq_true rfl) (Nat.le_of_ble_eq_true rfl) (Nat.le_of_ble_eq_true rfl) (Nat.le_of_ble_eq_true rfl) (Nat.le_of_ble_eq_true rfl) ?_
          refine x_astoreN C dX4_bestSayer_40 (by decide) rfl ?_
          refine x_aloadN C dX4_bestSayer_42 rfl ?_
          refine x_ifnullN C 78 dX4_bestSayer_44 (by decide) ?_
          refine x_iinc C dX4_bestSayer_78 rfl (nI_inc _) (by decide) rfl ?_
          refine x_goto C 24 dX4_bestSayer_81 (by decide) ?_
          refine xX.cl ih rfl (And.intro rfl (And.intro rfl (And.intro rfl (And.intro ?_ (And.intro ?_ (And.intro rfl trivial)))))) rfl
          all_goals (rw [bsL_sk (Or.inl hi1), hy]; rfl)
      | some y =>
        have hy8 := bsL_in hy
        refine x_aload_n C dX4_bestSayer_31 rfl ?_
        refine x_get C kf_X4_10 cput_0 rfl dX4_bestSayer_32 ?_
        by_cases hi1 : VV 0 10 i = 1
        · skip
          refine x_iload C dX4_bestSayer_35 rfl ?_
          refine x_callV C (c_X3_find_some hi hi1) kv_X3_find kl_X4_45 dX4_bestSayer_37 cput_h0 (cput_is0 rfl) (cput_is0 rfl).symm rfl rfl (Nat.le_of_ble_eq_true rfl) (Nat.le_of_ble_eq_true rfl) (Nat.le_of_ble_eq_true rfl) (Nat.le_of_ble_eq_true rfl) (Nat.le_of_ble_eq_true rfl) ?_
          refine x_astore C dX4_bestSayer_40 (by decide) rfl ?_
          refine x_aload C dX4_bestSayer_42 rfl ?_
          refine x_ifnull C dX4_bestSayer_44 ?_
          refine x_iload C dX4_bestSayer_47 rfl ?_
          refine x_iload_n C dX4_bestSayer_49 rfl ?_
          refine x_ic_ne C 56 dX4_bestSayer_50 (by decide) (fun h50 => ?_) (fun h50 => ?_)
          · refine x_aload C dX4_bestSayer_56 rfl ?_
            refine x_aload_n C dX4_bestSayer_58 rfl ?_
            refine x_callS C (c_X4_understandingOf hi hk) ks_X4_understandingOf kl_X4_137 dX4_bestSayer_59 (cput_is0 rfl) (cput_is0 rfl).symm rfl rfl (Nat.le_of_ble_eq_true rfl) (Nat.le_of_ble_eq_true rfl) (Nat.le_of_ble_eq_true rfl) (Nat.le_of_ble_eq_true rfl) (Nat.le_of_ble_eq_true rfl) ?_
            refine x_istore C dX4_bestSayer_62 (by decide) rfl ?_
            refine x_iload C dX4_bestSayer_64 rfl ?_
            refine x_iload C dX4_bestSayer_66 rfl ?_
            refine x_ic_le C 78 dX4_bestSayer_68 (by decide) (fun h68 => ?_) (fun h68 => ?_)
            · refine x_iinc C dX4_bestSayer_78 rfl (nI_inc _) (by decide) rfl ?_
              refine x_goto C 24 dX4_bestSayer_81 (by decide) ?_
              refine xX.cl ih rfl (And.intro rfl (And.intro rfl (And.intro rfl (And.intro ?_ (And.intro ?_ (And.intro rfl trivial)))))) rfl
              all_goals (rw [bsL_k hi1 (fun z => h50 (by rw [z])) hy ((nI_leI (by have := unN_le (V := VV 0) (s := i) (h := k) 6; omega) (by have := unN_le (V := VV 0) (s := y) (h := k) 6; omega)).mp h68)]; rfl)
            · refine x_iload C dX4_bestSayer_71 rfl ?_
              refine x_istore C dX4_bestSayer_73 (by decide) rfl ?_
              refine x_iload C dX4_bestSayer_75 rfl ?_
              refine x_istore_n C dX4_bestSayer_77 (by decide) rfl ?_
              refine x_iinc C dX4_bestSayer_78 rfl (nI_inc _) (by decide) rfl ?_
              refine x_goto C 24 dX4_bestSayer_81 (by decide) ?_
              refine xX.cl ih rfl (And.intro rfl (And.intro rfl (And.intro rfl (And.intro ?_ (And.intro ?_ (And.intro rfl trivial)))))) rfl
              all_goals (rw [bsL_u hi1 (fun z => h50 (by rw [z])) hy (fun z => h68 ((nI_leI (by have := unN_le (V := VV 0) (s := i) (h := k) 6; omega) (by have := unN_le (V := VV 0) (s := y) (h := k) 6; omega)).mpr z))]; rfl)
          · refine x_goto C 78 dX4_bestSayer_53 (by decide) ?_
            refine x_iinc C dX4_bestSayer_78 rfl (nI_inc _) (by decide) rfl ?_
            refine x_goto C 24 dX4_bestSayer_81 (by decide) ?_
            refine xX.cl ih rfl (And.intro rfl (And.intro rfl (And.intro rfl (And.intro ?_ (And.intro ?_ (And.intro rfl trivial)))))) rfl
            all_goals (rw [bsL_sk (Or.inr ((nI_eq (by omega) (by omega)).mp h50)), hy]; rfl)
        · skip
          refine x_iload C dX4_bestSayer_35 rfl ?_
          refine x_callV C (c_X3_find_none (no_f hi hi1)) kv_X3_find kl_X4_45 dX4_bestSayer_37 cput_h0 (cput_is0 rfl) (cput_is0 rfl).symm rfl rfl (Nat.le_of_ble_eq_true rfl) (Nat.le_of_ble_eq_true rfl) (Nat.le_of_ble_eq_true rfl) (Nat.le_of_ble_eq_true rfl) (Nat.le_of_ble_eq_true rfl) ?_
          refine x_astoreN C dX4_bestSayer_40 (by decide) rfl ?_
          refine x_aloadN C dX4_bestSayer_42 rfl ?_
          refine x_ifnullN C 78 dX4_bestSayer_44 (by decide) ?_
          refine x_iinc C dX4_bestSayer_78 rfl (nI_inc _) (by decide) rfl ?_
          refine x_goto C 24 dX4_bestSayer_81 (by decide) ?_
          refine xX.cl ih rfl (And.intro rfl (And.intro rfl (And.intro rfl (And.intro ?_ (And.intro ?_ (And.intro rfl trivial)))))) rfl
          all_goals (rw [bsL_sk (Or.inl hi1), hy]; rfl)
  refine x_aload_n C dX4_bestSayer_0 rfl ?_
  refine x_get C kf_X4_10 cput_0 rfl dX4_bestSayer_1 ?_
  refine x_iload_n C dX4_bestSayer_4 rfl ?_
  refine x_callV C (c_X3_find_some hk hp1) kv_X3_find kl_X4_45 dX4_bestSayer_5 cput_h0 (cput_is0 rfl) (cput_is0 rfl).symm rfl rfl (Nat.le_of_ble_eq_true rfl) (Nat.le_of_ble_eq_true rfl) (Nat.le_of_ble_eq_true rfl) (Nat.le_of_ble_eq_true rfl) (Nat.le_of_ble_eq_true rfl) ?_
  refine x_astore_n C dX4_bestSayer_8 (by decide) rfl ?_
  refine x_aload_n C dX4_bestSayer_9 rfl ?_
  refine x_ifnn C 15 dX4_bestSayer_10 (by decide) ?_
  refine x_bipush (v := (-6)) C dX4_bestSayer_15 (by decide) ?_
  refine x_istore_n C dX4_bestSayer_17 (by decide) rfl ?_
  refine x_iconst (v := (-1)) C dX4_bestSayer_18 (by decide) ?_
  refine x_istore C dX4_bestSayer_19 (by decide) rfl ?_
  refine x_iconst (v := 0) C dX4_bestSayer_21 (by decide) ?_
  refine x_istore C dX4_bestSayer_22 (by decide) rfl ?_
  refine xX.cl (hl 0 (by omega)) rfl (And.intro rfl (And.intro rfl (And.intro rfl (And.intro rfl (And.intro rfl (And.intro rfl trivial)))))) rfl
set_option maxRecDepth 100000 in
set_option maxHeartbeats 1000000 in
theorem c_X4_bestSayer_no {l : Launch} {E : xEnv} {B N : Nat} {σ : Sg} {VV : Cs} {p z n : Nat} {tx : Fn}{x : Int32} (hno : ¬ ∃ k, k < 8 ∧ x = nI k ∧ VV 0 10 k = 1) : xM l yX4_bestSayer cX4_bestSayer 8 (some .int) 4 91 0 0 E B [.ref B, .int x] N (cput E σ B VV (nI p) (nI z) (nI n) tx) N (cput E σ B VV (nI p) (nI z) (nI n) tx) (some (.int (-1))) := by
  refine xM_of [some (.ref _), some (.int _), none, none, none, none, none, none] (by decide +kernel) (Nat.le_of_ble_eq_true rfl) rfl (fun k0 C Z => ?_)
  refine x_aload_n C dX4_bestSayer_0 rfl ?_
  refine x_get C kf_X4_10 cput_0 rfl dX4_bestSayer_1 ?_
  refine x_iload_n C dX4_bestSayer_4 rfl ?_
  refine x_callV C (c_X3_find_none hno) kv_X3_find kl_X4_45 dX4_bestSayer_5 cput_h0 (cput_is0 rfl) (cput_is0 rfl).symm rfl rfl (Nat.le_of_ble_eq_true rfl) (Nat.le_of_ble_eq_true rfl) (Nat.le_of_ble_eq_true rfl) (Nat.le_of_ble_eq_true rfl) (Nat.le_of_ble_eq_true rfl) ?_
  refine x_astore_nN C dX4_bestSayer_8 (by decide) rfl ?_
  refine x_aload_nN C dX4_bestSayer_9 rfl ?_
  refine x_ifnnN C dX4_bestSayer_10 ?_
  refine x_iconst (v := (-1)) C dX4_bestSayer_13 (by decide) ?_
  exact x_zret C Z dX4_bestSayer_14 rfl (Nat.le_of_ble_eq_true rfl) (Nat.le_of_ble_eq_true rfl) rfl rfl rfl
set_option maxRecDepth 100000 in
set_option maxHeartbeats 1000000 in
theorem c_X4_undo_0 {l : Launch} {E : xEnv} {B N : Nat} {σ : Sg} {VV : Cs} {p n : Nat} {tx : Fn} (hp : p < 6) : xM l yX4_undo cX4_undo 1 (some .int) 4 97 0 0 E B [.ref B] N (cput E σ B VV (nI p) (nI 0) (nI n) tx) N (cput E σ B VV (nI p) (nI 0) (nI n) tx) (some (.int (-3))) := by
  refine xM_of [some (.ref _)] (by decide +kernel) (Nat.le_of_ble_eq_true rfl) rfl (fun k0 C Z => ?_)
  refine x_aload_n C dX4_undo_0 rfl ?_
  refine x_get C kf_X4_22 cput_0 rfl dX4_undo_1 ?_
  refine x_aload_n C dX4_undo_4 rfl ?_
  refine x_get C kf_X4_10 cput_0 rfl dX4_undo_5 ?_
  refine x_callV C (c_X1_restore_0 (z := 0) hp) kv_X1_restore kl_X4_160 dX4_undo_8 cput_41 rfl rfl rfl rfl (Nat.le_of_ble_eq_true rfl) (Nat.le_of_ble_eq_true rfl) (Nat.le_of_ble_eq_true rfl) (Nat.le_of_ble_eq_true rfl) (Nat.le_of_ble_eq_true rfl) ?_
  refine x_if_eq C 24 dX4_undo_11 (by decide) (fun _ => ?_) (fun h => absurd rfl h)
  refine x_bipush (v := (-3)) C dX4_undo_24 (by decide) ?_
  exact x_zret C Z dX4_undo_26 rfl (Nat.le_of_ble_eq_true rfl) (Nat.le_of_ble_eq_true rfl) rfl rfl rfl
set_option maxRecDepth 100000 in
set_option maxHeartbeats 1000000 in
theorem c_X4_undo_s {l : Launch} {E : xEnv} {B N : Nat} {σ : Sg} {VV : Cs} {p z n : Nat} {tx : Fn} (hp : p < 6) (hz : z + 1 < 2 ^ 31) : xM l yX4_undo cX4_undo 1 (some .int) 4 97 0 0 E B [.ref B] N (cput E σ B VV (nI p) (nI (z + 1)) (nI n) tx) N (cput E σ B (upV VV 0 (cpV (VV 0) (VV (2 + (p + 5) % 6)))) (nI ((p + 5) % 6)) (nI z) (nI n) tx) (some (.int (nI z))) := by
  refine xM_of [some (.ref _)] (by decide +kernel) (Nat.le_of_ble_eq_true rfl) rfl (fun k0 C Z => ?_)
  refine x_aload_n C dX4_undo_0 rfl ?_
  refine x_get C kf_X4_22 cput_0 rfl dX4_undo_1 ?_
  refine x_aload_n C dX4_undo_4 rfl ?_
  refine x_get C kf_X4_10 cput_0 rfl dX4_undo_5 ?_
  refine x_callV C (c_X1_restore_s hp hz) kv_X1_restore kl_X4_160 dX4_undo_8 cput_41 rfl rfl rfl rfl (Nat.le_of_ble_eq_true rfl) (Nat.le_of_ble_eq_true rfl) (Nat.le_of_ble_eq_true rfl) (Nat.le_of_ble_eq_true rfl) (Nat.le_of_ble_eq_true rfl) ?_
  refine x_if_eq C 24 dX4_undo_11 (by decide) (fun h => absurd h (by decide)) (fun _ => ?_)
  refine x_aload_n C dX4_undo_14 rfl ?_
  refine x_get C kf_X4_22 cput_0 rfl dX4_undo_15 ?_
  refine x_get C kf_X4_164 cput_41 rfl dX4_undo_18 ?_
  refine x_goto C 26 dX4_undo_21 (by decide) ?_
  exact x_zret C Z dX4_undo_26 rfl (Nat.le_of_ble_eq_true rfl) (Nat.le_of_ble_eq_true rfl) rfl rfl rfl
set_option maxRecDepth 100000 in
set_option maxHeartbeats 1000000 in
theorem c_X4_withSpeaker_ok {l : Launch} {E : xEnv} {B N : Nat} {σ : Sg} {VV : Cs} {p z n : Nat} {tx : Fn} {V : Vs} (hV : VV 0 = V) {k : Nat} (hk : k < 8) (hp1 : V 10 k = 1) (h : Int64) : xM l yX4_withSpeaker cX4_withSpeaker 8 (some .long) 5 113 0 0 E B [.ref B, .long h, .int (nI k)] N (cput E σ B VV (nI p) (nI z) (nI n) tx) N (cput E σ B VV (nI p) (nI z) (nI n) tx) (some (.long (dgS2 V k (dgS1 V k (mxS h (nI k)) 5) 6))) := by
  refine xM_of [some (.ref _), some (.long _), none, some (.int _), none, none, none, none] (by decide +kernel) (Nat.le_of_ble_eq_true rfl) rfl (fun k0 C Z => ?_)
  have hl2 : ∀ i, i ≤ 6 → xX k0 N 0 0 (cput E σ B VV (nI p) (nI z) (nI n) tx) 60 [some (.ref B), some (.long h), none, some (.int (nI k)), some (.ref (B + 1 + 2 + 2 * k)), some (.long (dgS2 V k (dgS1 V k (mxS h (nI k)) 5) i)), none, some (.int (nI i))] [] := by
    refine x_for 6 ?_ ?_
    · refine x_iload C dX4_withSpeaker_60 rfl ?_
      refine x_bipush (v := 6) C dX4_withSpeaker_62 (by decide) ?_
      refine x_ic_ge C 87 dX4_withSpeaker_64 (by decide) (fun _ => ?_) (fun h => absurd (nI_le (a := 6) (Nat.le_refl _) (by omega)) h)
      refine x_lload C dX4_withSpeaker_87 rfl ?_
      exact x_lret C Z dX4_withSpeaker_89 (Nat.le_of_ble_eq_true rfl) (Nat.le_of_ble_eq_true rfl) rfl rfl rfl
    · intro i hi ih
      refine x_iload C dX4_withSpeaker_60 rfl ?_
      refine x_bipush (v := 6) C dX4_withSpeaker_62 (by decide) ?_
      refine x_ic_ge C 87 dX4_withSpeaker_64 (by decide) (fun h => absurd h (nI_ge (b := 6) hi (by omega))) (fun _ => ?_)
      refine x_lload C dX4_withSpeaker_67 rfl ?_
      refine x_aload C dX4_withSpeaker_69 rfl ?_
      refine x_iload C dX4_withSpeaker_71 rfl ?_
      refine x_callV C (c_X2_wordFor hk hi) kv_X2_wordFor kl_X4_118 dX4_withSpeaker_73 (cput_hs hk) (cput_is0 hV) (cput_is0 hV).symm rfl rfl (Nat.le_of_ble_eq_true rfl) (Nat.le_of_ble_eq_true rfl) (Nat.le_of_ble_eq_true rfl) (Nat.le_of_ble_eq_true rfl) (Nat.le_of_ble_eq_true rfl) ?_
      refine x_callS C (c_X4_mixed _ _) ks_X4_mixed kl_X4_169 dX4_withSpeaker_76 rfl rfl rfl rfl (Nat.le_of_ble_eq_true rfl) (Nat.le_of_ble_eq_true rfl) (Nat.le_of_ble_eq_true rfl) (Nat.le_of_ble_eq_true rfl) (Nat.le_of_ble_eq_true rfl) ?_
      refine x_lstore C dX4_withSpeaker_79 (by decide) rfl ?_
      refine x_iinc C dX4_withSpeaker_81 rfl (nI_inc _) (by decide) rfl ?_
      refine x_goto C 60 dX4_withSpeaker_84 (by decide) ?_
      refine xX.cl ih rfl (And.intro rfl (And.intro rfl (And.intro rfl (And.intro rfl (And.intro rfl (And.intro rfl trivial)))))) rfl
  have hl : ∀ i, i ≤ 5 → xX k0 N 0 0 (cput E σ B VV (nI p) (nI z) (nI n) tx) 27 [some (.ref B), some (.long h), none, some (.int (nI k)), some (.ref (B + 1 + 2 + 2 * k)), some (.long (dgS1 V k (mxS h (nI k)) i)), none, some (.int (nI i))] [] := by
    refine x_for 5 ?_ ?_
    · refine x_iload C dX4_withSpeaker_27 rfl ?_
      refine x_iconst (v := 5) C dX4_withSpeaker_29 (by decide) ?_
      refine x_ic_ge C 57 dX4_withSpeaker_30 (by decide) (fun _ => ?_) (fun h => absurd (nI_le (a := 5) (Nat.le_refl _) (by omega)) h)
      refine x_iconst (v := 0) C dX4_withSpeaker_57 (by decide) ?_
      refine x_istore C dX4_withSpeaker_58 (by decide) rfl ?_
      refine xX.cl (hl2 0 (by omega)) rfl (And.intro rfl (And.intro rfl (And.intro rfl (And.intro rfl (And.intro rfl (And.intro rfl trivial)))))) rfl
    · intro i hi ih
      refine x_iload C dX4_withSpeaker_27 rfl ?_
      refine x_iconst (v := 5) C dX4_withSpeaker_29 (by decide) ?_
      refine x_ic_ge C 57 dX4_withSpeaker_30 (by decide) (fun h => absurd h (nI_ge (b := 5) hi (by omega))) (fun _ => ?_)
      refine x_lload C dX4_withSpeaker_33 rfl ?_
      refine x_aload_n C dX4_withSpeaker_35 rfl ?_
      refine x_get C kf_X4_10 cput_0 rfl dX4_withSpeaker_36 ?_
      refine x_aload C dX4_withSpeaker_39 rfl ?_
      refine x_iload C dX4_withSpeaker_41 rfl ?_
      refine x_callV C (c_X3_numberOfSpeaker hk hi) kv_X3_numberOfSpeaker kl_X4_114 dX4_withSpeaker_43 cput_h0 (cput_is0 hV) (cput_is0 hV).symm rfl rfl (Nat.le_of_ble_eq_true rfl) (Nat.le_of_ble_eq_true rfl) (Nat.le_of_ble_eq_true rfl) (Nat.le_of_ble_eq_true rfl) (Nat.le_of_ble_eq_true rfl) ?_
      refine x_callS C (c_X4_mixed _ _) ks_X4_mixed kl_X4_169 dX4_withSpeaker_46 rfl rfl rfl rfl (Nat.le_of_ble_eq_true rfl) (Nat.le_of_ble_eq_true rfl) (Nat.le_of_ble_eq_true rfl) (Nat.le_of_ble_eq_true rfl) (Nat.le_of_ble_eq_true rfl) ?_
      refine x_lstore C dX4_withSpeaker_49 (by decide) rfl ?_
      refine x_iinc C dX4_withSpeaker_51 rfl (nI_inc _) (by decide) rfl ?_
      refine x_goto C 27 dX4_withSpeaker_54 (by decide) ?_
      refine xX.cl ih rfl (And.intro rfl (And.intro rfl (And.intro rfl (And.intro rfl (And.intro rfl (And.intro rfl trivial)))))) rfl
  refine x_aload_n C dX4_withSpeaker_0 rfl ?_
  refine x_get C kf_X4_10 cput_0 rfl dX4_withSpeaker_1 ?_
  refine x_iload_n C dX4_withSpeaker_4 rfl ?_
  refine x_callV C (c_X3_find_some hk hp1) kv_X3_find kl_X4_45 dX4_withSpeaker_5 cput_h0 (cput_is0 hV) (cput_is0 hV).symm rfl rfl (Nat.le_of_ble_eq_true rfl) (Nat.le_of_ble_eq_true rfl) (Nat.le_of_ble_eq_true rfl) (Nat.le_of_ble_eq_true rfl) (Nat.le_of_ble_eq_true rfl) ?_
  refine x_astore C dX4_withSpeaker_8 (by decide) rfl ?_
  refine x_aload C dX4_withSpeaker_10 rfl ?_
  refine x_ifnn C 17 dX4_withSpeaker_12 (by decide) ?_
  refine x_lload_n C dX4_withSpeaker_17 rfl ?_
  refine x_iload_n C dX4_withSpeaker_18 rfl ?_
  refine x_callS C (c_X4_mixed _ _) ks_X4_mixed kl_X4_169 dX4_withSpeaker_19 rfl rfl rfl rfl (Nat.le_of_ble_eq_true rfl) (Nat.le_of_ble_eq_true rfl) (Nat.le_of_ble_eq_true rfl) (Nat.le_of_ble_eq_true rfl) (Nat.le_of_ble_eq_true rfl) ?_
  refine x_lstore C dX4_withSpeaker_22 (by decide) rfl ?_
  refine x_iconst (v := 0) C dX4_withSpeaker_24 (by decide) ?_
  refine x_istore C dX4_withSpeaker_25 (by decide) rfl ?_
  refine xX.cl (hl 0 (by omega)) rfl (And.intro rfl (And.intro rfl (And.intro rfl (And.intro rfl (And.intro rfl (And.intro rfl trivial)))))) rfl
set_option maxRecDepth 100000 in
set_option maxHeartbeats 1000000 in
theorem c_X4_withSpeaker_no {l : Launch} {E : xEnv} {B N : Nat} {σ : Sg} {VV : Cs} {p z n : Nat} {tx : Fn} {V : Vs} (hV : VV 0 = V) {k : Nat} (hk : k < 8) (hp1 : ¬ V 10 k = 1) (h : Int64) : xM l yX4_withSpeaker cX4_withSpeaker 8 (some .long) 5 113 0 0 E B [.ref B, .long h, .int (nI k)] N (cput E σ B VV (nI p) (nI z) (nI n) tx) N (cput E σ B VV (nI p) (nI z) (nI n) tx) (some (.long h)) := by
  refine xM_of [some (.ref _), some (.long _), none, some (.int _), none, none, none, none] (by decide +kernel) (Nat.le_of_ble_eq_true rfl) rfl (fun k0 C Z => ?_)
  refine x_aload_n C dX4_withSpeaker_0 rfl ?_
  refine x_get C kf_X4_10 cput_0 rfl dX4_withSpeaker_1 ?_
  refine x_iload_n C dX4_withSpeaker_4 rfl ?_
  refine x_callV C (c_X3_find_none (no_f hk hp1)) kv_X3_find kl_X4_45 dX4_withSpeaker_5 cput_h0 (cput_is0 hV) (cput_is0 hV).symm rfl rfl (Nat.le_of_ble_eq_true rfl) (Nat.le_of_ble_eq_true rfl) (Nat.le_of_ble_eq_true rfl) (Nat.le_of_ble_eq_true rfl) (Nat.le_of_ble_eq_true rfl) ?_
  refine x_astoreN C dX4_withSpeaker_8 (by decide) rfl ?_
  refine x_aloadN C dX4_withSpeaker_10 rfl ?_
  refine x_ifnnN C dX4_withSpeaker_12 ?_
  refine x_lload_n C dX4_withSpeaker_15 rfl ?_
  exact x_lret C Z dX4_withSpeaker_16 (Nat.le_of_ble_eq_true rfl) (Nat.le_of_ble_eq_true rfl) rfl rfl rfl
theorem c_X4_withSpeaker {l : Launch} {E : xEnv} {B N : Nat} {σ : Sg} {VV : Cs} {p z n : Nat} {tx : Fn} {V : Vs} (hV : VV 0 = V) {k : Nat} (hk : k < 8) (h : Int64) : xM l yX4_withSpeaker cX4_withSpeaker 8 (some .long) 5 113 0 0 E B [.ref B, .long h, .int (nI k)] N (cput E σ B VV (nI p) (nI z) (nI n) tx) N (cput E σ B VV (nI p) (nI z) (nI n) tx) (some (.long (dgS V k h))) := by
  by_cases hp1 : V 10 k = 1
  · rw [dgS, if_pos hp1]; exact c_X4_withSpeaker_ok hV hk hp1 h
  · rw [dgS, if_neg hp1]; exact c_X4_withSpeaker_no hV hk hp1 h
set_option maxRecDepth 100000 in
set_option maxHeartbeats 1000000 in
theorem c_X4_withPairsOf_ok {l : Launch} {E : xEnv} {B N : Nat} {σ : Sg} {VV : Cs} {p z n : Nat} {tx : Fn} {V : Vs} (hV : VV 0 = V) {k : Nat} (hk : k < 8) (hp1 : V 10 k = 1) (h : Int64) : xM l yX4_withPairsOf cX4_withPairsOf 9 (some .long) 4 91 0 0 E B [.ref B, .long h, .int (nI k)] N (cput E σ B VV (nI p) (nI z) (nI n) tx) N (cput E σ B VV (nI p) (nI z) (nI n) tx) (some (.long (dgP V k h (7 - k)))) := by
  refine xM_of [some (.ref _), some (.long _), none, some (.int _), none, none, none, none, none] (by decide +kernel) (Nat.le_of_ble_eq_true rfl) rfl (fun k0 C Z => ?_)
  have hl : ∀ t, t ≤ (7 - k) → xX k0 N 0 0 (cput E σ B VV (nI p) (nI z) (nI n) tx) 25 [some (.ref B), some (.long h), none, some (.int (nI k)), some (.ref (B + 1 + 2 + 2 * k)), some (.long (dgP V k h t)), none, some (.int (nI (k + 1 + t))), none] [] := by
    refine x_for (7 - k) ?_ ?_
    · refine x_iload C dX4_withPairsOf_25 rfl ?_
      refine x_bipush (v := 8) C dX4_withPairsOf_27 (by decide) ?_
      refine x_ic_ge C 82 dX4_withPairsOf_29 (by decide) (fun _ => ?_) (fun h => absurd (nI_le (a := 8) (by omega) (by omega)) h)
      refine x_lload C dX4_withPairsOf_82 rfl ?_
      exact x_lret C Z dX4_withPairsOf_84 (Nat.le_of_ble_eq_true rfl) (Nat.le_of_ble_eq_true rfl) rfl rfl rfl
    · intro t hi ih
      have ht8 : k + 1 + t < 8 := by omega
      refine x_iload C dX4_withPairsOf_25 rfl ?_
      refine x_bipush (v := 8) C dX4_withPairsOf_27 (by decide) ?_
      refine x_ic_ge C 82 dX4_withPairsOf_29 (by decide) (fun h => absurd h (nI_ge (b := 8) (by omega) (by omega))) (fun _ => ?_)
      refine x_aload_n C dX4_withPairsOf_32 rfl ?_
      refine x_get C kf_X4_10 cput_0 rfl dX4_withPairsOf_33 ?_
      by_cases ht1 : V 10 (k + 1 + t) = 1
      · skip
        refine x_iload C dX4_withPairsOf_36 rfl ?_
        refine x_callV C (c_X3_find_some ht8 ht1) kv_X3_find kl_X4_45 dX4_withPairsOf_38 cput_h0 (cput_is0 hV) (cput_is0 hV).symm rfl rfl (Nat.le_of_ble_eq_true rfl) (Nat.le_of_ble_eq_true rfl) (Nat.le_of_ble_eq_true rfl) (Nat.le_of_ble_eq_true rfl) (Nat.le_of_ble_eq_true rfl) ?_
        refine x_astore C dX4_withPairsOf_41 (by decide) rfl ?_
        refine x_aload C dX4_withPairsOf_43 rfl ?_
        refine x_ifnull C dX4_withPairsOf_45 ?_
        refine x_lload C dX4_withPairsOf_48 rfl ?_
        refine x_aload C dX4_withPairsOf_50 rfl ?_
        refine x_aload C dX4_withPairsOf_52 rfl ?_
        refine x_callS C (c_X4_agreementByMeanings hk ht8) ks_X4_agreementByMeanings kl_X4_130 dX4_withPairsOf_54 (cput_is0 hV) (cput_is0 hV).symm rfl rfl (Nat.le_of_ble_eq_true rfl) (Nat.le_of_ble_eq_true rfl) (Nat.le_of_ble_eq_true rfl) (Nat.le_of_ble_eq_true rfl) (Nat.le_of_ble_eq_true rfl) ?_
        refine x_callS C (c_X4_mixed _ _) ks_X4_mixed kl_X4_169 dX4_withPairsOf_57 rfl rfl rfl rfl (Nat.le_of_ble_eq_true rfl) (Nat.le_of_ble_eq_true rfl) (Nat.le_of_ble_eq_true rfl) (Nat.le_of_ble_eq_true rfl) (Nat.le_of_ble_eq_true rfl) ?_
        refine x_lstore C dX4_withPairsOf_60 (by decide) rfl ?_
        refine x_lload C dX4_withPairsOf_62 rfl ?_
        refine x_aload C dX4_withPairsOf_64 rfl ?_
        refine x_aload C dX4_withPairsOf_66 rfl ?_
        refine x_callS C (c_X4_understandingOf hk ht8) ks_X4_understandingOf kl_X4_137 dX4_withPairsOf_68 (cput_is0 hV) (cput_is0 hV).symm rfl rfl (Nat.le_of_ble_eq_true rfl) (Nat.le_of_ble_eq_true rfl) (Nat.le_of_ble_eq_true rfl) (Nat.le_of_ble_eq_true rfl) (Nat.le_of_ble_eq_true rfl) ?_
        refine x_callS C (c_X4_mixed _ _) ks_X4_mixed kl_X4_169 dX4_withPairsOf_71 rfl rfl rfl rfl (Nat.le_of_ble_eq_true rfl) (Nat.le_of_ble_eq_true rfl) (Nat.le_of_ble_eq_true rfl) (Nat.le_of_ble_eq_true rfl) (Nat.le_of_ble_eq_true rfl) ?_
        refine x_lstore C dX4_withPairsOf_74 (by decide) rfl ?_
        refine x_iinc C dX4_withPairsOf_76 rfl (nI_inc _) (by decide) rfl ?_
        refine x_goto C 25 dX4_withPairsOf_79 (by decide) ?_
        refine xX.cl ih rfl (And.intro rfl (And.intro rfl (And.intro rfl (And.intro rfl (And.intro ?_ (And.intro rfl trivial)))))) rfl
        rw [dgP, if_pos ht1]; rfl
      · skip
        refine x_iload C dX4_withPairsOf_36 rfl ?_
        refine x_callV C (c_X3_find_none (no_f ht8 ht1)) kv_X3_find kl_X4_45 dX4_withPairsOf_38 cput_h0 (cput_is0 hV) (cput_is0 hV).symm rfl rfl (Nat.le_of_ble_eq_true rfl) (Nat.le_of_ble_eq_true rfl) (Nat.le_of_ble_eq_true rfl) (Nat.le_of_ble_eq_true rfl) (Nat.le_of_ble_eq_true rfl) ?_
        refine x_astoreN C dX4_withPairsOf_41 (by decide) rfl ?_
        refine x_aloadN C dX4_withPairsOf_43 rfl ?_
        refine x_ifnullN C 76 dX4_withPairsOf_45 (by decide) ?_
        refine x_iinc C dX4_withPairsOf_76 rfl (nI_inc _) (by decide) rfl ?_
        refine x_goto C 25 dX4_withPairsOf_79 (by decide) ?_
        refine xX.cl ih rfl (And.intro rfl (And.intro rfl (And.intro rfl (And.intro rfl (And.intro ?_ (And.intro rfl trivial)))))) rfl
        rw [dgP, if_neg ht1]; rfl
  refine x_aload_n C dX4_withPairsOf_0 rfl ?_
  refine x_get C kf_X4_10 cput_0 rfl dX4_withPairsOf_1 ?_
  refine x_iload_n C dX4_withPairsOf_4 rfl ?_
  refine x_callV C (c_X3_find_some hk hp1) kv_X3_find kl_X4_45 dX4_withPairsOf_5 cput_h0 (cput_is0 hV) (cput_is0 hV).symm rfl rfl (Nat.le_of_ble_eq_true rfl) (Nat.le_of_ble_eq_true rfl) (Nat.le_of_ble_eq_true rfl) (Nat.le_of_ble_eq_true rfl) (Nat.le_of_ble_eq_true rfl) ?_
  refine x_astore C dX4_withPairsOf_8 (by decide) rfl ?_
  refine x_aload C dX4_withPairsOf_10 rfl ?_
  refine x_ifnn C 17 dX4_withPairsOf_12 (by decide) ?_
  refine x_lload_n C dX4_withPairsOf_17 rfl ?_
  refine x_lstore C dX4_withPairsOf_18 (by decide) rfl ?_
  refine x_iload_n C dX4_withPairsOf_20 rfl ?_
  refine x_iconst (v := 1) C dX4_withPairsOf_21 (by decide) ?_
  refine x_iadd C dX4_withPairsOf_22 ?_
  refine x_istore C dX4_withPairsOf_23 (by decide) rfl ?_
  refine xX.cl (hl 0 (by omega)) rfl (And.intro rfl (And.intro rfl (And.intro rfl (And.intro rfl (And.intro rfl (And.intro (congrArg (fun z => some (some (Value.int z))) (nI_1 k)) trivial)))))) rfl
set_option maxRecDepth 100000 in
set_option maxHeartbeats 1000000 in
theorem c_X4_withPairsOf_no {l : Launch} {E : xEnv} {B N : Nat} {σ : Sg} {VV : Cs} {p z n : Nat} {tx : Fn} {V : Vs} (hV : VV 0 = V) {k : Nat} (hk : k < 8) (hp1 : ¬ V 10 k = 1) (h : Int64) : xM l yX4_withPairsOf cX4_withPairsOf 9 (some .long) 4 91 0 0 E B [.ref B, .long h, .int (nI k)] N (cput E σ B VV (nI p) (nI z) (nI n) tx) N (cput E σ B VV (nI p) (nI z) (nI n) tx) (some (.long h)) := by
  refine xM_of [some (.ref _), some (.long _), none, some (.int _), none, none, none, none, none] (by decide +kernel) (Nat.le_of_ble_eq_true rfl) rfl (fun k0 C Z => ?_)
  refine x_aload_n C dX4_withPairsOf_0 rfl ?_
  refine x_get C kf_X4_10 cput_0 rfl dX4_withPairsOf_1 ?_
  refine x_iload_n C dX4_withPairsOf_4 rfl ?_
  refine x_callV C (c_X3_find_none (no_f hk hp1)) kv_X3_find kl_X4_45 dX4_withPairsOf_5 cput_h0 (cput_is0 hV) (cput_is0 hV).symm rfl rfl (Nat.le_of_ble_eq_true rfl) (Nat.le_of_ble_eq_true rfl) (Nat.le_of_ble_eq_true rfl) (Nat.le_of_ble_eq_true rfl) (Nat.le_of_ble_eq_true rfl) ?_
  refine x_astoreN C dX4_withPairsOf_8 (by decide) rfl ?_
  refine x_aloadN C dX4_withPairsOf_10 rfl ?_
  refine x_ifnnN C dX4_withPairsOf_12 ?_
  refine x_lload_n C dX4_withPairsOf_15 rfl ?_
  exact x_lret C Z dX4_withPairsOf_16 (Nat.le_of_ble_eq_true rfl) (Nat.le_of_ble_eq_true rfl) rfl rfl rfl
theorem c_X4_withPairsOf {l : Launch} {E : xEnv} {B N : Nat} {σ : Sg} {VV : Cs} {p z n : Nat} {tx : Fn} {V : Vs} (hV : VV 0 = V) {k : Nat} (hk : k < 8) (h : Int64) : xM l yX4_withPairsOf cX4_withPairsOf 9 (some .long) 4 91 0 0 E B [.ref B, .long h, .int (nI k)] N (cput E σ B VV (nI p) (nI z) (nI n) tx) N (cput E σ B VV (nI p) (nI z) (nI n) tx) (some (.long (dgQ V k h))) := by
  by_cases hp1 : V 10 k = 1
  · rw [dgQ, if_pos hp1]; exact c_X4_withPairsOf_ok hV hk hp1 h
  · rw [dgQ, if_neg hp1]; exact c_X4_withPairsOf_no hV hk hp1 h
set_option maxRecDepth 100000 in
set_option maxHeartbeats 1000000 in
theorem c_X4_digest {l : Launch} {E : xEnv} {B N : Nat} {σ : Sg} {VV : Cs} {p z n : Nat} {tx : Fn} : xM l yX4_digest cX4_digest 4 (some .long) 6 140 0 0 E B [.ref B] N (cput E σ B VV (nI p) (nI z) (nI n) tx) N (cput E σ B (upV VV 0 (usC (VV 0) 6)) (nI p) (nI z) (nI n) tx) (some (.long (dgV (VV 0) (usC (VV 0) 6)))) := by
  refine xM_of [some (.ref _), none, none, none] (by decide +kernel) (Nat.le_of_ble_eq_true rfl) rfl (fun k0 C Z => ?_)
  have hl5 : ∀ i, i ≤ 8 → xX k0 N 0 0 (cput E σ B (upV VV 0 (usC (VV 0) 6)) (nI p) (nI z) (nI n) tx) 107 [some (.ref B), some (.long (dgE (usC (VV 0) 6) (dgD (VV 0) (dgC (VV 0) (dgB (VV 0) (dgA (VV 0) 473 7) 4) 8) 6) i)), none, some (.int (nI i))] [] := by
    refine x_for 8 ?_ ?_
    · refine x_iload_n C dX4_digest_107 rfl ?_
      refine x_bipush (v := 8) C dX4_digest_108 (by decide) ?_
      refine x_ic_ge C 126 dX4_digest_110 (by decide) (fun _ => ?_) (fun h => absurd (nI_le (a := 8) (Nat.le_refl _) (by omega)) h)
      refine x_lload_n C dX4_digest_126 rfl ?_
      exact x_lret C Z dX4_digest_127 (Nat.le_of_ble_eq_true rfl) (Nat.le_of_ble_eq_true rfl) rfl rfl rfl
    · intro i hi ih
      refine x_iload_n C dX4_digest_107 rfl ?_
      refine x_bipush (v := 8) C dX4_digest_108 (by decide) ?_
      refine x_ic_ge C 126 dX4_digest_110 (by decide) (fun h => absurd h (nI_ge (b := 8) hi (by omega))) (fun _ => ?_)
      refine x_aload_n C dX4_digest_113 rfl ?_
      refine x_lload_n C dX4_digest_114 rfl ?_
      refine x_iload_n C dX4_digest_115 rfl ?_
      refine x_callV C (c_X4_withPairsOf upV_s hi _) kv_X4_withPairsOf kl_X4_176 dX4_digest_116 cput_0 rfl rfl rfl rfl (Nat.le_of_ble_eq_true rfl) (Nat.le_of_ble_eq_true rfl) (Nat.le_of_ble_eq_true rfl) (Nat.le_of_ble_eq_true rfl) (Nat.le_of_ble_eq_true rfl) ?_
      refine x_lstore_n C dX4_digest_119 (by decide) rfl ?_
      refine x_iinc C dX4_digest_120 rfl (nI_inc _) (by decide) rfl ?_
      refine x_goto C 107 dX4_digest_123 (by decide) ?_
      refine xX.cl ih rfl (And.intro rfl (And.intro rfl (And.intro rfl trivial))) rfl
  have hl4 : ∀ i, i ≤ 6 → xX k0 N 0 0 (cput E σ B (upV VV 0 (usC (VV 0) i)) (nI p) (nI z) (nI n) tx) 80 [some (.ref B), some (.long (dgD (VV 0) (dgC (VV 0) (dgB (VV 0) (dgA (VV 0) 473 7) 4) 8) i)), none, some (.int (nI i))] [] := by
    refine x_for 6 ?_ ?_
    · refine x_iload_n C dX4_digest_80 rfl ?_
      refine x_bipush (v := 6) C dX4_digest_81 (by decide) ?_
      refine x_ic_ge C 105 dX4_digest_83 (by decide) (fun _ => ?_) (fun h => absurd (nI_le (a := 6) (Nat.le_refl _) (by omega)) h)
      refine x_iconst (v := 0) C dX4_digest_105 (by decide) ?_
      refine x_istore_n C dX4_digest_106 (by decide) rfl ?_
      refine xX.cl (hl5 0 (by omega)) rfl (And.intro rfl (And.intro rfl (And.intro rfl trivial))) rfl
    · intro i hi ih
      refine x_iload_n C dX4_digest_80 rfl ?_
      refine x_bipush (v := 6) C dX4_digest_81 (by decide) ?_
      refine x_ic_ge C 105 dX4_digest_83 (by decide) (fun h => absurd h (nI_ge (b := 6) hi (by omega))) (fun _ => ?_)
      refine x_lload_n C dX4_digest_86 rfl ?_
      refine x_aload_n C dX4_digest_87 rfl ?_
      refine x_get C kf_X4_10 cput_0 rfl dX4_digest_88 ?_
      refine x_iload_n C dX4_digest_91 rfl ?_
      refine x_callV C (c_X3_commonWord hi) kv_X3_commonWord kl_X4_140 dX4_digest_92 cput_h0 (cput_is0 upV_s) (cput_w0.trans (congrArg (fun q => cput E σ B q _ _ _ _) upV_u)) rfl rfl (Nat.le_of_ble_eq_true rfl) (Nat.le_of_ble_eq_true rfl) (Nat.le_of_ble_eq_true rfl) (Nat.le_of_ble_eq_true rfl) (Nat.le_of_ble_eq_true rfl) ?_
      rw [cmS_cg (W := VV 0) (fun r hr => usC_r hr i)]
      refine x_callS C (c_X4_mixed _ _) ks_X4_mixed kl_X4_169 dX4_digest_95 rfl rfl rfl rfl (Nat.le_of_ble_eq_true rfl) (Nat.le_of_ble_eq_true rfl) (Nat.le_of_ble_eq_true rfl) (Nat.le_of_ble_eq_true rfl) (Nat.le_of_ble_eq_true rfl) ?_
      refine x_lstore_n C dX4_digest_98 (by decide) rfl ?_
      refine x_iinc C dX4_digest_99 rfl (nI_inc _) (by decide) rfl ?_
      refine x_goto C 80 dX4_digest_102 (by decide) ?_
      refine xX.cl ih rfl (And.intro rfl (And.intro rfl (And.intro rfl trivial))) rfl
  have hl3 : ∀ i, i ≤ 8 → xX k0 N 0 0 (cput E σ B VV (nI p) (nI z) (nI n) tx) 59 [some (.ref B), some (.long (dgC (VV 0) (dgB (VV 0) (dgA (VV 0) 473 7) 4) i)), none, some (.int (nI i))] [] := by
    refine x_for 8 ?_ ?_
    · refine x_iload_n C dX4_digest_59 rfl ?_
      refine x_bipush (v := 8) C dX4_digest_60 (by decide) ?_
      refine x_ic_ge C 78 dX4_digest_62 (by decide) (fun _ => ?_) (fun h => absurd (nI_le (a := 8) (Nat.le_refl _) (by omega)) h)
      refine x_iconst (v := 0) C dX4_digest_78 (by decide) ?_
      refine x_istore_n C dX4_digest_79 (by decide) rfl ?_
      refine xX.cl (hl4 0 (by omega)) (congrArg (fun q => cput E σ B q _ _ _ _) upV_e.symm) (And.intro rfl (And.intro rfl (And.intro rfl trivial))) rfl
    · intro i hi ih
      refine x_iload_n C dX4_digest_59 rfl ?_
      refine x_bipush (v := 8) C dX4_digest_60 (by decide) ?_
      refine x_ic_ge C 78 dX4_digest_62 (by decide) (fun h => absurd h (nI_ge (b := 8) hi (by omega))) (fun _ => ?_)
      refine x_aload_n C dX4_digest_65 rfl ?_
      refine x_lload_n C dX4_digest_66 rfl ?_
      refine x_iload_n C dX4_digest_67 rfl ?_
      refine x_callV C (c_X4_withSpeaker rfl hi _) kv_X4_withSpeaker kl_X4_173 dX4_digest_68 cput_0 rfl rfl rfl rfl (Nat.le_of_ble_eq_true rfl) (Nat.le_of_ble_eq_true rfl) (Nat.le_of_ble_eq_true rfl) (Nat.le_of_ble_eq_true rfl) (Nat.le_of_ble_eq_true rfl) ?_
      refine x_lstore_n C dX4_digest_71 (by decide) rfl ?_
      refine x_iinc C dX4_digest_72 rfl (nI_inc _) (by decide) rfl ?_
      refine x_goto C 59 dX4_digest_75 (by decide) ?_
      refine xX.cl ih rfl (And.intro rfl (And.intro rfl (And.intro rfl trivial))) rfl
  have hl2 : ∀ i, i ≤ 4 → xX k0 N 0 0 (cput E σ B VV (nI p) (nI z) (nI n) tx) 33 [some (.ref B), some (.long (dgB (VV 0) (dgA (VV 0) 473 7) i)), none, some (.int (nI i))] [] := by
    refine x_for 4 ?_ ?_
    · refine x_iload_n C dX4_digest_33 rfl ?_
      refine x_iconst (v := 4) C dX4_digest_34 (by decide) ?_
      refine x_ic_ge C 57 dX4_digest_35 (by decide) (fun _ => ?_) (fun h => absurd (nI_le (a := 4) (Nat.le_refl _) (by omega)) h)
      refine x_iconst (v := 0) C dX4_digest_57 (by decide) ?_
      refine x_istore_n C dX4_digest_58 (by decide) rfl ?_
      refine xX.cl (hl3 0 (by omega)) rfl (And.intro rfl (And.intro rfl (And.intro rfl trivial))) rfl
    · intro i hi ih
      refine x_iload_n C dX4_digest_33 rfl ?_
      refine x_iconst (v := 4) C dX4_digest_34 (by decide) ?_
      refine x_ic_ge C 57 dX4_digest_35 (by decide) (fun h => absurd h (nI_ge (b := 4) hi (by omega))) (fun _ => ?_)
      refine x_lload_n C dX4_digest_38 rfl ?_
      refine x_aload_n C dX4_digest_39 rfl ?_
      refine x_get C kf_X4_10 cput_0 rfl dX4_digest_40 ?_
      refine x_iload_n C dX4_digest_43 rfl ?_
      refine x_callV C (c_X3_settingAt hi) kv_X3_settingAt kl_X4_68 dX4_digest_44 cput_h0 (cput_is0 rfl) (cput_is0 rfl).symm rfl rfl (Nat.le_of_ble_eq_true rfl) (Nat.le_of_ble_eq_true rfl) (Nat.le_of_ble_eq_true rfl) (Nat.le_of_ble_eq_true rfl) (Nat.le_of_ble_eq_true rfl) ?_
      refine x_callS C (c_X4_mixed _ _) ks_X4_mixed kl_X4_169 dX4_digest_47 rfl rfl rfl rfl (Nat.le_of_ble_eq_true rfl) (Nat.le_of_ble_eq_true rfl) (Nat.le_of_ble_eq_true rfl) (Nat.le_of_ble_eq_true rfl) (Nat.le_of_ble_eq_true rfl) ?_
      refine x_lstore_n C dX4_digest_50 (by decide) rfl ?_
      refine x_iinc C dX4_digest_51 rfl (nI_inc _) (by decide) rfl ?_
      refine x_goto C 33 dX4_digest_54 (by decide) ?_
      refine xX.cl ih rfl (And.intro rfl (And.intro rfl (And.intro rfl trivial))) rfl
  have hl1 : ∀ i, i ≤ 7 → xX k0 N 0 0 (cput E σ B VV (nI p) (nI z) (nI n) tx) 6 [some (.ref B), some (.long (dgA (VV 0) 473 i)), none, some (.int (nI i))] [] := by
    refine x_for 7 ?_ ?_
    · refine x_iload_n C dX4_digest_6 rfl ?_
      refine x_bipush (v := 7) C dX4_digest_7 (by decide) ?_
      refine x_ic_ge C 31 dX4_digest_9 (by decide) (fun _ => ?_) (fun h => absurd (nI_le (a := 7) (Nat.le_refl _) (by omega)) h)
      refine x_iconst (v := 0) C dX4_digest_31 (by decide) ?_
      refine x_istore_n C dX4_digest_32 (by decide) rfl ?_
      refine xX.cl (hl2 0 (by omega)) rfl (And.intro rfl (And.intro rfl (And.intro rfl trivial))) rfl
    · intro i hi ih
      refine x_iload_n C dX4_digest_6 rfl ?_
      refine x_bipush (v := 7) C dX4_digest_7 (by decide) ?_
      refine x_ic_ge C 31 dX4_digest_9 (by decide) (fun h => absurd h (nI_ge (b := 7) hi (by omega))) (fun _ => ?_)
      refine x_lload_n C dX4_digest_12 rfl ?_
      refine x_aload_n C dX4_digest_13 rfl ?_
      refine x_get C kf_X4_10 cput_0 rfl dX4_digest_14 ?_
      refine x_iload_n C dX4_digest_17 rfl ?_
      refine x_callV C (c_X3_numberOf hi) kv_X3_numberOf kl_X4_111 dX4_digest_18 cput_h0 (cput_is0 rfl) (cput_is0 rfl).symm rfl rfl (Nat.le_of_ble_eq_true rfl) (Nat.le_of_ble_eq_true rfl) (Nat.le_of_ble_eq_true rfl) (Nat.le_of_ble_eq_true rfl) (Nat.le_of_ble_eq_true rfl) ?_
      refine x_callS C (c_X4_mixed _ _) ks_X4_mixed kl_X4_169 dX4_digest_21 rfl rfl rfl rfl (Nat.le_of_ble_eq_true rfl) (Nat.le_of_ble_eq_true rfl) (Nat.le_of_ble_eq_true rfl) (Nat.le_of_ble_eq_true rfl) (Nat.le_of_ble_eq_true rfl) ?_
      refine x_lstore_n C dX4_digest_24 (by decide) rfl ?_
      refine x_iinc C dX4_digest_25 rfl (nI_inc _) (by decide) rfl ?_
      refine x_goto C 6 dX4_digest_28 (by decide) ?_
      refine xX.cl ih rfl (And.intro rfl (And.intro rfl (And.intro rfl trivial))) rfl
  refine x_ldc2 C kk_X4_167 dX4_digest_0 ?_
  refine x_lstore_n C dX4_digest_3 (by decide) rfl ?_
  refine x_iconst (v := 0) C dX4_digest_4 (by decide) ?_
  refine x_istore_n C dX4_digest_5 (by decide) rfl ?_
  refine xX.cl (hl1 0 (by omega)) rfl (And.intro rfl (And.intro rfl (And.intro rfl trivial))) rfl
