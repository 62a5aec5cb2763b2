set_option maxRecDepth 100000 in
set_option maxHeartbeats 1000000 in
theorem c_X3_sumOfWeights {l : Launch} {E : xEnv} {B N : Nat} {σ : Sg} {b : Nat} {V : Vs} : xM l yX3_sumOfWeights cX3_sumOfWeights 3 (some .int) 1 25 0 0 E B [.ref b] N (vput E σ b V) N (vput E σ b V) (some (.int (swL V 8))) := by
  refine xM_of [some (.ref _), none, none] (by decide +kernel) (Nat.le_of_ble_eq_true rfl) rfl (fun k0 C Z => ?_)
  have hl : ∀ i, i ≤ 8 → xX k0 N 0 0 (vput E σ b V) 4 [some (.ref b), some (.int (swL V i)), some (.int (nI i))] [] := by
    refine x_for 8 ?_ ?_
    · refine x_iload_n C dX3_sumOfWeights_4 rfl ?_
      refine x_bipush (v := 8) C dX3_sumOfWeights_5 (by decide) ?_
      refine x_ic_ge C 40 dX3_sumOfWeights_7 (by decide) (fun _ => ?_) (fun h => absurd (nI_le (a := 8) (Nat.le_refl _) (by omega)) h)
      refine x_iload_n C dX3_sumOfWeights_40 rfl ?_
      exact x_zret C Z dX3_sumOfWeights_41 rfl (Nat.le_of_ble_eq_true rfl) (Nat.le_of_ble_eq_true rfl) rfl rfl rfl
    · intro i hi ih
      refine x_iload_n C dX3_sumOfWeights_4 rfl ?_
      refine x_bipush (v := 8) C dX3_sumOfWeights_5 (by decide) ?_
      refine x_ic_ge C 40 dX3_sumOfWeights_7 (by decide) (fun h => absurd h (nI_ge (b := 8) hi (by omega))) (fun _ => ?_)
      refine x_aload_n C dX3_sumOfWeights_10 rfl ?_
      refine x_get C kf_X3_11 vput_0 rfl dX3_sumOfWeights_11 ?_
      refine x_iload_n C dX3_sumOfWeights_14 rfl ?_
      refine x_aald2 (t0 := 2) C vput_1 rfl rfl hi (by decide) dX3_sumOfWeights_15 ?_
      refine x_get C kf_X3_55 (vput_s hi) rfl dX3_sumOfWeights_16 ?_
      refine x_feq C 34 dX3_sumOfWeights_19 (by decide) (fun h19 => ?_) (fun h19 => ?_)
      · refine x_iinc C dX3_sumOfWeights_34 rfl (nI_inc _) (by decide) rfl ?_
        refine x_goto C 4 dX3_sumOfWeights_37 (by decide) ?_
        refine xX.cl ih rfl (And.intro rfl (And.intro ?_ (And.intro rfl trivial))) rfl
        rw [swL, if_neg h19]; rfl
      · refine x_iload_n C dX3_sumOfWeights_22 rfl ?_
        refine x_aload_n C dX3_sumOfWeights_23 rfl ?_
        refine x_get C kf_X3_11 vput_0 rfl dX3_sumOfWeights_24 ?_
        refine x_iload_n C dX3_sumOfWeights_27 rfl ?_
        refine x_aald2 (t0 := 2) C vput_1 rfl rfl hi (by decide) dX3_sumOfWeights_28 ?_
        refine x_callV C (c_X2_sumOfWeights hi) kv_X2_sumOfWeights kl_X3_124 dX3_sumOfWeights_29 (vput_s hi) rfl rfl rfl rfl (Nat.le_of_ble_eq_true rfl) (Nat.le_of_ble_eq_true rfl) (Nat.le_of_ble_eq_true rfl) (Nat.le_of_ble_eq_true rfl) (Nat.le_of_ble_eq_true rfl) ?_
        refine x_iadd C dX3_sumOfWeights_32 ?_
        refine x_istore_n C dX3_sumOfWeights_33 (by decide) rfl ?_
        refine x_iinc C dX3_sumOfWeights_34 rfl (nI_inc _) (by decide) rfl ?_
        refine x_goto C 4 dX3_sumOfWeights_37 (by decide) ?_
        refine xX.cl ih rfl (And.intro rfl (And.intro ?_ (And.intro rfl trivial))) rfl
        rw [swL, if_pos h19]; rfl
  refine x_iconst (v := 0) C dX3_sumOfWeights_0 (by decide) ?_
  refine x_istore_n C dX3_sumOfWeights_1 (by decide) rfl ?_
  refine x_iconst (v := 0) C dX3_sumOfWeights_2 (by decide) ?_
  refine x_istore_n C dX3_sumOfWeights_3 (by decide) rfl ?_
  refine xX.cl (hl 0 (by omega)) rfl (And.intro rfl (And.intro rfl (And.intro rfl trivial))) rfl
set_option maxRecDepth 100000 in
set_option maxHeartbeats 1000000 in
theorem c_X3_numberOf {l : Launch} {E : xEnv} {B N : Nat} {σ : Sg} {b : Nat} {V : Vs} {j : Nat} (hj : j < 7) : xM l yX3_numberOf cX3_numberOf 2 (some .int) 2 47 0 0 E B [.ref b, .int (nI j)] N (vput E σ b V) N (vput E σ b V) (some (.int (nuS V j))) := by
  rcases (show j = 0 ∨ j = 1 ∨ j = 2 ∨ j = 3 ∨ j = 4 ∨ j = 5 ∨ j = 6 by omega) with rfl | rfl | rfl | rfl | rfl | rfl | rfl
  · refine xM_of [some (.ref _), some (.int _)] (by decide +kernel) (Nat.le_of_ble_eq_true rfl) rfl (fun k0 C Z => ?_)
    refine x_iload_n C dX3_numberOf_0 rfl ?_
    refine x_tbI C 40 dX3_numberOf_1 (by decide) (by decide) rfl (by decide) ?_
    refine x_aload_n C dX3_numberOf_40 rfl ?_
    refine x_callV C c_X3_countSpeakers kv_X3_countSpeakers kl_X3_85 dX3_numberOf_41 vput_0 rfl rfl rfl rfl (Nat.le_of_ble_eq_true rfl) (Nat.le_of_ble_eq_true rfl) (Nat.le_of_ble_eq_true rfl) (Nat.le_of_ble_eq_true rfl) (Nat.le_of_ble_eq_true rfl) ?_
    exact x_zret C Z dX3_numberOf_44 rfl (Nat.le_of_ble_eq_true rfl) (Nat.le_of_ble_eq_true rfl) rfl rfl rfl
  · refine xM_of [some (.ref _), some (.int _)] (by decide +kernel) (Nat.le_of_ble_eq_true rfl) rfl (fun k0 C Z => ?_)
    refine x_iload_n C dX3_numberOf_0 rfl ?_
    refine x_tbI C 45 dX3_numberOf_1 (by decide) (by decide) rfl (by decide) ?_
    refine x_aload_n C dX3_numberOf_45 rfl ?_
    refine x_get C kf_X3_25 vput_0 rfl dX3_numberOf_46 ?_
    exact x_zret C Z dX3_numberOf_49 rfl (Nat.le_of_ble_eq_true rfl) (Nat.le_of_ble_eq_true rfl) rfl rfl rfl
  · refine xM_of [some (.ref _), some (.int _)] (by decide +kernel) (Nat.le_of_ble_eq_true rfl) rfl (fun k0 C Z => ?_)
    refine x_iload_n C dX3_numberOf_0 rfl ?_
    refine x_tbI C 50 dX3_numberOf_1 (by decide) (by decide) rfl (by decide) ?_
    refine x_aload_n C dX3_numberOf_50 rfl ?_
    refine x_get C kf_X3_39 vput_0 rfl dX3_numberOf_51 ?_
    exact x_zret C Z dX3_numberOf_54 rfl (Nat.le_of_ble_eq_true rfl) (Nat.le_of_ble_eq_true rfl) rfl rfl rfl
  · refine xM_of [some (.ref _), some (.int _)] (by decide +kernel) (Nat.le_of_ble_eq_true rfl) rfl (fun k0 C Z => ?_)
    refine x_iload_n C dX3_numberOf_0 rfl ?_
    refine x_tbI C 55 dX3_numberOf_1 (by decide) (by decide) rfl (by decide) ?_
    refine x_aload_n C dX3_numberOf_55 rfl ?_
    refine x_get C kf_X3_42 vput_0 rfl dX3_numberOf_56 ?_
    exact x_zret C Z dX3_numberOf_59 rfl (Nat.le_of_ble_eq_true rfl) (Nat.le_of_ble_eq_true rfl) rfl rfl rfl
  · refine xM_of [some (.ref _), some (.int _)] (by decide +kernel) (Nat.le_of_ble_eq_true rfl) rfl (fun k0 C Z => ?_)
    refine x_iload_n C dX3_numberOf_0 rfl ?_
    refine x_tbI C 60 dX3_numberOf_1 (by decide) (by decide) rfl (by decide) ?_
    refine x_aload_n C dX3_numberOf_60 rfl ?_
    refine x_get C kf_X3_45 vput_0 rfl dX3_numberOf_61 ?_
    exact x_zret C Z dX3_numberOf_64 rfl (Nat.le_of_ble_eq_true rfl) (Nat.le_of_ble_eq_true rfl) rfl rfl rfl
  · refine xM_of [some (.ref _), some (.int _)] (by decide +kernel) (Nat.le_of_ble_eq_true rfl) rfl (fun k0 C Z => ?_)
    refine x_iload_n C dX3_numberOf_0 rfl ?_
    refine x_tbI C 65 dX3_numberOf_1 (by decide) (by decide) rfl (by decide) ?_
    refine x_aload_n C dX3_numberOf_65 rfl ?_
    refine x_get C kf_X3_48 vput_0 rfl dX3_numberOf_66 ?_
    exact x_zret C Z dX3_numberOf_69 rfl (Nat.le_of_ble_eq_true rfl) (Nat.le_of_ble_eq_true rfl) rfl rfl rfl
  · refine xM_of [some (.ref _), some (.int _)] (by decide +kernel) (Nat.le_of_ble_eq_true rfl) rfl (fun k0 C Z => ?_)
    refine x_iload_n C dX3_numberOf_0 rfl ?_
    refine x_tbO C 70 dX3_numberOf_1 (Or.inr (by decide)) (by decide) ?_
    refine x_aload_n C dX3_numberOf_70 rfl ?_
    refine x_callV C c_X3_sumOfWeights kv_X3_sumOfWeights kl_X3_112 dX3_numberOf_71 vput_0 rfl rfl rfl rfl (Nat.le_of_ble_eq_true rfl) (Nat.le_of_ble_eq_true rfl) (Nat.le_of_ble_eq_true rfl) (Nat.le_of_ble_eq_true rfl) (Nat.le_of_ble_eq_true rfl) ?_
    exact x_zret C Z dX3_numberOf_74 rfl (Nat.le_of_ble_eq_true rfl) (Nat.le_of_ble_eq_true rfl) rfl rfl rfl
set_option maxRecDepth 100000 in
set_option maxHeartbeats 1000000 in
theorem c_X3_numberOfSpeaker {l : Launch} {E : xEnv} {B N : Nat} {σ : Sg} {b : Nat} {V : Vs} {k j : Nat} (hk : k < 8) (hj : j < 5) : xM l yX3_numberOfSpeaker cX3_numberOfSpeaker 3 (some .int) 4 91 0 0 E B [.ref b, .ref (b + 2 + 2 * k), .int (nI j)] N (vput E σ b V) N (vput E σ b V) (some (.int (nsS V k j))) := by
  rcases (show j = 0 ∨ j = 1 ∨ j = 2 ∨ j = 3 ∨ j = 4 by omega) with rfl | rfl | rfl | rfl | rfl
  · refine xM_of [some (.ref _), some (.ref _), some (.int _)] (by decide +kernel) (Nat.le_of_ble_eq_true rfl) rfl (fun k0 C Z => ?_)
    refine x_iload_n C dX3_numberOfSpeaker_0 rfl ?_
    refine x_tbI C 32 dX3_numberOfSpeaker_1 (by decide) (by decide) rfl (by decide) ?_
    refine x_aload_n C dX3_numberOfSpeaker_32 rfl ?_
    refine x_get C kf_X3_104 (vput_s hk) rfl dX3_numberOfSpeaker_33 ?_
    exact x_zret C Z dX3_numberOfSpeaker_36 rfl (Nat.le_of_ble_eq_true rfl) (Nat.le_of_ble_eq_true rfl) rfl rfl rfl
  · refine xM_of [some (.ref _), some (.ref _), some (.int _)] (by decide +kernel) (Nat.le_of_ble_eq_true rfl) rfl (fun k0 C Z => ?_)
    refine x_iload_n C dX3_numberOfSpeaker_0 rfl ?_
    refine x_tbI C 37 dX3_numberOfSpeaker_1 (by decide) (by decide) rfl (by decide) ?_
    refine x_aload_n C dX3_numberOfSpeaker_37 rfl ?_
    refine x_aload_n C dX3_numberOfSpeaker_38 rfl ?_
    refine x_get C kf_X3_18 vput_0 rfl dX3_numberOfSpeaker_39 ?_
    refine x_iconst (v := 0) C dX3_numberOfSpeaker_42 (by decide) ?_
    refine x_iald2 C vput_18 rfl (by decide) (by decide) dX3_numberOfSpeaker_43 ?_
    refine x_callV C (c_X2_learnsWith hk _) kv_X2_learnsWith kl_X3_115 dX3_numberOfSpeaker_44 (vput_s hk) rfl rfl rfl rfl (Nat.le_of_ble_eq_true rfl) (Nat.le_of_ble_eq_true rfl) (Nat.le_of_ble_eq_true rfl) (Nat.le_of_ble_eq_true rfl) (Nat.le_of_ble_eq_true rfl) ?_
    exact x_zret C Z dX3_numberOfSpeaker_47 rfl (Nat.le_of_ble_eq_true rfl) (Nat.le_of_ble_eq_true rfl) rfl rfl rfl
  · refine xM_of [some (.ref _), some (.ref _), some (.int _)] (by decide +kernel) (Nat.le_of_ble_eq_true rfl) rfl (fun k0 C Z => ?_)
    refine x_iload_n C dX3_numberOfSpeaker_0 rfl ?_
    refine x_tbI C 48 dX3_numberOfSpeaker_1 (by decide) (by decide) rfl (by decide) ?_
    refine x_aload_n C dX3_numberOfSpeaker_48 rfl ?_
    refine x_callV C (c_X2_countWords hk) kv_X2_countWords kl_X3_118 dX3_numberOfSpeaker_49 (vput_s hk) rfl rfl rfl rfl (Nat.le_of_ble_eq_true rfl) (Nat.le_of_ble_eq_true rfl) (Nat.le_of_ble_eq_true rfl) (Nat.le_of_ble_eq_true rfl) (Nat.le_of_ble_eq_true rfl) ?_
    exact x_zret C Z dX3_numberOfSpeaker_52 rfl (Nat.le_of_ble_eq_true rfl) (Nat.le_of_ble_eq_true rfl) rfl rfl rfl
  · refine xM_of [some (.ref _), some (.ref _), some (.int _)] (by decide +kernel) (Nat.le_of_ble_eq_true rfl) rfl (fun k0 C Z => ?_)
    refine x_iload_n C dX3_numberOfSpeaker_0 rfl ?_
    refine x_tbI C 53 dX3_numberOfSpeaker_1 (by decide) (by decide) rfl (by decide) ?_
    refine x_aload_n C dX3_numberOfSpeaker_53 rfl ?_
    refine x_callV C (c_X2_countConfusions hk) kv_X2_countConfusions kl_X3_121 dX3_numberOfSpeaker_54 (vput_s hk) rfl rfl rfl rfl (Nat.le_of_ble_eq_true rfl) (Nat.le_of_ble_eq_true rfl) (Nat.le_of_ble_eq_true rfl) (Nat.le_of_ble_eq_true rfl) (Nat.le_of_ble_eq_true rfl) ?_
    exact x_zret C Z dX3_numberOfSpeaker_57 rfl (Nat.le_of_ble_eq_true rfl) (Nat.le_of_ble_eq_true rfl) rfl rfl rfl
  · refine xM_of [some (.ref _), some (.ref _), some (.int _)] (by decide +kernel) (Nat.le_of_ble_eq_true rfl) rfl (fun k0 C Z => ?_)
    refine x_iload_n C dX3_numberOfSpeaker_0 rfl ?_
    refine x_tbO C 58 dX3_numberOfSpeaker_1 (Or.inr (by decide)) (by decide) ?_
    refine x_aload_n C dX3_numberOfSpeaker_58 rfl ?_
    refine x_get C kf_X3_73 (vput_s hk) rfl dX3_numberOfSpeaker_59 ?_
    exact x_zret C Z dX3_numberOfSpeaker_62 rfl (Nat.le_of_ble_eq_true rfl) (Nat.le_of_ble_eq_true rfl) rfl rfl rfl
set_option maxRecDepth 100000 in
set_option maxHeartbeats 1000000 in
theorem c_X3_countUsers {l : Launch} {E : xEnv} {B N : Nat} {σ : Sg} {b : Nat} {V : Vs} {m : Nat} (hm : m < 6) : xM l yX3_countUsers cX3_countUsers 4 none 3 67 0 0 E B [.ref b, .int (nI m)] N (vput E σ b V) N (vput E σ b (usR V m 8)) none := by
  refine xM_of [some (.ref _), some (.int _), none, none] (by decide +kernel) (Nat.le_of_ble_eq_true rfl) rfl (fun k0 C Z => ?_)
  have hl2 : ∀ i, i ≤ 8 → xX k0 N 0 0 (vput E σ b (usR V m i)) 23 [some (.ref b), some (.int (nI m)), some (.int (nI i)), none] [] := by
    refine x_for 8 ?_ ?_
    · refine x_iload_n C dX3_countUsers_23 rfl ?_
      refine x_bipush (v := 8) C dX3_countUsers_24 (by decide) ?_
      refine x_ic_ge C 80 dX3_countUsers_26 (by decide) (fun _ => ?_) (fun h => absurd (nI_le (a := 8) (Nat.le_refl _) (by omega)) h)
      exact x_vret C Z dX3_countUsers_80 (Nat.le_of_ble_eq_true rfl) (Nat.le_of_ble_eq_true rfl) rfl rfl
    · intro i hi ih
      refine x_iload_n C dX3_countUsers_23 rfl ?_
      refine x_bipush (v := 8) C dX3_countUsers_24 (by decide) ?_
      refine x_ic_ge C 80 dX3_countUsers_26 (by decide) (fun h => absurd h (nI_ge (b := 8) hi (by omega))) (fun _ => ?_)
      refine x_aload_n C dX3_countUsers_29 rfl ?_
      refine x_get C kf_X3_11 vput_0 rfl dX3_countUsers_30 ?_
      refine x_iload_n C dX3_countUsers_33 rfl ?_
      refine x_aald2 (t0 := 2) C vput_1 rfl rfl hi (by decide) dX3_countUsers_34 ?_
      refine x_get C kf_X3_55 (vput_s hi) rfl dX3_countUsers_35 ?_
      refine x_feq C 54 dX3_countUsers_38 (by decide) (fun h38 => ?_) (fun h38 => ?_)
      · rw [usR_r (by decide)] at h38
        refine x_bipush (v := (-6)) C dX3_countUsers_54 (by decide) ?_
        refine x_istore_n C dX3_countUsers_56 (by decide) rfl ?_
        refine x_iload_n C dX3_countUsers_57 rfl ?_
        refine x_callS C (c_X4_isWord _) ks_X4_isWord kl_X3_129 dX3_countUsers_58 rfl rfl rfl rfl (Nat.le_of_ble_eq_true rfl) (Nat.le_of_ble_eq_true rfl) (Nat.le_of_ble_eq_true rfl) (Nat.le_of_ble_eq_true rfl) (Nat.le_of_ble_eq_true rfl) ?_
        refine x_beq C 74 dX3_countUsers_61 (by decide) (fun _ => ?_) (fun h => absurd h (show ¬ (0 ≤ (-6 : Int32) ∧ (-6 : Int32) < 14) by decide))
        refine x_iinc C dX3_countUsers_74 rfl (nI_inc _) (by decide) rfl ?_
        refine x_goto C 23 dX3_countUsers_77 (by decide) ?_
        refine xX.cl ih (congrArg _ (usR_f (fun w z => h38 z.1))) (And.intro rfl (And.intro rfl (And.intro rfl trivial))) rfl
      · rw [usR_r (by decide)] at h38
        refine x_aload_n C dX3_countUsers_41 rfl ?_
        refine x_get C kf_X3_11 vput_0 rfl dX3_countUsers_42 ?_
        refine x_iload_n C dX3_countUsers_45 rfl ?_
        refine x_aald2 (t0 := 2) C vput_1 rfl rfl hi (by decide) dX3_countUsers_46 ?_
        refine x_iload_n C dX3_countUsers_47 rfl ?_
        refine x_callV C (c_X2_wordFor hi hm) kv_X2_wordFor kl_X3_63 dX3_countUsers_48 (vput_s hi) rfl rfl rfl rfl (Nat.le_of_ble_eq_true rfl) (Nat.le_of_ble_eq_true rfl) (Nat.le_of_ble_eq_true rfl) (Nat.le_of_ble_eq_true rfl) (Nat.le_of_ble_eq_true rfl) ?_
        refine x_goto C 56 dX3_countUsers_51 (by decide) ?_
        refine x_istore_n C dX3_countUsers_56 (by decide) rfl ?_
        rw [usR_r (show i ≠ 13 by omega)]
        cases hq : wfS (V i) m with
        | none =>
          refine x_iload_n C dX3_countUsers_57 rfl ?_
          refine x_callS C (c_X4_isWord _) ks_X4_isWord kl_X3_129 dX3_countUsers_58 rfl rfl rfl rfl (Nat.le_of_ble_eq_true rfl) (Nat.le_of_ble_eq_true rfl) (Nat.le_of_ble_eq_true rfl) (Nat.le_of_ble_eq_true rfl) (Nat.le_of_ble_eq_true rfl) ?_
          refine x_beq C 74 dX3_countUsers_61 (by decide) (fun _ => ?_) (fun h => absurd h (show ¬ (0 ≤ (-6 : Int32) ∧ (-6 : Int32) < 14) by decide))
          refine x_iinc C dX3_countUsers_74 rfl (nI_inc _) (by decide) rfl ?_
          refine x_goto C 23 dX3_countUsers_77 (by decide) ?_
          refine xX.cl ih (congrArg _ (usR_f (fun w z => by rw [hq] at z; cases z.2))) (And.intro rfl (And.intro rfl (And.intro rfl trivial))) rfl
        | some w =>
          refine x_iload_n C dX3_countUsers_57 rfl ?_
          refine x_callS C (c_X4_isWord _) ks_X4_isWord kl_X3_129 dX3_countUsers_58 rfl rfl rfl rfl (Nat.le_of_ble_eq_true rfl) (Nat.le_of_ble_eq_true rfl) (Nat.le_of_ble_eq_true rfl) (Nat.le_of_ble_eq_true rfl) (Nat.le_of_ble_eq_true rfl) ?_
          refine x_beq C 74 dX3_countUsers_61 (by decide) (fun h => absurd (bd_in (c := 14) (wfS_in hq) (by decide)) h) (fun _ => ?_)
          refine x_aload_n C dX3_countUsers_64 rfl ?_
          refine x_get C kf_X3_22 vput_0 rfl dX3_countUsers_65 ?_
          refine x_iload_n C dX3_countUsers_68 rfl ?_
          refine x_dup2 C dX3_countUsers_69 rfl rfl ?_
          refine x_iald2 C vput_19 rfl (wfS_in hq) (by decide) dX3_countUsers_70 ?_
          refine x_iconst (v := 1) C dX3_countUsers_71 (by decide) ?_
          refine x_iadd C dX3_countUsers_72 ?_
          refine x_iast2 C vput_19 rfl (wfS_in hq) (by decide) (fun _ _ => rfl) (vput_us _ _) dX3_countUsers_73 ?_
          refine x_iinc C dX3_countUsers_74 rfl (nI_inc _) (by decide) rfl ?_
          refine x_goto C 23 dX3_countUsers_77 (by decide) ?_
          refine xX.cl ih (congrArg _ (usR_t h38 hq)) (And.intro rfl (And.intro rfl (And.intro rfl trivial))) rfl
  have hl : ∀ i, i ≤ 14 → xX k0 N 0 0 (vput E σ b (usZ V i)) 2 [some (.ref b), some (.int (nI m)), some (.int (nI i)), none] [] := by
    refine x_for 14 ?_ ?_
    · refine x_iload_n C dX3_countUsers_2 rfl ?_
      refine x_bipush (v := 14) C dX3_countUsers_3 (by decide) ?_
      refine x_ic_ge C 21 dX3_countUsers_5 (by decide) (fun _ => ?_) (fun h => absurd (nI_le (a := 14) (Nat.le_refl _) (by omega)) h)
      refine x_iconst (v := 0) C dX3_countUsers_21 (by decide) ?_
      refine x_istore_n C dX3_countUsers_22 (by decide) rfl ?_
      refine xX.cl (hl2 0 (by omega)) (congrArg _ usR_0) (And.intro rfl (And.intro rfl (And.intro rfl trivial))) rfl
    · intro i hi ih
      refine x_iload_n C dX3_countUsers_2 rfl ?_
      refine x_bipush (v := 14) C dX3_countUsers_3 (by decide) ?_
      refine x_ic_ge C 21 dX3_countUsers_5 (by decide) (fun h => absurd h (nI_ge (b := 14) hi (by omega))) (fun _ => ?_)
      refine x_aload_n C dX3_countUsers_8 rfl ?_
      refine x_get C kf_X3_22 vput_0 rfl dX3_countUsers_9 ?_
      refine x_iload_n C dX3_countUsers_12 rfl ?_
      refine x_iconst (v := 0) C dX3_countUsers_13 (by decide) ?_
      refine x_iast2 C vput_19 rfl hi (by decide) (fun _ _ => rfl) (vput_us _ _) dX3_countUsers_14 ?_
      refine x_iinc C dX3_countUsers_15 rfl (nI_inc _) (by decide) rfl ?_
      refine x_goto C 2 dX3_countUsers_18 (by decide) ?_
      refine xX.cl ih (congrArg _ usZ_s) (And.intro rfl (And.intro rfl (And.intro rfl trivial))) rfl
  refine x_iconst (v := 0) C dX3_countUsers_0 (by decide) ?_
  refine x_istore_n C dX3_countUsers_1 (by decide) rfl ?_
  refine xX.cl (hl 0 (by omega)) (congrArg _ usZ_0.symm) (And.intro rfl (And.intro rfl (And.intro rfl trivial))) rfl
set_option maxRecDepth 100000 in
set_option maxHeartbeats 1000000 in
theorem c_X3_commonWord {l : Launch} {E : xEnv} {B N : Nat} {σ : Sg} {b : Nat} {V : Vs} {m : Nat} (hm : m < 6) : xM l yX3_commonWord cX3_commonWord 5 (some .int) 4 90 0 0 E B [.ref b, .int (nI m)] N (vput E σ b V) N (vput E σ b (usR V m 8)) (some (.int (oI (cmS V m)))) := by
  refine xM_of [some (.ref _), some (.int _), none, none, none] (by decide +kernel) (Nat.le_of_ble_eq_true rfl) rfl (fun k0 C Z => ?_)
  have hl : ∀ i, i ≤ 14 → xX k0 N 0 0 (vput E σ b (usR V m 8)) 13 [some (.ref b), some (.int (nI m)), some (.int (oI (wfL (fun w => nI (cuN V m w 8)) i).1)), some (.int (wfL (fun w => nI (cuN V m w 8)) i).2), some (.int (nI i))] [] := by
    refine x_for 14 ?_ ?_
    · refine x_iload C dX3_commonWord_13 rfl ?_
      refine x_bipush (v := 14) C dX3_commonWord_15 (by decide) ?_
      refine x_ic_ge C 48 dX3_commonWord_17 (by decide) (fun _ => ?_) (fun h => absurd (nI_le (a := 14) (Nat.le_refl _) (by omega)) h)
      refine x_iload_n C dX3_commonWord_48 rfl ?_
      exact x_zret C Z dX3_commonWord_49 rfl (Nat.le_of_ble_eq_true rfl) (Nat.le_of_ble_eq_true rfl) rfl rfl rfl
    · intro i hi ih
      refine x_iload C dX3_commonWord_13 rfl ?_
      refine x_bipush (v := 14) C dX3_commonWord_15 (by decide) ?_
      refine x_ic_ge C 48 dX3_commonWord_17 (by decide) (fun h => absurd h (nI_ge (b := 14) hi (by omega))) (fun _ => ?_)
      refine x_aload_n C dX3_commonWord_20 rfl ?_
      refine x_get C kf_X3_22 vput_0 rfl dX3_commonWord_21 ?_
      refine x_iload C dX3_commonWord_24 rfl ?_
      refine x_iald2 C vput_19 rfl hi (by decide) dX3_commonWord_26 ?_
      rw [usR_w hi]
      refine x_iload_n C dX3_commonWord_27 rfl ?_
      refine x_ic_le C 42 dX3_commonWord_28 (by decide) (fun h28 => ?_) (fun h28 => ?_)
      · refine x_iinc C dX3_commonWord_42 rfl (nI_inc _) (by decide) rfl ?_
        refine x_goto C 13 dX3_commonWord_45 (by decide) ?_
        refine xX.cl ih rfl (And.intro rfl (And.intro rfl (And.intro ?_ (And.intro ?_ (And.intro rfl trivial))))) rfl
        all_goals (rw [wfL, if_pos h28]; rfl)
      · refine x_aload_n C dX3_commonWord_31 rfl ?_
        refine x_get C kf_X3_22 vput_0 rfl dX3_commonWord_32 ?_
        refine x_iload C dX3_commonWord_35 rfl ?_
        refine x_iald2 C vput_19 rfl hi (by decide) dX3_commonWord_37 ?_
        rw [usR_w hi]
        refine x_istore_n C dX3_commonWord_38 (by decide) rfl ?_
        refine x_iload C dX3_commonWord_39 rfl ?_
        refine x_istore_n C dX3_commonWord_41 (by decide) rfl ?_
        refine x_iinc C dX3_commonWord_42 rfl (nI_inc _) (by decide) rfl ?_
        refine x_goto C 13 dX3_commonWord_45 (by decide) ?_
        refine xX.cl ih rfl (And.intro rfl (And.intro rfl (And.intro ?_ (And.intro ?_ (And.intro rfl trivial))))) rfl
        all_goals (rw [wfL, if_neg h28]; rfl)
  refine x_aload_n C dX3_commonWord_0 rfl ?_
  refine x_iload_n C dX3_commonWord_1 rfl ?_
  refine x_callV C (c_X3_countUsers hm) kv_X3_countUsers kl_X3_125 dX3_commonWord_2 vput_0 rfl rfl rfl rfl (Nat.le_of_ble_eq_true rfl) (Nat.le_of_ble_eq_true rfl) (Nat.le_of_ble_eq_true rfl) (Nat.le_of_ble_eq_true rfl) (Nat.le_of_ble_eq_true rfl) ?_
  refine x_bipush (v := (-6)) C dX3_commonWord_5 (by decide) ?_
  refine x_istore_n C dX3_commonWord_7 (by decide) rfl ?_
  refine x_iconst (v := 0) C dX3_commonWord_8 (by decide) ?_
  refine x_istore_n C dX3_commonWord_9 (by decide) rfl ?_
  refine x_iconst (v := 0) C dX3_commonWord_10 (by decide) ?_
  refine x_istore C dX3_commonWord_11 (by decide) rfl ?_
  refine xX.cl (hl 0 (by omega)) rfl (And.intro rfl (And.intro rfl (And.intro rfl (And.intro rfl (And.intro rfl trivial))))) rfl
set_option maxRecDepth 100000 in
set_option maxHeartbeats 1000000 in
theorem c_X3_passYear {l : Launch} {E : xEnv} {B N : Nat} {σ : Sg} {b : Nat} {V : Vs} : xM l yX3_passYear cX3_passYear 3 none 3 69 0 0 E B [.ref b] N (vput E σ b V) N (vput E σ b (yrS V)) none := by
  refine xM_of [some (.ref _), none, none] (by decide +kernel) (Nat.le_of_ble_eq_true rfl) rfl (fun k0 C Z => ?_)
  have hl2 : ∀ i, i ≤ 8 → xX k0 N 0 0 (vput E σ b (byL (agL (up2 V 9 4 (V 9 4 + 1)) 8) i)) 53 [some (.ref b), some (.int (nI i)), none] [] := by
    refine x_for 8 ?_ ?_
    · refine x_iload_n C dX3_passYear_53 rfl ?_
      refine x_bipush (v := 8) C dX3_passYear_54 (by decide) ?_
      refine x_ic_ge C 117 dX3_passYear_56 (by decide) (fun _ => ?_) (fun h => absurd (nI_le (a := 8) (Nat.le_refl _) (by omega)) h)
      exact x_vret C Z dX3_passYear_117 (Nat.le_of_ble_eq_true rfl) (Nat.le_of_ble_eq_true rfl) rfl rfl
    · intro i hi ih
      refine x_iload_n C dX3_passYear_53 rfl ?_
      refine x_bipush (v := 8) C dX3_passYear_54 (by decide) ?_
      refine x_ic_ge C 117 dX3_passYear_56 (by decide) (fun h => absurd h (nI_ge (b := 8) hi (by omega))) (fun _ => ?_)
      refine x_aload_n C dX3_passYear_59 rfl ?_
      refine x_get C kf_X3_11 vput_0 rfl dX3_passYear_60 ?_
      refine x_iload_n C dX3_passYear_63 rfl ?_
      refine x_aald2 (t0 := 2) C vput_1 rfl rfl hi (by decide) dX3_passYear_64 ?_
      refine x_astore_n C dX3_passYear_65 (by decide) rfl ?_
      refine x_aload_n C dX3_passYear_66 rfl ?_
      refine x_get C kf_X3_55 (vput_s hi) rfl dX3_passYear_67 ?_
      refine x_feq C 111 dX3_passYear_70 (by decide) (fun h70 => ?_) (fun h70 => ?_)
      · refine x_iinc C dX3_passYear_111 rfl (nI_inc _) (by decide) rfl ?_
        refine x_goto C 53 dX3_passYear_114 (by decide) ?_
        refine xX.cl ih (congrArg _ (byK_f (fun z => h70 z.1)).symm) (And.intro rfl (And.intro rfl trivial)) rfl
      · refine x_aload_n C dX3_passYear_73 rfl ?_
        refine x_get C kf_X3_104 (vput_s hi) rfl dX3_passYear_74 ?_
        refine x_aload_n C dX3_passYear_77 rfl ?_
        refine x_get C kf_X3_18 vput_0 rfl dX3_passYear_78 ?_
        refine x_iconst (v := 2) C dX3_passYear_81 (by decide) ?_
        refine x_iald2 C vput_18 rfl (by decide) (by decide) dX3_passYear_82 ?_
        refine x_ic_le C 111 dX3_passYear_83 (by decide) (fun h83 => ?_) (fun h83 => ?_)
        · refine x_iinc C dX3_passYear_111 rfl (nI_inc _) (by decide) rfl ?_
          refine x_goto C 53 dX3_passYear_114 (by decide) ?_
          refine xX.cl ih (congrArg _ (byK_f (fun z => z.2 h83)).symm) (And.intro rfl (And.intro rfl trivial)) rfl
        · cases ht : teS (byL (agL (up2 V 9 4 (V 9 4 + 1)) 8) i) i 8 with
          | none =>
            refine x_aload_n C dX3_passYear_86 rfl ?_
            refine x_aload_n C dX3_passYear_87 rfl ?_
            refine x_iload_n C dX3_passYear_88 rfl ?_
            refine x_callV C (c_X3_teacherFor_none hi ht) kv_X3_teacherFor kl_X3_105 dX3_passYear_89 vput_0 rfl rfl rfl rfl (Nat.le_of_ble_eq_true rfl) (Nat.le_of_ble_eq_true rfl) (Nat.le_of_ble_eq_true rfl) (Nat.le_of_ble_eq_true rfl) (Nat.le_of_ble_eq_true rfl) ?_
            refine x_aload_n C dX3_passYear_92 rfl ?_
            refine x_get C kf_X3_18 vput_0 rfl dX3_passYear_93 ?_
            refine x_iconst (v := 3) C dX3_passYear_96 (by decide) ?_
            refine x_iald2 C vput_18 rfl (by decide) (by decide) dX3_passYear_97 ?_
            refine x_callV C (c_X2_beginLife_none hi _) kv_X2_beginLife kl_X3_108 dX3_passYear_98 (vput_s hi) rfl rfl rfl rfl (Nat.le_of_ble_eq_true rfl) (Nat.le_of_ble_eq_true rfl) (Nat.le_of_ble_eq_true rfl) (Nat.le_of_ble_eq_true rfl) (Nat.le_of_ble_eq_true rfl) ?_
            refine x_aload_n C dX3_passYear_101 rfl ?_
            refine x_dup C dX3_passYear_102 rfl ?_
            refine x_get C kf_X3_45 vput_0 rfl dX3_passYear_103 ?_
            refine x_iconst (v := 1) C dX3_passYear_106 (by decide) ?_
            refine x_iadd C dX3_passYear_107 ?_
            refine x_put (ty := .int) C kf_X3_45 vput_0 rfl (by decide +kernel) rfl rfl (Nat.le_of_ble_eq_true rfl) (vput_v3 _) dX3_passYear_108 ?_
            refine x_iinc C dX3_passYear_111 rfl (nI_inc _) (by decide) rfl ?_
            refine x_goto C 53 dX3_passYear_114 (by decide) ?_
            refine xX.cl ih (congrArg _ (byK_t ⟨h70, h83⟩ ht).symm) (And.intro rfl (And.intro rfl trivial)) rfl
          | some y =>
            have hy := teS_in ht
            refine x_aload_n C dX3_passYear_86 rfl ?_
            refine x_aload_n C dX3_passYear_87 rfl ?_
            refine x_iload_n C dX3_passYear_88 rfl ?_
            refine x_callV C (c_X3_teacherFor_some hi ht) kv_X3_teacherFor kl_X3_105 dX3_passYear_89 vput_0 rfl rfl rfl rfl (Nat.le_of_ble_eq_true rfl) (Nat.le_of_ble_eq_true rfl) (Nat.le_of_ble_eq_true rfl) (Nat.le_of_ble_eq_true rfl) (Nat.le_of_ble_eq_true rfl) ?_
            refine x_aload_n C dX3_passYear_92 rfl ?_
            refine x_get C kf_X3_18 vput_0 rfl dX3_passYear_93 ?_
            refine x_iconst (v := 3) C dX3_passYear_96 (by decide) ?_
            refine x_iald2 C vput_18 rfl (by decide) (by decide) dX3_passYear_97 ?_
            refine x_callV C (c_X2_beginLife_some hi hy.1 hy.2 _) kv_X2_beginLife kl_X3_108 dX3_passYear_98 (vput_s hi) rfl rfl rfl rfl (Nat.le_of_ble_eq_true rfl) (Nat.le_of_ble_eq_true rfl) (Nat.le_of_ble_eq_true rfl) (Nat.le_of_ble_eq_true rfl) (Nat.le_of_ble_eq_true rfl) ?_
            refine x_aload_n C dX3_passYear_101 rfl ?_
            refine x_dup C dX3_passYear_102 rfl ?_
            refine x_get C kf_X3_45 vput_0 rfl dX3_passYear_103 ?_
            refine x_iconst (v := 1) C dX3_passYear_106 (by decide) ?_
            refine x_iadd C dX3_passYear_107 ?_
            refine x_put (ty := .int) C kf_X3_45 vput_0 rfl (by decide +kernel) rfl rfl (Nat.le_of_ble_eq_true rfl) (vput_v3 _) dX3_passYear_108 ?_
            refine x_iinc C dX3_passYear_111 rfl (nI_inc _) (by decide) rfl ?_
            refine x_goto C 53 dX3_passYear_114 (by decide) ?_
            refine xX.cl ih (congrArg _ (byK_t ⟨h70, h83⟩ ht).symm) (And.intro rfl (And.intro rfl trivial)) rfl
  have hl : ∀ i, i ≤ 8 → xX k0 N 0 0 (vput E σ b (agL (up2 V 9 4 (V 9 4 + 1)) i)) 12 [some (.ref b), some (.int (nI i)), none] [] := by
    refine x_for 8 ?_ ?_
    · refine x_iload_n C dX3_passYear_12 rfl ?_
      refine x_bipush (v := 8) C dX3_passYear_13 (by decide) ?_
      refine x_ic_ge C 51 dX3_passYear_15 (by decide) (fun _ => ?_) (fun h => absurd (nI_le (a := 8) (Nat.le_refl _) (by omega)) h)
      refine x_iconst (v := 0) C dX3_passYear_51 (by decide) ?_
      refine x_istore_n C dX3_passYear_52 (by decide) rfl ?_
      refine xX.cl (hl2 0 (by omega)) rfl (And.intro rfl (And.intro rfl trivial)) rfl
    · intro i hi ih
      refine x_iload_n C dX3_passYear_12 rfl ?_
      refine x_bipush (v := 8) C dX3_passYear_13 (by decide) ?_
      refine x_ic_ge C 51 dX3_passYear_15 (by decide) (fun h => absurd h (nI_ge (b := 8) hi (by omega))) (fun _ => ?_)
      refine x_aload_n C dX3_passYear_18 rfl ?_
      refine x_get C kf_X3_11 vput_0 rfl dX3_passYear_19 ?_
      refine x_iload_n C dX3_passYear_22 rfl ?_
      refine x_aald2 (t0 := 2) C vput_1 rfl rfl hi (by decide) dX3_passYear_23 ?_
      refine x_get C kf_X3_55 (vput_s hi) rfl dX3_passYear_24 ?_
      refine x_feq C 45 dX3_passYear_27 (by decide) (fun h27 => ?_) (fun h27 => ?_)
      · rw [agL_10 (by decide)] at h27
        refine x_iinc C dX3_passYear_45 rfl (nI_inc _) (by decide) rfl ?_
        refine x_goto C 12 dX3_passYear_48 (by decide) ?_
        refine xX.cl ih (congrArg _ (agL_f h27)) (And.intro rfl (And.intro rfl trivial)) rfl
      · rw [agL_10 (by decide)] at h27
        refine x_aload_n C dX3_passYear_30 rfl ?_
        refine x_get C kf_X3_11 vput_0 rfl dX3_passYear_31 ?_
        refine x_iload_n C dX3_passYear_34 rfl ?_
        refine x_aald2 (t0 := 2) C vput_1 rfl rfl hi (by decide) dX3_passYear_35 ?_
        refine x_dup C dX3_passYear_36 rfl ?_
        refine x_get C kf_X3_104 (vput_s hi) rfl dX3_passYear_37 ?_
        refine x_iconst (v := 1) C dX3_passYear_40 (by decide) ?_
        refine x_iadd C dX3_passYear_41 ?_
        refine x_put (ty := .int) C kf_X3_104 (vput_s hi) rfl (by decide +kernel) rfl rfl (Nat.le_of_ble_eq_true rfl) (vput_a hi _) dX3_passYear_42 ?_
        refine x_iinc C dX3_passYear_45 rfl (nI_inc _) (by decide) rfl ?_
        refine x_goto C 12 dX3_passYear_48 (by decide) ?_
        refine xX.cl ih (congrArg _ (agL_t h27)) (And.intro rfl (And.intro rfl trivial)) rfl
  refine x_aload_n C dX3_passYear_0 rfl ?_
  refine x_dup C dX3_passYear_1 rfl ?_
  refine x_get C kf_X3_48 vput_0 rfl dX3_passYear_2 ?_
  refine x_iconst (v := 1) C dX3_passYear_5 (by decide) ?_
  refine x_iadd C dX3_passYear_6 ?_
  refine x_put (ty := .int) C kf_X3_48 vput_0 rfl (by decide +kernel) rfl rfl (Nat.le_of_ble_eq_true rfl) (vput_v4 _) dX3_passYear_7 ?_
  refine x_iconst (v := 0) C dX3_passYear_10 (by decide) ?_
  refine x_istore_n C dX3_passYear_11 (by decide) rfl ?_
  refine xX.cl (hl 0 (by omega)) (congrArg _ agL_0.symm) (And.intro rfl (And.intro rfl trivial)) rfl
set_option maxRecDepth 100000 in
set_option maxHeartbeats 1000000 in
theorem c_X3_passYears {l : Launch} {E : xEnv} {B N : Nat} {σ : Sg} {b : Nat} {V : Vs} {n : Nat} (hn : n < 2 ^ 31) : xM l yX3_passYears cX3_passYears 4 (some .int) 4 91 0 0 E B [.ref b, .int (nI n)] N (vput E σ b V) N (vput E σ b (yrL V n)) (some (.int (yrL V n 9 3 - V 9 3))) := by
  refine xM_of [some (.ref _), some (.int _), none, none] (by decide +kernel) (Nat.le_of_ble_eq_true rfl) rfl (fun k0 C Z => ?_)
  have hl : ∀ i, i ≤ n → xX k0 N 0 0 (vput E σ b (yrL V i)) 7 [some (.ref b), some (.int (nI n)), some (.int (V 9 3)), some (.int (nI i))] [] := by
    refine x_for n ?_ ?_
    · refine x_iload_n C dX3_passYears_7 rfl ?_
      refine x_iload_n C dX3_passYears_8 rfl ?_
      refine x_ic_ge C 22 dX3_passYears_9 (by decide) (fun _ => ?_) (fun h => absurd (nI_le (Nat.le_refl _) hn) h)
      refine x_aload_n C dX3_passYears_22 rfl ?_
      refine x_get C kf_X3_45 vput_0 rfl dX3_passYears_23 ?_
      refine x_iload_n C dX3_passYears_26 rfl ?_
      refine x_isub C dX3_passYears_27 ?_
      exact x_zret C Z dX3_passYears_28 rfl (Nat.le_of_ble_eq_true rfl) (Nat.le_of_ble_eq_true rfl) rfl rfl rfl
    · intro i hi ih
      refine x_iload_n C dX3_passYears_7 rfl ?_
      refine x_iload_n C dX3_passYears_8 rfl ?_
      refine x_ic_ge C 22 dX3_passYears_9 (by decide) (fun h => absurd h (nI_ge hi hn)) (fun _ => ?_)
      refine x_aload_n C dX3_passYears_12 rfl ?_
      refine x_callV C c_X3_passYear kv_X3_passYear kl_X3_101 dX3_passYears_13 vput_0 rfl rfl rfl rfl (Nat.le_of_ble_eq_true rfl) (Nat.le_of_ble_eq_true rfl) (Nat.le_of_ble_eq_true rfl) (Nat.le_of_ble_eq_true rfl) (Nat.le_of_ble_eq_true rfl) ?_
      refine x_iinc C dX3_passYears_16 rfl (nI_inc _) (by decide) rfl ?_
      refine x_goto C 7 dX3_passYears_19 (by decide) ?_
      refine xX.cl ih rfl (And.intro rfl (And.intro rfl (And.intro rfl (And.intro rfl trivial)))) rfl
  refine x_aload_n C dX3_passYears_0 rfl ?_
  refine x_get C kf_X3_45 vput_0 rfl dX3_passYears_1 ?_
  refine x_istore_n C dX3_passYears_4 (by decide) rfl ?_
  refine x_iconst (v := 0) C dX3_passYears_5 (by decide) ?_
  refine x_istore_n C dX3_passYears_6 (by decide) rfl ?_
  refine xX.cl (hl 0 (by omega)) rfl (And.intro rfl (And.intro rfl (And.intro rfl (And.intro rfl trivial)))) rfl
set_option maxRecDepth 100000 in
set_option maxHeartbeats 1000000 in
theorem hm_C {k0 : xT} {l : Launch} {E : xEnv} {B N : Nat} {σ : Sg} {b k1 k2 m : Nat} {W : Vs} (hk1 : k1 < 8) (hk2 : k2 < 8) (hm : m < 6) {w h : Nat} (hw : w < 14) (hh : h < 6) (C : xC k0 l E B cX3_holdMeeting 7 (some .int) yX3_holdMeeting.cls yX3_holdMeeting.name 4 92 0 0) (Z : xZ k0 0 0 N (vput E σ b (mtF W k1 k2 m w h)) (some (.int (10 * nI w + nI h)))) : xX k0 N 0 0 (vput E σ b W) 45 [some (.ref b), some (.ref (b + 2 + 2 * k1)), some (.ref (b + 2 + 2 * k2)), some (.int (nI m)), some (.int (nI w)), some (.int (nI h)), none] [] := by
  refine x_aload_n C dX3_holdMeeting_45 rfl ?_
  refine x_dup C dX3_holdMeeting_46 rfl ?_
  refine x_get C kf_X3_39 vput_0 rfl dX3_holdMeeting_47 ?_
  refine x_iconst (v := 1) C dX3_holdMeeting_50 (by decide) ?_
  refine x_iadd C dX3_holdMeeting_51 ?_
  refine x_put (ty := .int) C kf_X3_39 vput_0 rfl (by decide +kernel) rfl rfl (Nat.le_of_ble_eq_true rfl) (vput_v1 _) dX3_holdMeeting_52 ?_
  refine x_aload_n C dX3_holdMeeting_55 rfl ?_
  refine x_dup C dX3_holdMeeting_56 rfl ?_
  refine x_get C kf_X3_73 (vput_s hk1) rfl dX3_holdMeeting_57 ?_
  refine x_iconst (v := 1) C dX3_holdMeeting_60 (by decide) ?_
  refine x_iadd C dX3_holdMeeting_61 ?_
  refine x_put (ty := .int) C kf_X3_73 (vput_s hk1) rfl (by decide +kernel) rfl rfl (Nat.le_of_ble_eq_true rfl) (vput_m hk1 _) dX3_holdMeeting_62 ?_
  refine x_aload_n C dX3_holdMeeting_65 rfl ?_
  refine x_dup C dX3_holdMeeting_66 rfl ?_
  refine x_get C kf_X3_73 (vput_s hk2) rfl dX3_holdMeeting_67 ?_
  refine x_iconst (v := 1) C dX3_holdMeeting_70 (by decide) ?_
  refine x_iadd C dX3_holdMeeting_71 ?_
  refine x_put (ty := .int) C kf_X3_73 (vput_s hk2) rfl (by decide +kernel) rfl rfl (Nat.le_of_ble_eq_true rfl) (vput_m hk2 _) dX3_holdMeeting_72 ?_
  refine x_aload_n C dX3_holdMeeting_75 rfl ?_
  refine x_get C kf_X3_18 vput_0 rfl dX3_holdMeeting_76 ?_
  refine x_iconst (v := 1) C dX3_holdMeeting_79 (by decide) ?_
  refine x_iald2 C vput_18 rfl (by decide) (by decide) dX3_holdMeeting_80 ?_
  refine x_istore C dX3_holdMeeting_81 (by decide) rfl ?_
  refine x_iload C dX3_holdMeeting_83 rfl ?_
  refine x_iload_n C dX3_holdMeeting_85 rfl ?_
  refine x_ic_ne C 141 dX3_holdMeeting_86 (by decide) (fun h86 => ?_) (fun h86 => ?_)
  · refine x_aload_n C dX3_holdMeeting_141 rfl ?_
    refine x_iload_n C dX3_holdMeeting_142 rfl ?_
    refine x_iload C dX3_holdMeeting_143 rfl ?_
    refine x_iload C dX3_holdMeeting_145 rfl ?_
    refine x_ineg C dX3_holdMeeting_147 ?_
    refine x_callV C (c_X2_changeWeight hk1 hm hw _) kv_X2_changeWeight kl_X3_82 dX3_holdMeeting_148 (vput_s hk1) rfl rfl rfl rfl (Nat.le_of_ble_eq_true rfl) (Nat.le_of_ble_eq_true rfl) (Nat.le_of_ble_eq_true rfl) (Nat.le_of_ble_eq_true rfl) (Nat.le_of_ble_eq_true rfl) ?_
    refine x_aload_n C dX3_holdMeeting_151 rfl ?_
    refine x_iload_n C dX3_holdMeeting_152 rfl ?_
    refine x_iload C dX3_holdMeeting_153 rfl ?_
    refine x_iconst (v := 1) C dX3_holdMeeting_155 (by decide) ?_
    refine x_callV C (c_X2_changeWeight hk2 hm hw _) kv_X2_changeWeight kl_X3_82 dX3_holdMeeting_156 (vput_s hk2) rfl rfl rfl rfl (Nat.le_of_ble_eq_true rfl) (Nat.le_of_ble_eq_true rfl) (Nat.le_of_ble_eq_true rfl) (Nat.le_of_ble_eq_true rfl) (Nat.le_of_ble_eq_true rfl) ?_
    refine x_aload_n C dX3_holdMeeting_159 rfl ?_
    refine x_iload C dX3_holdMeeting_160 rfl ?_
    refine x_iload C dX3_holdMeeting_162 rfl ?_
    refine x_iload C dX3_holdMeeting_164 rfl ?_
    refine x_ineg C dX3_holdMeeting_166 ?_
    refine x_callV C (c_X2_changeWeight hk2 hh hw _) kv_X2_changeWeight kl_X3_82 dX3_holdMeeting_167 (vput_s hk2) rfl rfl rfl rfl (Nat.le_of_ble_eq_true rfl) (Nat.le_of_ble_eq_true rfl) (Nat.le_of_ble_eq_true rfl) (Nat.le_of_ble_eq_true rfl) (Nat.le_of_ble_eq_true rfl) ?_
    refine x_bipush (v := 10) C dX3_holdMeeting_170 (by decide) ?_
    refine x_iload C dX3_holdMeeting_172 rfl ?_
    refine x_imul C dX3_holdMeeting_174 ?_
    refine x_iload C dX3_holdMeeting_175 rfl ?_
    refine x_iadd C dX3_holdMeeting_177 ?_
    exact x_zret C Z dX3_holdMeeting_178 rfl (Nat.le_of_ble_eq_true rfl) (Nat.le_of_ble_eq_true rfl) rfl (congrArg _ (mtF_n (fun z => h86 (by rw [z])))) rfl
  · refine x_aload_n C dX3_holdMeeting_89 rfl ?_
    refine x_dup C dX3_holdMeeting_90 rfl ?_
    refine x_get C kf_X3_42 vput_0 rfl dX3_holdMeeting_91 ?_
    refine x_iconst (v := 1) C dX3_holdMeeting_94 (by decide) ?_
    refine x_iadd C dX3_holdMeeting_95 ?_
    refine x_put (ty := .int) C kf_X3_42 vput_0 rfl (by decide +kernel) rfl rfl (Nat.le_of_ble_eq_true rfl) (vput_v2 _) dX3_holdMeeting_96 ?_
    refine x_aload_n C dX3_holdMeeting_99 rfl ?_
    refine x_iload_n C dX3_holdMeeting_100 rfl ?_
    refine x_iload C dX3_holdMeeting_101 rfl ?_
    refine x_aload_n C dX3_holdMeeting_103 rfl ?_
    refine x_get C kf_X3_18 vput_0 rfl dX3_holdMeeting_104 ?_
    refine x_iconst (v := 0) C dX3_holdMeeting_107 (by decide) ?_
    refine x_iald2 C vput_18 rfl (by decide) (by decide) dX3_holdMeeting_108 ?_
    refine x_iload C dX3_holdMeeting_109 rfl ?_
    refine x_callV C (c_X2_prefer hk1 hm hw _ _) kv_X2_prefer kl_X3_74 dX3_holdMeeting_111 (vput_s hk1) rfl rfl rfl rfl (Nat.le_of_ble_eq_true rfl) (Nat.le_of_ble_eq_true rfl) (Nat.le_of_ble_eq_true rfl) (Nat.le_of_ble_eq_true rfl) (Nat.le_of_ble_eq_true rfl) ?_
    refine x_aload_n C dX3_holdMeeting_114 rfl ?_
    refine x_iload_n C dX3_holdMeeting_115 rfl ?_
    refine x_iload C dX3_holdMeeting_116 rfl ?_
    refine x_aload_n C dX3_holdMeeting_118 rfl ?_
    refine x_get C kf_X3_18 vput_0 rfl dX3_holdMeeting_119 ?_
    refine x_iconst (v := 0) C dX3_holdMeeting_122 (by decide) ?_
    refine x_iald2 C vput_18 rfl (by decide) (by decide) dX3_holdMeeting_123 ?_
    refine x_iload C dX3_holdMeeting_124 rfl ?_
    refine x_callV C (c_X2_prefer hk2 hm hw _ _) kv_X2_prefer kl_X3_74 dX3_holdMeeting_126 (vput_s hk2) rfl rfl rfl rfl (Nat.le_of_ble_eq_true rfl) (Nat.le_of_ble_eq_true rfl) (Nat.le_of_ble_eq_true rfl) (Nat.le_of_ble_eq_true rfl) (Nat.le_of_ble_eq_true rfl) ?_
    refine x_aload_n C dX3_holdMeeting_129 rfl ?_
    refine x_iload_n C dX3_holdMeeting_130 rfl ?_
    refine x_iload C dX3_holdMeeting_131 rfl ?_
    refine x_iload C dX3_holdMeeting_133 rfl ?_
    refine x_callV C (c_X2_forgetOtherMeanings hk2 hm hw _) kv_X2_forgetOtherMeanings kl_X3_78 dX3_holdMeeting_135 (vput_s hk2) rfl rfl rfl rfl (Nat.le_of_ble_eq_true rfl) (Nat.le_of_ble_eq_true rfl) (Nat.le_of_ble_eq_true rfl) (Nat.le_of_ble_eq_true rfl) (Nat.le_of_ble_eq_true rfl) ?_
    refine x_goto C 170 dX3_holdMeeting_138 (by decide) ?_
    refine x_bipush (v := 10) C dX3_holdMeeting_170 (by decide) ?_
    refine x_iload C dX3_holdMeeting_172 rfl ?_
    refine x_imul C dX3_holdMeeting_174 ?_
    refine x_iload C dX3_holdMeeting_175 rfl ?_
    refine x_iadd C dX3_holdMeeting_177 ?_
    exact x_zret C Z dX3_holdMeeting_178 rfl (Nat.le_of_ble_eq_true rfl) (Nat.le_of_ble_eq_true rfl) rfl (congrArg _ (mtF_s ((nI_eq (by omega) (by omega)).mp h86))) rfl
set_option maxRecDepth 100000 in
set_option maxHeartbeats 1000000 in
theorem hm_B {k0 : xT} {l : Launch} {E : xEnv} {B N : Nat} {σ : Sg} {b k1 k2 m : Nat} {W : Vs} (hk1 : k1 < 8) (hk2 : k2 < 8) (hm : m < 6) {w : Nat} (hw : w < 14) (hs : sok W) (C : xC k0 l E B cX3_holdMeeting 7 (some .int) yX3_holdMeeting.cls yX3_holdMeeting.name 4 92 0 0) (Z : xZ k0 0 0 N (vput E σ b (mtF (hdN W k2 w).1 k1 k2 m w (hdN W k2 w).2)) (some (.int (10 * nI w + nI (hdN W k2 w).2)))) : xX k0 N 0 0 (vput E σ b W) 22 [some (.ref b), some (.ref (b + 2 + 2 * k1)), some (.ref (b + 2 + 2 * k2)), some (.int (nI m)), some (.int (nI w)), none, none] [] := by
  refine x_aload_n C dX3_holdMeeting_22 rfl ?_
  refine x_iload C dX3_holdMeeting_23 rfl ?_
  refine x_callV C (c_X2_meaningOf hk2 hw) kv_X2_meaningOf kl_X3_70 dX3_holdMeeting_25 (vput_s hk2) rfl rfl rfl rfl (Nat.le_of_ble_eq_true rfl) (Nat.le_of_ble_eq_true rfl) (Nat.le_of_ble_eq_true rfl) (Nat.le_of_ble_eq_true rfl) (Nat.le_of_ble_eq_true rfl) ?_
  cases hq : haS (W k2) w with
  | none =>
    rw [hdN_n hq] at Z
    refine x_istore C dX3_holdMeeting_28 (by decide) rfl ?_
    refine x_iload C dX3_holdMeeting_30 rfl ?_
    refine x_bipush (v := (-6)) C dX3_holdMeeting_32 (by decide) ?_
    refine x_ic_ne C 45 dX3_holdMeeting_34 (by decide) (fun h => absurd rfl h) (fun _ => ?_)
    refine x_aload_n C dX3_holdMeeting_37 rfl ?_
    refine x_bipush (v := 6) C dX3_holdMeeting_38 (by decide) ?_
    refine x_callV C (c_X3_draw hs (n := 6) (by decide) (by decide)) kv_X3_draw kl_X3_67 dX3_holdMeeting_40 vput_0 rfl rfl rfl rfl (Nat.le_of_ble_eq_true rfl) (Nat.le_of_ble_eq_true rfl) (Nat.le_of_ble_eq_true rfl) (Nat.le_of_ble_eq_true rfl) (Nat.le_of_ble_eq_true rfl) ?_
    refine x_istore C dX3_holdMeeting_43 (by decide) rfl ?_
    exact hm_C hk1 hk2 hm hw (dvN_lt (by decide)) C Z
  | some h =>
    rw [hdN_s hq] at Z
    refine x_istore C dX3_holdMeeting_28 (by decide) rfl ?_
    refine x_iload C dX3_holdMeeting_30 rfl ?_
    refine x_bipush (v := (-6)) C dX3_holdMeeting_32 (by decide) ?_
    refine x_ic_ne C 45 dX3_holdMeeting_34 (by decide) (fun _ => ?_) (fun h => absurd h (nI_ne6 (by have := haS_in hq; omega)))
    exact hm_C hk1 hk2 hm hw (haS_in hq) C Z
set_option maxRecDepth 100000 in
set_option maxHeartbeats 1000000 in
theorem c_X3_holdMeeting {l : Launch} {E : xEnv} {B N : Nat} {σ : Sg} {b k1 k2 m : Nat} {V : Vs} (hk1 : k1 < 8) (hk2 : k2 < 8) (hm : m < 6) (hs : sok V) : xM l yX3_holdMeeting cX3_holdMeeting 7 (some .int) 4 92 0 0 E B [.ref b, .ref (b + 2 + 2 * k1), .ref (b + 2 + 2 * k2), .int (nI m)] N (vput E σ b V) N (vput E σ b (mtV V k1 k2 m)) (some (.int (10 * nI (mt1 V k1 k2 m).2.1 + nI (mt1 V k1 k2 m).2.2))) := by
  refine xM_of [some (.ref _), some (.ref _), some (.ref _), some (.int _), none, none, none] (by decide +kernel) (Nat.le_of_ble_eq_true rfl) rfl (fun k0 C Z => ?_)
  unfold mtV mt1 at Z
  dsimp only at Z
  refine x_aload_n C dX3_holdMeeting_0 rfl ?_
  refine x_iload_n C dX3_holdMeeting_1 rfl ?_
  refine x_callV C (c_X2_wordFor hk1 hm) kv_X2_wordFor kl_X3_63 dX3_holdMeeting_2 (vput_s hk1) rfl rfl rfl rfl (Nat.le_of_ble_eq_true rfl) (Nat.le_of_ble_eq_true rfl) (Nat.le_of_ble_eq_true rfl) (Nat.le_of_ble_eq_true rfl) (Nat.le_of_ble_eq_true rfl) ?_
  cases hq : wfS (V k1) m with
  | none =>
    rw [wdN_n hq] at Z
    refine x_istore C dX3_holdMeeting_5 (by decide) rfl ?_
    refine x_iload C dX3_holdMeeting_7 rfl ?_
    refine x_bipush (v := (-6)) C dX3_holdMeeting_9 (by decide) ?_
    refine x_ic_ne C 22 dX3_holdMeeting_11 (by decide) (fun h => absurd rfl h) (fun _ => ?_)
    refine x_aload_n C dX3_holdMeeting_14 rfl ?_
    refine x_bipush (v := 14) C dX3_holdMeeting_15 (by decide) ?_
    refine x_callV C (c_X3_draw hs (n := 14) (by decide) (by decide)) kv_X3_draw kl_X3_67 dX3_holdMeeting_17 vput_0 rfl rfl rfl rfl (Nat.le_of_ble_eq_true rfl) (Nat.le_of_ble_eq_true rfl) (Nat.le_of_ble_eq_true rfl) (Nat.le_of_ble_eq_true rfl) (Nat.le_of_ble_eq_true rfl) ?_
    refine x_istore C dX3_holdMeeting_20 (by decide) rfl ?_
    exact hm_B hk1 hk2 hm (dvN_lt (by decide)) drV_ok C Z
  | some w =>
    rw [wdN_s hq] at Z
    refine x_istore C dX3_holdMeeting_5 (by decide) rfl ?_
    refine x_iload C dX3_holdMeeting_7 rfl ?_
    refine x_bipush (v := (-6)) C dX3_holdMeeting_9 (by decide) ?_
    refine x_ic_ne C 22 dX3_holdMeeting_11 (by decide) (fun _ => ?_) (fun h => absurd h (nI_ne6 (by have := wfS_in hq; omega)))
    exact hm_B hk1 hk2 hm (wfS_in hq) hs C Z

