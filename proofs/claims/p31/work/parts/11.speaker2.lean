set_option maxRecDepth 100000 in
set_option maxHeartbeats 1000000 in
theorem c_X2_learnsWith {l : Launch} {E : xEnv} {B N : Nat} {σ : Sg} {b k : Nat} {V : Vs} (hk : k < 8) (g : Int32) : xM l yX2_learnsWith cX2_learnsWith 2 (some .int) 1 21 0 0 E B [.ref (b + 2 + 2 * k), .int g] N (vput E σ b V) N (vput E σ b V) (some (.int (lnS (V 11 k) g))) := by
  refine xM_of [some (.ref _), some (.int _)] (by decide +kernel) (Nat.le_of_ble_eq_true rfl) rfl (fun k0 C Z => ?_)
  refine x_iconst (v := 1) C dX2_learnsWith_0 (by decide) ?_
  refine x_iload_n C dX2_learnsWith_1 rfl ?_
  refine x_aload_n C dX2_learnsWith_2 rfl ?_
  refine x_get C kf_X2_25 (vput_s hk) rfl dX2_learnsWith_3 ?_
  refine x_bipush (v := 20) C dX2_learnsWith_6 (by decide) ?_
  refine x_idiv C dX2_learnsWith_8 (by decide) ?_
  refine x_isub C dX2_learnsWith_9 ?_
  refine x_mmax C kl_X2_56 kz_smax ki_math kz_cmax (Nat.le_of_ble_eq_true rfl) (Nat.le_of_ble_eq_true rfl) (Nat.le_of_ble_eq_true rfl) (Nat.le_of_ble_eq_true rfl) dX2_learnsWith_10 ?_
  exact x_zret C Z dX2_learnsWith_13 rfl (Nat.le_of_ble_eq_true rfl) (Nat.le_of_ble_eq_true rfl) rfl rfl rfl
set_option maxRecDepth 100000 in
set_option maxHeartbeats 1000000 in
theorem c_X2_prefer {l : Launch} {E : xEnv} {B N : Nat} {σ : Sg} {b k : Nat} {V : Vs} (hk : k < 8) {mm ww : Nat} (hm : mm < 6) (hw : ww < 14) (g x : Int32) : xM l yX2_prefer cX2_prefer 6 none 3 67 0 0 E B [.ref (b + 2 + 2 * k), .int (nI mm), .int (nI ww), .int g, .int x] N (vput E σ b V) N (vput E σ b (prS V k mm ww (lnS (V 11 k) g) x)) none := by
  refine xM_of [some (.ref _), some (.int _), some (.int _), some (.int _), some (.int _), none] (by decide +kernel) (Nat.le_of_ble_eq_true rfl) rfl (fun k0 C Z => ?_)
  have hl : ∀ i, i ≤ 14 → xX k0 N 0 0 (vput E σ b (prL V k mm ww (lnS (V 11 k) g) x i)) 14 [some (.ref (b + 2 + 2 * k)), some (.int (nI mm)), some (.int (nI ww)), some (.int g), some (.int x), some (.int (nI i))] [] := by
    refine x_for 14 ?_ ?_
    · refine x_iload C dX2_prefer_14 rfl ?_
      refine x_bipush (v := 14) C dX2_prefer_16 (by decide) ?_
      refine x_ic_ge C 43 dX2_prefer_18 (by decide) (fun _ => ?_) (fun h => absurd (nI_le (a := 14) (Nat.le_refl _) (by decide)) h)
      exact x_vret C Z dX2_prefer_43 (Nat.le_of_ble_eq_true rfl) (Nat.le_of_ble_eq_true rfl) rfl rfl
    · intro i hi ih
      refine x_iload C dX2_prefer_14 rfl ?_
      refine x_bipush (v := 14) C dX2_prefer_16 (by decide) ?_
      refine x_ic_ge C 43 dX2_prefer_18 (by decide) (fun h => absurd h (nI_ge (b := 14) hi (by decide))) (fun _ => ?_)
      refine x_iload C dX2_prefer_21 rfl ?_
      refine x_iload_n C dX2_prefer_23 rfl ?_
      refine x_ic_eq C 37 dX2_prefer_24 (by decide) (fun h24 => ?_) (fun h24 => ?_)
      · refine x_iinc C dX2_prefer_37 rfl (nI_inc _) (by decide) rfl ?_
        refine x_goto C 14 dX2_prefer_40 (by decide) ?_
        refine xX.cl ih (by rw [(nI_eq (by omega) (by omega)).mp h24]; exact congrArg _ prL_e) (And.intro rfl (And.intro rfl (And.intro rfl (And.intro rfl (And.intro rfl (And.intro rfl trivial)))))) rfl
      · refine x_aload_n C dX2_prefer_27 rfl ?_
        refine x_iload_n C dX2_prefer_28 rfl ?_
        refine x_iload C dX2_prefer_29 rfl ?_
        refine x_iload C dX2_prefer_31 rfl ?_
        refine x_ineg C dX2_prefer_33 ?_
        refine x_callV C (c_X2_changeWeight hk hm hi _) kv_X2_changeWeight kl_X2_63 dX2_prefer_34 (vput_s hk) rfl rfl rfl rfl (Nat.le_of_ble_eq_true rfl) (Nat.le_of_ble_eq_true rfl) (Nat.le_of_ble_eq_true rfl) (Nat.le_of_ble_eq_true rfl) (Nat.le_of_ble_eq_true rfl) ?_
        refine x_iinc C dX2_prefer_37 rfl (nI_inc _) (by decide) rfl ?_
        refine x_goto C 14 dX2_prefer_40 (by decide) ?_
        refine xX.cl ih (congrArg _ (prL_s (fun z => h24 (by rw [z])))) (And.intro rfl (And.intro rfl (And.intro rfl (And.intro rfl (And.intro rfl (And.intro rfl trivial)))))) rfl
  refine x_aload_n C dX2_prefer_0 rfl ?_
  refine x_iload_n C dX2_prefer_1 rfl ?_
  refine x_iload_n C dX2_prefer_2 rfl ?_
  refine x_aload_n C dX2_prefer_3 rfl ?_
  refine x_iload_n C dX2_prefer_4 rfl ?_
  refine x_callV C (c_X2_learnsWith hk _) kv_X2_learnsWith kl_X2_59 dX2_prefer_5 (vput_s hk) rfl rfl rfl rfl (Nat.le_of_ble_eq_true rfl) (Nat.le_of_ble_eq_true rfl) (Nat.le_of_ble_eq_true rfl) (Nat.le_of_ble_eq_true rfl) (Nat.le_of_ble_eq_true rfl) ?_
  refine x_callV C (c_X2_changeWeight hk hm hw _) kv_X2_changeWeight kl_X2_63 dX2_prefer_8 (vput_s hk) rfl rfl rfl rfl (Nat.le_of_ble_eq_true rfl) (Nat.le_of_ble_eq_true rfl) (Nat.le_of_ble_eq_true rfl) (Nat.le_of_ble_eq_true rfl) (Nat.le_of_ble_eq_true rfl) ?_
  refine x_iconst (v := 0) C dX2_prefer_11 (by decide) ?_
  refine x_istore C dX2_prefer_12 (by decide) rfl ?_
  refine xX.cl (hl 0 (by omega)) (congrArg _ prL_0.symm) (And.intro rfl (And.intro rfl (And.intro rfl (And.intro rfl (And.intro rfl (And.intro rfl trivial)))))) rfl
set_option maxRecDepth 100000 in
set_option maxHeartbeats 1000000 in
theorem c_X2_forgetOtherMeanings {l : Launch} {E : xEnv} {B N : Nat} {σ : Sg} {b k : Nat} {V : Vs} (hk : k < 8) {mm ww : Nat} (hm : mm < 6) (hw : ww < 14) (x : Int32) : xM l yX2_forgetOtherMeanings cX2_forgetOtherMeanings 5 none 3 67 0 0 E B [.ref (b + 2 + 2 * k), .int (nI mm), .int (nI ww), .int x] N (vput E σ b V) N (vput E σ b (fmS V k mm ww x)) none := by
  refine xM_of [some (.ref _), some (.int _), some (.int _), some (.int _), none] (by decide +kernel) (Nat.le_of_ble_eq_true rfl) rfl (fun k0 C Z => ?_)
  have hl : ∀ i, i ≤ 6 → xX k0 N 0 0 (vput E σ b (fmL V k mm ww x i)) 3 [some (.ref (b + 2 + 2 * k)), some (.int (nI mm)), some (.int (nI ww)), some (.int x), some (.int (nI i))] [] := by
    refine x_for 6 ?_ ?_
    · refine x_iload C dX2_forgetOtherMeanings_3 rfl ?_
      refine x_bipush (v := 6) C dX2_forgetOtherMeanings_5 (by decide) ?_
      refine x_ic_ge C 31 dX2_forgetOtherMeanings_7 (by decide) (fun _ => ?_) (fun h => absurd (nI_le (a := 6) (Nat.le_refl _) (by decide)) h)
      exact x_vret C Z dX2_forgetOtherMeanings_31 (Nat.le_of_ble_eq_true rfl) (Nat.le_of_ble_eq_true rfl) rfl rfl
    · intro i hi ih
      refine x_iload C dX2_forgetOtherMeanings_3 rfl ?_
      refine x_bipush (v := 6) C dX2_forgetOtherMeanings_5 (by decide) ?_
      refine x_ic_ge C 31 dX2_forgetOtherMeanings_7 (by decide) (fun h => absurd h (nI_ge (b := 6) hi (by decide))) (fun _ => ?_)
      refine x_iload C dX2_forgetOtherMeanings_10 rfl ?_
      refine x_iload_n C dX2_forgetOtherMeanings_12 rfl ?_
      refine x_ic_eq C 25 dX2_forgetOtherMeanings_13 (by decide) (fun h13 => ?_) (fun h13 => ?_)
      · refine x_iinc C dX2_forgetOtherMeanings_25 rfl (nI_inc _) (by decide) rfl ?_
        refine x_goto C 3 dX2_forgetOtherMeanings_28 (by decide) ?_
        refine xX.cl ih (by rw [(nI_eq (by omega) (by omega)).mp h13]; exact congrArg _ fmL_e) (And.intro rfl (And.intro rfl (And.intro rfl (And.intro rfl (And.intro rfl trivial))))) rfl
      · refine x_aload_n C dX2_forgetOtherMeanings_16 rfl ?_
        refine x_iload C dX2_forgetOtherMeanings_17 rfl ?_
        refine x_iload_n C dX2_forgetOtherMeanings_19 rfl ?_
        refine x_iload_n C dX2_forgetOtherMeanings_20 rfl ?_
        refine x_ineg C dX2_forgetOtherMeanings_21 ?_
        refine x_callV C (c_X2_changeWeight hk hi hw _) kv_X2_changeWeight kl_X2_63 dX2_forgetOtherMeanings_22 (vput_s hk) rfl rfl rfl rfl (Nat.le_of_ble_eq_true rfl) (Nat.le_of_ble_eq_true rfl) (Nat.le_of_ble_eq_true rfl) (Nat.le_of_ble_eq_true rfl) (Nat.le_of_ble_eq_true rfl) ?_
        refine x_iinc C dX2_forgetOtherMeanings_25 rfl (nI_inc _) (by decide) rfl ?_
        refine x_goto C 3 dX2_forgetOtherMeanings_28 (by decide) ?_
        refine xX.cl ih (congrArg _ (fmL_s hw (fun z => h13 (by rw [z])))) (And.intro rfl (And.intro rfl (And.intro rfl (And.intro rfl (And.intro rfl trivial))))) rfl
  refine x_iconst (v := 0) C dX2_forgetOtherMeanings_0 (by decide) ?_
  refine x_istore C dX2_forgetOtherMeanings_1 (by decide) rfl ?_
  refine xX.cl (hl 0 (by omega)) (congrArg _ fmL_0.symm) (And.intro rfl (And.intro rfl (And.intro rfl (And.intro rfl (And.intro rfl trivial))))) rfl
set_option maxRecDepth 100000 in
set_option maxHeartbeats 1000000 in
theorem c_X2_sumOfWeights {l : Launch} {E : xEnv} {B N : Nat} {σ : Sg} {b k : Nat} {V : Vs} (hk : k < 8) : xM l yX2_sumOfWeights cX2_sumOfWeights 6 (some .int) 0 0 0 0 E B [.ref (b + 2 + 2 * k)] N (vput E σ b V) N (vput E σ b V) (some (.int (smL (V k) 84))) := by
  refine xM_of [some (.ref _), none, none, none, none, none] (by decide +kernel) (Nat.le_of_ble_eq_true rfl) rfl (fun k0 C Z => ?_)
  have hl : ∀ i, i ≤ 84 → xX k0 N 0 0 (vput E σ b V) 13 [some (.ref (b + 2 + 2 * k)), some (.int (smL (V k) i)), some (.ref (b + 3 + 2 * k)), some (.int (nI 84)), some (.int (nI i)), none] [] := by
    refine x_for 84 ?_ ?_
    · refine x_iload C dX2_sumOfWeights_13 rfl ?_
      refine x_iload_n C dX2_sumOfWeights_15 rfl ?_
      refine x_ic_ge C 36 dX2_sumOfWeights_16 (by decide) (fun _ => ?_) (fun h => absurd (nI_le (a := 84) (Nat.le_refl _) (by decide)) h)
      refine x_iload_n C dX2_sumOfWeights_36 rfl ?_
      exact x_zret C Z dX2_sumOfWeights_37 rfl (Nat.le_of_ble_eq_true rfl) (Nat.le_of_ble_eq_true rfl) rfl rfl rfl
    · intro i hi ih
      refine x_iload C dX2_sumOfWeights_13 rfl ?_
      refine x_iload_n C dX2_sumOfWeights_15 rfl ?_
      refine x_ic_ge C 36 dX2_sumOfWeights_16 (by decide) (fun h => absurd h (nI_ge (b := 84) hi (by decide))) (fun _ => ?_)
      refine x_aload_n C dX2_sumOfWeights_19 rfl ?_
      refine x_iload C dX2_sumOfWeights_20 rfl ?_
      refine x_iald2 C (vput_w hk) rfl hi (by decide) dX2_sumOfWeights_22 ?_
      refine x_istore C dX2_sumOfWeights_23 (by decide) rfl ?_
      refine x_iload_n C dX2_sumOfWeights_25 rfl ?_
      refine x_iload C dX2_sumOfWeights_26 rfl ?_
      refine x_iadd C dX2_sumOfWeights_28 ?_
      refine x_istore_n C dX2_sumOfWeights_29 (by decide) rfl ?_
      refine x_iinc C dX2_sumOfWeights_30 rfl (nI_inc _) (by decide) rfl ?_
      refine x_goto C 13 dX2_sumOfWeights_33 (by decide) ?_
      refine xX.cl ih rfl (And.intro rfl (And.intro rfl (And.intro rfl (And.intro rfl (And.intro rfl trivial))))) rfl
  refine x_iconst (v := 0) C dX2_sumOfWeights_0 (by decide) ?_
  refine x_istore_n C dX2_sumOfWeights_1 (by decide) rfl ?_
  refine x_aload_n C dX2_sumOfWeights_2 rfl ?_
  refine x_get C kf_X2_9 (vput_s hk) rfl dX2_sumOfWeights_3 ?_
  refine x_astore_n C dX2_sumOfWeights_6 (by decide) rfl ?_
  refine x_aload_n C dX2_sumOfWeights_7 rfl ?_
  refine x_alen (t0 := 0) C (vput_w hk) rfl dX2_sumOfWeights_8 ?_
  refine x_istore_n C dX2_sumOfWeights_9 (by decide) rfl ?_
  refine x_iconst (v := 0) C dX2_sumOfWeights_10 (by decide) ?_
  refine x_istore C dX2_sumOfWeights_11 (by decide) rfl ?_
  refine xX.cl (hl 0 (by omega)) rfl (And.intro rfl (And.intro rfl (And.intro rfl (And.intro rfl (And.intro rfl trivial))))) rfl
set_option maxRecDepth 100000 in
set_option maxHeartbeats 1000000 in
theorem c_X2_countWords {l : Launch} {E : xEnv} {B N : Nat} {σ : Sg} {b k : Nat} {V : Vs} (hk : k < 8) : xM l yX2_countWords cX2_countWords 3 (some .int) 3 67 0 0 E B [.ref (b + 2 + 2 * k)] N (vput E σ b V) N (vput E σ b V) (some (.int (nI (cwN (V k) 6)))) := by
  refine xM_of [some (.ref _), none, none] (by decide +kernel) (Nat.le_of_ble_eq_true rfl) rfl (fun k0 C Z => ?_)
  have hl : ∀ i, i ≤ 6 → xX k0 N 0 0 (vput E σ b V) 4 [some (.ref (b + 2 + 2 * k)), some (.int (nI (cwN (V k) i))), some (.int (nI i))] [] := by
    refine x_for 6 ?_ ?_
    · refine x_iload_n C dX2_countWords_4 rfl ?_
      refine x_bipush (v := 6) C dX2_countWords_5 (by decide) ?_
      refine x_ic_ge C 29 dX2_countWords_7 (by decide) (fun _ => ?_) (fun h => absurd (nI_le (a := 6) (Nat.le_refl _) (by decide)) h)
      refine x_iload_n C dX2_countWords_29 rfl ?_
      exact x_zret C Z dX2_countWords_30 rfl (Nat.le_of_ble_eq_true rfl) (Nat.le_of_ble_eq_true rfl) rfl rfl rfl
    · intro i hi ih
      refine x_iload_n C dX2_countWords_4 rfl ?_
      refine x_bipush (v := 6) C dX2_countWords_5 (by decide) ?_
      refine x_ic_ge C 29 dX2_countWords_7 (by decide) (fun h => absurd h (nI_ge (b := 6) hi (by decide))) (fun _ => ?_)
      refine x_aload_n C dX2_countWords_10 rfl ?_
      refine x_iload_n C dX2_countWords_11 rfl ?_
      refine x_callV C (c_X2_wordFor hk hi) kv_X2_wordFor kl_X2_66 dX2_countWords_12 (vput_s hk) rfl rfl rfl rfl (Nat.le_of_ble_eq_true rfl) (Nat.le_of_ble_eq_true rfl) (Nat.le_of_ble_eq_true rfl) (Nat.le_of_ble_eq_true rfl) (Nat.le_of_ble_eq_true rfl) ?_
      refine x_bipush (v := (-6)) C dX2_countWords_15 (by decide) ?_
      refine x_ic_eq C 23 dX2_countWords_17 (by decide) (fun h17 => ?_) (fun h17 => ?_)
      · refine x_iinc C dX2_countWords_23 rfl (nI_inc _) (by decide) rfl ?_
        refine x_goto C 4 dX2_countWords_26 (by decide) ?_
        refine xX.cl ih rfl (And.intro rfl (And.intro ?_ (And.intro rfl trivial))) rfl
        rw [cwN, if_pos (wfS_6.mp h17)]; rfl
      · refine x_iinc C dX2_countWords_20 rfl (nI_inc _) (by decide) rfl ?_
        refine x_iinc C dX2_countWords_23 rfl (nI_inc _) (by decide) rfl ?_
        refine x_goto C 4 dX2_countWords_26 (by decide) ?_
        refine xX.cl ih rfl (And.intro rfl (And.intro ?_ (And.intro rfl trivial))) rfl
        rw [cwN, if_neg (fun z => h17 (wfS_6.mpr z))]; rfl
  refine x_iconst (v := 0) C dX2_countWords_0 (by decide) ?_
  refine x_istore_n C dX2_countWords_1 (by decide) rfl ?_
  refine x_iconst (v := 0) C dX2_countWords_2 (by decide) ?_
  refine x_istore_n C dX2_countWords_3 (by decide) rfl ?_
  refine xX.cl (hl 0 (by omega)) rfl (And.intro rfl (And.intro rfl (And.intro rfl trivial))) rfl
set_option maxRecDepth 100000 in
set_option maxHeartbeats 1000000 in
theorem c_X2_countConfusions {l : Launch} {E : xEnv} {B N : Nat} {σ : Sg} {b k : Nat} {V : Vs} (hk : k < 8) : xM l yX2_countConfusions cX2_countConfusions 5 (some .int) 3 67 0 0 E B [.ref (b + 2 + 2 * k)] N (vput E σ b V) N (vput E σ b V) (some (.int (nI (ccN (V k) 6)))) := by
  refine xM_of [some (.ref _), none, none, none, none] (by decide +kernel) (Nat.le_of_ble_eq_true rfl) rfl (fun k0 C Z => ?_)
  have hl : ∀ i, i ≤ 6 → xX k0 N 0 0 (vput E σ b V) 4 [some (.ref (b + 2 + 2 * k)), some (.int (nI (ccN (V k) i))), some (.int (nI i)), none, none] [] := by
    refine x_for 6 ?_ ?_
    · refine x_iload_n C dX2_countConfusions_4 rfl ?_
      refine x_bipush (v := 6) C dX2_countConfusions_5 (by decide) ?_
      refine x_ic_ge C 59 dX2_countConfusions_7 (by decide) (fun _ => ?_) (fun h => absurd (nI_le (a := 6) (Nat.le_refl _) (by decide)) h)
      refine x_iload_n C dX2_countConfusions_59 rfl ?_
      exact x_zret C Z dX2_countConfusions_60 rfl (Nat.le_of_ble_eq_true rfl) (Nat.le_of_ble_eq_true rfl) rfl rfl rfl
    · intro i hi ih
      have hl2 : ∀ t, t ≤ (5 - i) → xX k0 N 0 0 (vput E σ b V) 21 [some (.ref (b + 2 + 2 * k)), some (.int (nI (ccN (V k) i + ccI (V k) i t))), some (.int (nI i)), some (.int (oI (wfS (V k) i))), some (.int (nI (i + 1 + t)))] [] := by
        refine x_for (5 - i) ?_ ?_
        · refine x_iload C dX2_countConfusions_21 rfl ?_
          refine x_bipush (v := 6) C dX2_countConfusions_23 (by decide) ?_
          refine x_ic_ge C 53 dX2_countConfusions_25 (by decide) (fun _ => ?_) (fun h => absurd (nI_le (a := 6) (by omega) (by omega)) h)
          refine x_iinc C dX2_countConfusions_53 rfl (nI_inc _) (by decide) rfl ?_
          refine x_goto C 4 dX2_countConfusions_56 (by decide) ?_
          refine xX.cl ih rfl (And.intro rfl (And.intro rfl (And.intro rfl trivial))) rfl
        · intro t hi2 ih2
          refine x_iload C dX2_countConfusions_21 rfl ?_
          refine x_bipush (v := 6) C dX2_countConfusions_23 (by decide) ?_
          refine x_ic_ge C 53 dX2_countConfusions_25 (by decide) (fun h => absurd h (nI_ge (b := 6) (by omega) (by decide))) (fun _ => ?_)
          refine x_iload_n C dX2_countConfusions_28 rfl ?_
          refine x_bipush (v := (-6)) C dX2_countConfusions_29 (by decide) ?_
          refine x_ic_eq C 47 dX2_countConfusions_31 (by decide) (fun h31 => ?_) (fun h31 => ?_)
          · refine x_iinc C dX2_countConfusions_47 rfl (nI_inc _) (by decide) rfl ?_
            refine x_goto C 21 dX2_countConfusions_50 (by decide) ?_
            refine xX.cl ih2 rfl (And.intro rfl (And.intro ?_ (And.intro rfl (And.intro rfl (And.intro rfl trivial))))) rfl
            rw [ccI, if_neg (fun z => z.1 (wfS_6.mp h31))]; rfl
          · refine x_iload_n C dX2_countConfusions_34 rfl ?_
            refine x_aload_n C dX2_countConfusions_35 rfl ?_
            refine x_iload C dX2_countConfusions_36 rfl ?_
            refine x_callV C (c_X2_wordFor hk (show i + 1 + t < 6 by omega)) kv_X2_wordFor kl_X2_66 dX2_countConfusions_38 (vput_s hk) rfl rfl rfl rfl (Nat.le_of_ble_eq_true rfl) (Nat.le_of_ble_eq_true rfl) (Nat.le_of_ble_eq_true rfl) (Nat.le_of_ble_eq_true rfl) (Nat.le_of_ble_eq_true rfl) ?_
            refine x_ic_ne C 47 dX2_countConfusions_41 (by decide) (fun h41 => ?_) (fun h41 => ?_)
            · refine x_iinc C dX2_countConfusions_47 rfl (nI_inc _) (by decide) rfl ?_
              refine x_goto C 21 dX2_countConfusions_50 (by decide) ?_
              refine xX.cl ih2 rfl (And.intro rfl (And.intro ?_ (And.intro rfl (And.intro rfl (And.intro rfl trivial))))) rfl
              rw [ccI, if_neg (fun z => h41 (wfS_ij.mpr z.2))]; rfl
            · refine x_iinc C dX2_countConfusions_44 rfl (nI_inc _) (by decide) rfl ?_
              refine x_iinc C dX2_countConfusions_47 rfl (nI_inc _) (by decide) rfl ?_
              refine x_goto C 21 dX2_countConfusions_50 (by decide) ?_
              refine xX.cl ih2 rfl (And.intro rfl (And.intro ?_ (And.intro rfl (And.intro rfl (And.intro rfl trivial))))) rfl
              rw [ccI, if_pos ⟨fun z => h31 (wfS_6.mpr z), wfS_ij.mp h41⟩]; rfl
      refine x_iload_n C dX2_countConfusions_4 rfl ?_
      refine x_bipush (v := 6) C dX2_countConfusions_5 (by decide) ?_
      refine x_ic_ge C 59 dX2_countConfusions_7 (by decide) (fun h => absurd h (nI_ge (b := 6) hi (by decide))) (fun _ => ?_)
      refine x_aload_n C dX2_countConfusions_10 rfl ?_
      refine x_iload_n C dX2_countConfusions_11 rfl ?_
      refine x_callV C (c_X2_wordFor hk hi) kv_X2_wordFor kl_X2_66 dX2_countConfusions_12 (vput_s hk) rfl rfl rfl rfl (Nat.le_of_ble_eq_true rfl) (Nat.le_of_ble_eq_true rfl) (Nat.le_of_ble_eq_true rfl) (Nat.le_of_ble_eq_true rfl) (Nat.le_of_ble_eq_true rfl) ?_
      refine x_istore_n C dX2_countConfusions_15 (by decide) rfl ?_
      refine x_iload_n C dX2_countConfusions_16 rfl ?_
      refine x_iconst (v := 1) C dX2_countConfusions_17 (by decide) ?_
      refine x_iadd C dX2_countConfusions_18 ?_
      refine x_istore C dX2_countConfusions_19 (by decide) rfl ?_
      refine xX.cl (hl2 0 (by omega)) rfl (And.intro rfl (And.intro rfl (And.intro rfl (And.intro rfl (And.intro (congrArg (fun z => some (some (Value.int z))) (nI_1 i)) trivial))))) rfl
  refine x_iconst (v := 0) C dX2_countConfusions_0 (by decide) ?_
  refine x_istore_n C dX2_countConfusions_1 (by decide) rfl ?_
  refine x_iconst (v := 0) C dX2_countConfusions_2 (by decide) ?_
  refine x_istore_n C dX2_countConfusions_3 (by decide) rfl ?_
  refine xX.cl (hl 0 (by omega)) rfl (And.intro rfl (And.intro rfl (And.intro rfl trivial))) rfl
set_option maxRecDepth 100000 in
set_option maxHeartbeats 1000000 in
theorem c_X2_beginLife_none {l : Launch} {E : xEnv} {B N : Nat} {σ : Sg} {b k : Nat} {V : Vs} (hk : k < 8) (sh : Int32) : xM l yX2_beginLife cX2_beginLife 6 none 2 44 0 0 E B [.ref (b + 2 + 2 * k), .null, .int sh] N (vput E σ b V) N (vput E σ b (blS V k (none : Option Nat) sh)) none := by
  refine xM_of [some (.ref _), some .null, some (.int _), none, none, none] (by decide +kernel) (Nat.le_of_ble_eq_true rfl) rfl (fun k0 C Z => ?_)
  have hl : ∀ i, i ≤ 6 → xX k0 N 0 0 (vput E σ b (blL V k (none : Option Nat) sh (14 * i))) 12 [some (.ref (b + 2 + 2 * k)), some .null, some (.int sh), some (.int (nI i)), none, none] [] := by
    refine x_for 6 ?_ ?_
    · refine x_iload_n C dX2_beginLife_12 rfl ?_
      refine x_bipush (v := 6) C dX2_beginLife_13 (by decide) ?_
      refine x_ic_ge C 71 dX2_beginLife_15 (by decide) (fun _ => ?_) (fun h => absurd (nI_le (a := 6) (Nat.le_refl _) (by decide)) h)
      exact x_vret C Z dX2_beginLife_71 (Nat.le_of_ble_eq_true rfl) (Nat.le_of_ble_eq_true rfl) rfl rfl
    · intro i hi ih
      have hl2 : ∀ j, j ≤ 14 → xX k0 N 0 0 (vput E σ b (blL V k (none : Option Nat) sh (14 * i + j))) 21 [some (.ref (b + 2 + 2 * k)), some .null, some (.int sh), some (.int (nI i)), some (.int (nI j)), none] [] := by
        refine x_for 14 ?_ ?_
        · refine x_iload C dX2_beginLife_21 rfl ?_
          refine x_bipush (v := 14) C dX2_beginLife_23 (by decide) ?_
          refine x_ic_ge C 65 dX2_beginLife_25 (by decide) (fun _ => ?_) (fun h => absurd (nI_le (a := 14) (Nat.le_refl _) (by decide)) h)
          refine x_iinc C dX2_beginLife_65 rfl (nI_inc _) (by decide) rfl ?_
          refine x_goto C 12 dX2_beginLife_68 (by decide) ?_
          refine xX.cl ih rfl (And.intro rfl (And.intro rfl (And.intro rfl (And.intro rfl trivial)))) rfl
        · intro j hi2 ih2
          refine x_iload C dX2_beginLife_21 rfl ?_
          refine x_bipush (v := 14) C dX2_beginLife_23 (by decide) ?_
          refine x_ic_ge C 65 dX2_beginLife_25 (by decide) (fun h => absurd h (nI_ge (b := 14) hi2 (by decide))) (fun _ => ?_)
          refine x_aload_nN C dX2_beginLife_28 rfl ?_
          refine x_ifnnN C dX2_beginLife_29 ?_
          refine x_iconst (v := 0) C dX2_beginLife_32 (by decide) ?_
          refine x_goto C 48 dX2_beginLife_33 (by decide) ?_
          refine x_istore C dX2_beginLife_48 (by decide) rfl ?_
          refine x_aload_n C dX2_beginLife_50 rfl ?_
          refine x_iload_n C dX2_beginLife_51 rfl ?_
          refine x_iload C dX2_beginLife_52 rfl ?_
          refine x_iload C dX2_beginLife_54 rfl ?_
          refine x_callV C (c_X2_putWeight hk hi hi2 _) kv_X2_putWeight kl_X2_40 dX2_beginLife_56 (vput_s hk) rfl rfl rfl rfl (Nat.le_of_ble_eq_true rfl) (Nat.le_of_ble_eq_true rfl) (Nat.le_of_ble_eq_true rfl) (Nat.le_of_ble_eq_true rfl) (Nat.le_of_ble_eq_true rfl) ?_
          refine x_iinc C dX2_beginLife_59 rfl (nI_inc _) (by decide) rfl ?_
          refine x_goto C 21 dX2_beginLife_62 (by decide) ?_
          refine xX.cl ih2 (congrArg _ (blL_s hk)) (And.intro rfl (And.intro rfl (And.intro rfl (And.intro rfl (And.intro rfl trivial))))) rfl
      refine x_iload_n C dX2_beginLife_12 rfl ?_
      refine x_bipush (v := 6) C dX2_beginLife_13 (by decide) ?_
      refine x_ic_ge C 71 dX2_beginLife_15 (by decide) (fun h => absurd h (nI_ge (b := 6) hi (by decide))) (fun _ => ?_)
      refine x_iconst (v := 0) C dX2_beginLife_18 (by decide) ?_
      refine x_istore C dX2_beginLife_19 (by decide) rfl ?_
      refine xX.cl (hl2 0 (by omega)) rfl (And.intro rfl (And.intro rfl (And.intro rfl (And.intro rfl (And.intro rfl trivial))))) rfl
  refine x_aload_n C dX2_beginLife_0 rfl ?_
  refine x_iconst (v := 0) C dX2_beginLife_1 (by decide) ?_
  refine x_put (ty := .int) C kf_X2_25 (vput_s hk) rfl (by decide +kernel) rfl rfl (Nat.le_of_ble_eq_true rfl) (vput_a hk _) dX2_beginLife_2 ?_
  refine x_aload_n C dX2_beginLife_5 rfl ?_
  refine x_iconst (v := 0) C dX2_beginLife_6 (by decide) ?_
  refine x_put (ty := .int) C kf_X2_29 (vput_s hk) rfl (by decide +kernel) rfl rfl (Nat.le_of_ble_eq_true rfl) (vput_m hk _) dX2_beginLife_7 ?_
  refine x_iconst (v := 0) C dX2_beginLife_10 (by decide) ?_
  refine x_istore_n C dX2_beginLife_11 (by decide) rfl ?_
  refine xX.cl (hl 0 (by omega)) (congrArg _ blL_0) (And.intro rfl (And.intro rfl (And.intro rfl (And.intro rfl trivial)))) rfl
set_option maxRecDepth 100000 in
set_option maxHeartbeats 1000000 in
theorem c_X2_beginLife_some {l : Launch} {E : xEnv} {B N : Nat} {σ : Sg} {b k : Nat} {V : Vs} (hk : k < 8) {t : Nat} (ht : t < 8) (hne : t ≠ k) (sh : Int32) : xM l yX2_beginLife cX2_beginLife 6 none 2 44 0 0 E B [.ref (b + 2 + 2 * k), .ref (b + 2 + 2 * t), .int sh] N (vput E σ b V) N (vput E σ b (blS V k (some t) sh)) none := by
  refine xM_of [some (.ref _), some (.ref _), some (.int _), none, none, none] (by decide +kernel) (Nat.le_of_ble_eq_true rfl) rfl (fun k0 C Z => ?_)
  have hl : ∀ i, i ≤ 6 → xX k0 N 0 0 (vput E σ b (blL V k (some t) sh (14 * i))) 12 [some (.ref (b + 2 + 2 * k)), some (.ref (b + 2 + 2 * t)), some (.int sh), some (.int (nI i)), none, none] [] := by
    refine x_for 6 ?_ ?_
    · refine x_iload_n C dX2_beginLife_12 rfl ?_
      refine x_bipush (v := 6) C dX2_beginLife_13 (by decide) ?_
      refine x_ic_ge C 71 dX2_beginLife_15 (by decide) (fun _ => ?_) (fun h => absurd (nI_le (a := 6) (Nat.le_refl _) (by decide)) h)
      exact x_vret C Z dX2_beginLife_71 (Nat.le_of_ble_eq_true rfl) (Nat.le_of_ble_eq_true rfl) rfl rfl
    · intro i hi ih
      have hl2 : ∀ j, j ≤ 14 → xX k0 N 0 0 (vput E σ b (blL V k (some t) sh (14 * i + j))) 21 [some (.ref (b + 2 + 2 * k)), some (.ref (b + 2 + 2 * t)), some (.int sh), some (.int (nI i)), some (.int (nI j)), none] [] := by
        refine x_for 14 ?_ ?_
        · refine x_iload C dX2_beginLife_21 rfl ?_
          refine x_bipush (v := 14) C dX2_beginLife_23 (by decide) ?_
          refine x_ic_ge C 65 dX2_beginLife_25 (by decide) (fun _ => ?_) (fun h => absurd (nI_le (a := 14) (Nat.le_refl _) (by decide)) h)
          refine x_iinc C dX2_beginLife_65 rfl (nI_inc _) (by decide) rfl ?_
          refine x_goto C 12 dX2_beginLife_68 (by decide) ?_
          refine xX.cl ih rfl (And.intro rfl (And.intro rfl (And.intro rfl (And.intro rfl trivial)))) rfl
        · intro j hi2 ih2
          refine x_iload C dX2_beginLife_21 rfl ?_
          refine x_bipush (v := 14) C dX2_beginLife_23 (by decide) ?_
          refine x_ic_ge C 65 dX2_beginLife_25 (by decide) (fun h => absurd h (nI_ge (b := 14) hi2 (by decide))) (fun _ => ?_)
          refine x_aload_n C dX2_beginLife_28 rfl ?_
          refine x_ifnn C 36 dX2_beginLife_29 (by decide) ?_
          refine x_aload_n C dX2_beginLife_36 rfl ?_
          refine x_iload_n C dX2_beginLife_37 rfl ?_
          refine x_iload C dX2_beginLife_38 rfl ?_
          refine x_callV C (c_X2_weightOf ht hi hi2) kv_X2_weightOf kl_X2_36 dX2_beginLife_40 (vput_s ht) rfl rfl rfl rfl (Nat.le_of_ble_eq_true rfl) (Nat.le_of_ble_eq_true rfl) (Nat.le_of_ble_eq_true rfl) (Nat.le_of_ble_eq_true rfl) (Nat.le_of_ble_eq_true rfl) ?_
          refine x_iload_n C dX2_beginLife_43 rfl ?_
          refine x_imul C dX2_beginLife_44 ?_
          refine x_bipush (v := 100) C dX2_beginLife_45 (by decide) ?_
          refine x_idiv C dX2_beginLife_47 (by decide) ?_
          refine x_istore C dX2_beginLife_48 (by decide) rfl ?_
          refine x_aload_n C dX2_beginLife_50 rfl ?_
          refine x_iload_n C dX2_beginLife_51 rfl ?_
          refine x_iload C dX2_beginLife_52 rfl ?_
          refine x_iload C dX2_beginLife_54 rfl ?_
          refine x_callV C (c_X2_putWeight hk hi hi2 _) kv_X2_putWeight kl_X2_40 dX2_beginLife_56 (vput_s hk) rfl rfl rfl rfl (Nat.le_of_ble_eq_true rfl) (Nat.le_of_ble_eq_true rfl) (Nat.le_of_ble_eq_true rfl) (Nat.le_of_ble_eq_true rfl) (Nat.le_of_ble_eq_true rfl) ?_
          refine x_iinc C dX2_beginLife_59 rfl (nI_inc _) (by decide) rfl ?_
          refine x_goto C 21 dX2_beginLife_62 (by decide) ?_
          refine xX.cl ih2 (by rw [blL_t ht hk hne]; exact congrArg _ (blL_s hk)) (And.intro rfl (And.intro rfl (And.intro rfl (And.intro rfl (And.intro rfl trivial))))) rfl
      refine x_iload_n C dX2_beginLife_12 rfl ?_
      refine x_bipush (v := 6) C dX2_beginLife_13 (by decide) ?_
      refine x_ic_ge C 71 dX2_beginLife_15 (by decide) (fun h => absurd h (nI_ge (b := 6) hi (by decide))) (fun _ => ?_)
      refine x_iconst (v := 0) C dX2_beginLife_18 (by decide) ?_
      refine x_istore C dX2_beginLife_19 (by decide) rfl ?_
      refine xX.cl (hl2 0 (by omega)) rfl (And.intro rfl (And.intro rfl (And.intro rfl (And.intro rfl (And.intro rfl trivial))))) rfl
  refine x_aload_n C dX2_beginLife_0 rfl ?_
  refine x_iconst (v := 0) C dX2_beginLife_1 (by decide) ?_
  refine x_put (ty := .int) C kf_X2_25 (vput_s hk) rfl (by decide +kernel) rfl rfl (Nat.le_of_ble_eq_true rfl) (vput_a hk _) dX2_beginLife_2 ?_
  refine x_aload_n C dX2_beginLife_5 rfl ?_
  refine x_iconst (v := 0) C dX2_beginLife_6 (by decide) ?_
  refine x_put (ty := .int) C kf_X2_29 (vput_s hk) rfl (by decide +kernel) rfl rfl (Nat.le_of_ble_eq_true rfl) (vput_m hk _) dX2_beginLife_7 ?_
  refine x_iconst (v := 0) C dX2_beginLife_10 (by decide) ?_
  refine x_istore_n C dX2_beginLife_11 (by decide) rfl ?_
  refine xX.cl (hl 0 (by omega)) (congrArg _ blL_0) (And.intro rfl (And.intro rfl (And.intro rfl (And.intro rfl trivial)))) rfl
set_option maxRecDepth 100000 in
set_option maxHeartbeats 1000000 in
theorem c_X2_arrive {l : Launch} {E : xEnv} {B N : Nat} {σ : Sg} {b k : Nat} {V : Vs} (hk : k < 8) : xM l yX2_arrive cX2_arrive 1 none 3 69 0 0 E B [.ref (b + 2 + 2 * k)] N (vput E σ b V) N (vput E σ b (blS (up2 V 10 k 1) k none 0)) none := by
  refine xM_of [some (.ref _)] (by decide +kernel) (Nat.le_of_ble_eq_true rfl) rfl (fun k0 C Z => ?_)
  refine x_aload_n C dX2_arrive_0 rfl ?_
  refine x_iconst (v := 1) C dX2_arrive_1 (by decide) ?_
  refine x_put (ty := .boolean) C kf_X2_21 (vput_s hk) rfl (by decide +kernel) rfl rfl (Nat.le_of_ble_eq_true rfl) (vput_p1 hk) dX2_arrive_2 ?_
  refine x_aload_n C dX2_arrive_5 rfl ?_
  refine x_null C dX2_arrive_6 ?_
  refine x_iconst (v := 0) C dX2_arrive_7 (by decide) ?_
  refine x_callV C (c_X2_beginLife_none hk _) kv_X2_beginLife kl_X2_32 dX2_arrive_8 (vput_s hk) rfl rfl rfl rfl (Nat.le_of_ble_eq_true rfl) (Nat.le_of_ble_eq_true rfl) (Nat.le_of_ble_eq_true rfl) (Nat.le_of_ble_eq_true rfl) (Nat.le_of_ble_eq_true rfl) ?_
  exact x_vret C Z dX2_arrive_11 (Nat.le_of_ble_eq_true rfl) (Nat.le_of_ble_eq_true rfl) rfl rfl
set_option maxRecDepth 100000 in
set_option maxHeartbeats 1000000 in
theorem c_X2_leave {l : Launch} {E : xEnv} {B N : Nat} {σ : Sg} {b k : Nat} {V : Vs} (hk : k < 8) : xM l yX2_leave cX2_leave 1 none 0 0 0 0 E B [.ref (b + 2 + 2 * k)] N (vput E σ b V) N (vput E σ b (up2 V 10 k 0)) none := by
  refine xM_of [some (.ref _)] (by decide +kernel) (Nat.le_of_ble_eq_true rfl) rfl (fun k0 C Z => ?_)
  refine x_aload_n C dX2_leave_0 rfl ?_
  refine x_iconst (v := 0) C dX2_leave_1 (by decide) ?_
  refine x_put (ty := .boolean) C kf_X2_21 (vput_s hk) rfl (by decide +kernel) rfl rfl (Nat.le_of_ble_eq_true rfl) (vput_p0 hk) dX2_leave_2 ?_
  exact x_vret C Z dX2_leave_5 (Nat.le_of_ble_eq_true rfl) (Nat.le_of_ble_eq_true rfl) rfl rfl
set_option maxRecDepth 100000 in
set_option maxHeartbeats 1000000 in
theorem c_X2_copyFrom {l : Launch} {E : xEnv} {B N : Nat} {σ : Sg} {b c k : Nat} {V W : Vs} (hk : k < 8) (hd : b + 20 ≤ c ∨ c + 20 ≤ b) : xM l yX2_copyFrom cX2_copyFrom 2 none 1 32 0 0 E B [.ref (b + 2 + 2 * k), .ref (c + 2 + 2 * k)] N (vput E (vput E σ b V) c W) N (vput E (vput E σ b (cpK V W k)) c W) none := by
  refine xM_of [some (.ref _), some (.ref _)] (by decide +kernel) (Nat.le_of_ble_eq_true rfl) rfl (fun k0 C Z => ?_)
  refine x_aload_n C dX2_copyFrom_0 rfl ?_
  refine x_get C kf_X2_9 (vput_s hk) rfl dX2_copyFrom_1 ?_
  refine x_iconst (v := 0) C dX2_copyFrom_4 (by decide) ?_
  refine x_aload_n C dX2_copyFrom_5 rfl ?_
  refine x_get C kf_X2_9 (by rw [vput_out (by omega)]; exact vput_s hk) rfl dX2_copyFrom_6 ?_
  refine x_iconst (v := 0) C dX2_copyFrom_9 (by decide) ?_
  refine x_bipush (v := 84) C dX2_copyFrom_10 (by decide) ?_
  refine x_copy C kl_X2_15 kz_native kz_static ki_sys (vput_w hk) (by rw [vput_out (by omega)]; exact vput_w hk) (by omega) (by decide) (by decide) (by decide) (by decide) (by decide) (g2 := W k) cpy84 (Nat.le_of_ble_eq_true rfl) (Nat.le_of_ble_eq_true rfl) (by rw [xup_o (by omega), vput_rowk hk]) dX2_copyFrom_12 ?_
  refine x_aload_n C dX2_copyFrom_15 rfl ?_
  refine x_aload_n C dX2_copyFrom_16 rfl ?_
  refine x_get C kf_X2_21 (vput_s hk) rfl dX2_copyFrom_17 ?_
  refine x_put (ty := .boolean) C kf_X2_21 (by rw [vput_out (by omega)]; exact vput_s hk) rfl (by decide +kernel) (xfl_nar _) (xfl_fit _) (Nat.le_of_ble_eq_true rfl) (by rw [xup_o (by omega), vput_p hk]) dX2_copyFrom_20 ?_
  refine x_aload_n C dX2_copyFrom_23 rfl ?_
  refine x_aload_n C dX2_copyFrom_24 rfl ?_
  refine x_get C kf_X2_25 (vput_s hk) rfl dX2_copyFrom_25 ?_
  refine x_put (ty := .int) C kf_X2_25 (by rw [vput_out (by omega)]; exact vput_s hk) rfl (by decide +kernel) rfl rfl (Nat.le_of_ble_eq_true rfl) (by rw [xup_o (by omega), vput_a hk]) dX2_copyFrom_28 ?_
  refine x_aload_n C dX2_copyFrom_31 rfl ?_
  refine x_aload_n C dX2_copyFrom_32 rfl ?_
  refine x_get C kf_X2_29 (vput_s hk) rfl dX2_copyFrom_33 ?_
  refine x_put (ty := .int) C kf_X2_29 (by rw [vput_out (by omega)]; exact vput_s hk) rfl (by decide +kernel) rfl rfl (Nat.le_of_ble_eq_true rfl) (by rw [xup_o (by omega), vput_m hk]) dX2_copyFrom_36 ?_
  exact x_vret C Z dX2_copyFrom_39 (Nat.le_of_ble_eq_true rfl) (Nat.le_of_ble_eq_true rfl) rfl rfl

