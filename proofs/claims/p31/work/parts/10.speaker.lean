set_option maxRecDepth 100000 in
set_option maxHeartbeats 1000000 in
theorem c_X4_isMeaning {l : Launch} {E : xEnv} {B N : Nat} {σ : Sg} (x : Int32) : xM l yX4_isMeaning cX4_isMeaning 1 (some .boolean) 0 0 0 0 E B [.int x] N σ N σ (some (.int (xb (0 ≤ x ∧ x < 6)))) := by
  refine xM_of [some (.int _)] (by decide +kernel) (Nat.le_of_ble_eq_true rfl) rfl (fun k0 C Z => ?_)
  refine x_iload_n C dX4_isMeaning_0 rfl ?_
  refine x_if_lt C 14 dX4_isMeaning_1 (by decide) (fun h1 => ?_) (fun h1 => ?_)
  · refine x_iconst (v := 0) C dX4_isMeaning_14 (by decide) ?_
    exact x_zret C Z dX4_isMeaning_15 rfl (Nat.le_of_ble_eq_true rfl) (Nat.le_of_ble_eq_true rfl) rfl rfl (b_f (fun z => absurd h1 (Int32.not_lt.mpr z.1))).symm
  · refine x_iload_n C dX4_isMeaning_4 rfl ?_
    refine x_bipush (v := 6) C dX4_isMeaning_5 (by decide) ?_
    refine x_ic_ge C 14 dX4_isMeaning_7 (by decide) (fun h7 => ?_) (fun h7 => ?_)
    · refine x_iconst (v := 0) C dX4_isMeaning_14 (by decide) ?_
      exact x_zret C Z dX4_isMeaning_15 rfl (Nat.le_of_ble_eq_true rfl) (Nat.le_of_ble_eq_true rfl) rfl rfl (b_f (fun z => absurd z.2 (Int32.not_lt.mpr h7))).symm
    · refine x_iconst (v := 1) C dX4_isMeaning_10 (by decide) ?_
      refine x_goto C 15 dX4_isMeaning_11 (by decide) ?_
      exact x_zret C Z dX4_isMeaning_15 rfl (Nat.le_of_ble_eq_true rfl) (Nat.le_of_ble_eq_true rfl) rfl rfl (b_t ⟨Int32.not_lt.mp h1, Int32.not_le.mp h7⟩).symm
set_option maxRecDepth 100000 in
set_option maxHeartbeats 1000000 in
theorem c_X4_isWord {l : Launch} {E : xEnv} {B N : Nat} {σ : Sg} (x : Int32) : xM l yX4_isWord cX4_isWord 1 (some .boolean) 0 0 0 0 E B [.int x] N σ N σ (some (.int (xb (0 ≤ x ∧ x < 14)))) := by
  refine xM_of [some (.int _)] (by decide +kernel) (Nat.le_of_ble_eq_true rfl) rfl (fun k0 C Z => ?_)
  refine x_iload_n C dX4_isWord_0 rfl ?_
  refine x_if_lt C 14 dX4_isWord_1 (by decide) (fun h1 => ?_) (fun h1 => ?_)
  · refine x_iconst (v := 0) C dX4_isWord_14 (by decide) ?_
    exact x_zret C Z dX4_isWord_15 rfl (Nat.le_of_ble_eq_true rfl) (Nat.le_of_ble_eq_true rfl) rfl rfl (b_f (fun z => absurd h1 (Int32.not_lt.mpr z.1))).symm
  · refine x_iload_n C dX4_isWord_4 rfl ?_
    refine x_bipush (v := 14) C dX4_isWord_5 (by decide) ?_
    refine x_ic_ge C 14 dX4_isWord_7 (by decide) (fun h7 => ?_) (fun h7 => ?_)
    · refine x_iconst (v := 0) C dX4_isWord_14 (by decide) ?_
      exact x_zret C Z dX4_isWord_15 rfl (Nat.le_of_ble_eq_true rfl) (Nat.le_of_ble_eq_true rfl) rfl rfl (b_f (fun z => absurd z.2 (Int32.not_lt.mpr h7))).symm
    · refine x_iconst (v := 1) C dX4_isWord_10 (by decide) ?_
      refine x_goto C 15 dX4_isWord_11 (by decide) ?_
      exact x_zret C Z dX4_isWord_15 rfl (Nat.le_of_ble_eq_true rfl) (Nat.le_of_ble_eq_true rfl) rfl rfl (b_t ⟨Int32.not_lt.mp h1, Int32.not_le.mp h7⟩).symm
set_option maxRecDepth 100000 in
set_option maxHeartbeats 1000000 in
theorem c_X4_isBelow {l : Launch} {E : xEnv} {B N : Nat} {σ : Sg} (x y : Int32) : xM l yX4_isBelow cX4_isBelow 2 (some .boolean) 0 0 0 0 E B [.int x, .int y] N σ N σ (some (.int (xb (0 ≤ x ∧ x < y)))) := by
  refine xM_of [some (.int _), some (.int _)] (by decide +kernel) (Nat.le_of_ble_eq_true rfl) rfl (fun k0 C Z => ?_)
  refine x_iload_n C dX4_isBelow_0 rfl ?_
  refine x_if_lt C 13 dX4_isBelow_1 (by decide) (fun h1 => ?_) (fun h1 => ?_)
  · refine x_iconst (v := 0) C dX4_isBelow_13 (by decide) ?_
    exact x_zret C Z dX4_isBelow_14 rfl (Nat.le_of_ble_eq_true rfl) (Nat.le_of_ble_eq_true rfl) rfl rfl (b_f (fun z => absurd h1 (Int32.not_lt.mpr z.1))).symm
  · refine x_iload_n C dX4_isBelow_4 rfl ?_
    refine x_iload_n C dX4_isBelow_5 rfl ?_
    refine x_ic_ge C 13 dX4_isBelow_6 (by decide) (fun h6 => ?_) (fun h6 => ?_)
    · refine x_iconst (v := 0) C dX4_isBelow_13 (by decide) ?_
      exact x_zret C Z dX4_isBelow_14 rfl (Nat.le_of_ble_eq_true rfl) (Nat.le_of_ble_eq_true rfl) rfl rfl (b_f (fun z => absurd z.2 (Int32.not_lt.mpr h6))).symm
    · refine x_iconst (v := 1) C dX4_isBelow_9 (by decide) ?_
      refine x_goto C 14 dX4_isBelow_10 (by decide) ?_
      exact x_zret C Z dX4_isBelow_14 rfl (Nat.le_of_ble_eq_true rfl) (Nat.le_of_ble_eq_true rfl) rfl rfl (b_t ⟨Int32.not_lt.mp h1, Int32.not_le.mp h6⟩).symm
set_option maxRecDepth 100000 in
set_option maxHeartbeats 1000000 in
theorem c_X2_weightOf {l : Launch} {E : xEnv} {B N : Nat} {σ : Sg} {b k : Nat} {V : Vs} (hk : k < 8) {mm ww : Nat} (hm : mm < 6) (hw : ww < 14) : xM l yX2_weightOf cX2_weightOf 3 (some .int) 1 20 0 0 E B [.ref (b + 2 + 2 * k), .int (nI mm), .int (nI ww)] N (vput E σ b V) N (vput E σ b V) (some (.int (V k (14 * mm + ww)))) := by
  refine xM_of [some (.ref _), some (.int _), some (.int _)] (by decide +kernel) (Nat.le_of_ble_eq_true rfl) rfl (fun k0 C Z => ?_)
  refine x_iload_n C dX2_weightOf_0 rfl ?_
  refine x_callS C (c_X4_isMeaning _) ks_X4_isMeaning kl_X2_44 dX2_weightOf_1 rfl rfl rfl rfl (Nat.le_of_ble_eq_true rfl) (Nat.le_of_ble_eq_true rfl) (Nat.le_of_ble_eq_true rfl) (Nat.le_of_ble_eq_true rfl) (Nat.le_of_ble_eq_true rfl) ?_
  refine x_beq C 28 dX2_weightOf_4 (by decide) (fun h => absurd (bd_in (c := 6) hm (by decide)) h) (fun _ => ?_)
  refine x_iload_n C dX2_weightOf_7 rfl ?_
  refine x_callS C (c_X4_isWord _) ks_X4_isWord kl_X2_48 dX2_weightOf_8 rfl rfl rfl rfl (Nat.le_of_ble_eq_true rfl) (Nat.le_of_ble_eq_true rfl) (Nat.le_of_ble_eq_true rfl) (Nat.le_of_ble_eq_true rfl) (Nat.le_of_ble_eq_true rfl) ?_
  refine x_beq C 28 dX2_weightOf_11 (by decide) (fun h => absurd (bd_in (c := 14) hw (by decide)) h) (fun _ => ?_)
  refine x_aload_n C dX2_weightOf_14 rfl ?_
  refine x_get C kf_X2_9 (vput_s hk) rfl dX2_weightOf_15 ?_
  refine x_iload_n C dX2_weightOf_18 rfl ?_
  refine x_bipush (v := 14) C dX2_weightOf_19 (by decide) ?_
  refine x_imul C dX2_weightOf_21 ?_
  refine x_iload_n C dX2_weightOf_22 rfl ?_
  refine x_iadd C dX2_weightOf_23 ?_
  refine x_iald2 C (vput_w hk) (ix14 _ _) (by omega) (by decide) dX2_weightOf_24 ?_
  refine x_goto C 29 dX2_weightOf_25 (by decide) ?_
  exact x_zret C Z dX2_weightOf_29 rfl (Nat.le_of_ble_eq_true rfl) (Nat.le_of_ble_eq_true rfl) rfl rfl rfl
set_option maxRecDepth 100000 in
set_option maxHeartbeats 1000000 in
theorem c_X2_putWeight {l : Launch} {E : xEnv} {B N : Nat} {σ : Sg} {b k : Nat} {V : Vs} (hk : k < 8) {mm ww : Nat} (hm : mm < 6) (hw : ww < 14) (x : Int32) : xM l yX2_putWeight cX2_putWeight 4 none 1 21 0 0 E B [.ref (b + 2 + 2 * k), .int (nI mm), .int (nI ww), .int x] N (vput E σ b V) N (vput E σ b (up2 V k (14 * mm + ww) (clS x))) none := by
  refine xM_of [some (.ref _), some (.int _), some (.int _), some (.int _)] (by decide +kernel) (Nat.le_of_ble_eq_true rfl) rfl (fun k0 C Z => ?_)
  refine x_iload_n C dX2_putWeight_0 rfl ?_
  refine x_callS C (c_X4_isMeaning _) ks_X4_isMeaning kl_X2_44 dX2_putWeight_1 rfl rfl rfl rfl (Nat.le_of_ble_eq_true rfl) (Nat.le_of_ble_eq_true rfl) (Nat.le_of_ble_eq_true rfl) (Nat.le_of_ble_eq_true rfl) (Nat.le_of_ble_eq_true rfl) ?_
  refine x_beq C 35 dX2_putWeight_4 (by decide) (fun h => absurd (bd_in (c := 6) hm (by decide)) h) (fun _ => ?_)
  refine x_iload_n C dX2_putWeight_7 rfl ?_
  refine x_callS C (c_X4_isWord _) ks_X4_isWord kl_X2_48 dX2_putWeight_8 rfl rfl rfl rfl (Nat.le_of_ble_eq_true rfl) (Nat.le_of_ble_eq_true rfl) (Nat.le_of_ble_eq_true rfl) (Nat.le_of_ble_eq_true rfl) (Nat.le_of_ble_eq_true rfl) ?_
  refine x_beq C 35 dX2_putWeight_11 (by decide) (fun h => absurd (bd_in (c := 14) hw (by decide)) h) (fun _ => ?_)
  refine x_aload_n C dX2_putWeight_14 rfl ?_
  refine x_get C kf_X2_9 (vput_s hk) rfl dX2_putWeight_15 ?_
  refine x_iload_n C dX2_putWeight_18 rfl ?_
  refine x_bipush (v := 14) C dX2_putWeight_19 (by decide) ?_
  refine x_imul C dX2_putWeight_21 ?_
  refine x_iload_n C dX2_putWeight_22 rfl ?_
  refine x_iadd C dX2_putWeight_23 ?_
  refine x_iconst (v := 0) C dX2_putWeight_24 (by decide) ?_
  refine x_bipush (v := 99) C dX2_putWeight_25 (by decide) ?_
  refine x_iload_n C dX2_putWeight_27 rfl ?_
  refine x_mmin C kl_X2_51 kz_smin ki_math kz_cmin (Nat.le_of_ble_eq_true rfl) (Nat.le_of_ble_eq_true rfl) (Nat.le_of_ble_eq_true rfl) (Nat.le_of_ble_eq_true rfl) dX2_putWeight_28 ?_
  refine x_mmax C kl_X2_56 kz_smax ki_math kz_cmax (Nat.le_of_ble_eq_true rfl) (Nat.le_of_ble_eq_true rfl) (Nat.le_of_ble_eq_true rfl) (Nat.le_of_ble_eq_true rfl) dX2_putWeight_31 ?_
  refine x_iast2 C (vput_w hk) (ix14 _ _) (by omega) (by decide) (fun _ _ => rfl) (vput_wt hk _ _) dX2_putWeight_34 ?_
  exact x_vret C Z dX2_putWeight_35 (Nat.le_of_ble_eq_true rfl) (Nat.le_of_ble_eq_true rfl) rfl rfl
set_option maxRecDepth 100000 in
set_option maxHeartbeats 1000000 in
theorem c_X2_changeWeight {l : Launch} {E : xEnv} {B N : Nat} {σ : Sg} {b k : Nat} {V : Vs} (hk : k < 8) {mm ww : Nat} (hm : mm < 6) (hw : ww < 14) (x : Int32) : xM l yX2_changeWeight cX2_changeWeight 4 none 2 44 0 0 E B [.ref (b + 2 + 2 * k), .int (nI mm), .int (nI ww), .int x] N (vput E σ b V) N (vput E σ b (chS V k mm ww x)) none := by
  refine xM_of [some (.ref _), some (.int _), some (.int _), some (.int _)] (by decide +kernel) (Nat.le_of_ble_eq_true rfl) rfl (fun k0 C Z => ?_)
  refine x_aload_n C dX2_changeWeight_0 rfl ?_
  refine x_iload_n C dX2_changeWeight_1 rfl ?_
  refine x_iload_n C dX2_changeWeight_2 rfl ?_
  refine x_aload_n C dX2_changeWeight_3 rfl ?_
  refine x_iload_n C dX2_changeWeight_4 rfl ?_
  refine x_iload_n C dX2_changeWeight_5 rfl ?_
  refine x_callV C (c_X2_weightOf hk hm hw) kv_X2_weightOf kl_X2_36 dX2_changeWeight_6 (vput_s hk) rfl rfl rfl rfl (Nat.le_of_ble_eq_true rfl) (Nat.le_of_ble_eq_true rfl) (Nat.le_of_ble_eq_true rfl) (Nat.le_of_ble_eq_true rfl) (Nat.le_of_ble_eq_true rfl) ?_
  refine x_iload_n C dX2_changeWeight_9 rfl ?_
  refine x_iadd C dX2_changeWeight_10 ?_
  refine x_callV C (c_X2_putWeight hk hm hw _) kv_X2_putWeight kl_X2_40 dX2_changeWeight_11 (vput_s hk) rfl rfl rfl rfl (Nat.le_of_ble_eq_true rfl) (Nat.le_of_ble_eq_true rfl) (Nat.le_of_ble_eq_true rfl) (Nat.le_of_ble_eq_true rfl) (Nat.le_of_ble_eq_true rfl) ?_
  exact x_vret C Z dX2_changeWeight_14 (Nat.le_of_ble_eq_true rfl) (Nat.le_of_ble_eq_true rfl) rfl rfl
set_option maxRecDepth 100000 in
set_option maxHeartbeats 1000000 in
theorem c_X2_wordFor {l : Launch} {E : xEnv} {B N : Nat} {σ : Sg} {b k : Nat} {V : Vs} (hk : k < 8) {mm : Nat} (hm : mm < 6) : xM l yX2_wordFor cX2_wordFor 6 (some .int) 2 42 0 0 E B [.ref (b + 2 + 2 * k), .int (nI mm)] N (vput E σ b V) N (vput E σ b V) (some (.int (oI (wfS (V k) mm)))) := by
  refine xM_of [some (.ref _), some (.int _), none, none, none, none] (by decide +kernel) (Nat.le_of_ble_eq_true rfl) rfl (fun k0 C Z => ?_)
  have hl : ∀ i, i ≤ 14 → xX k0 N 0 0 (vput E σ b V) 8 [some (.ref (b + 2 + 2 * k)), some (.int (nI mm)), some (.int (oI (wfL (fun w => V k (14 * mm + w)) i).1)), some (.int (wfL (fun w => V k (14 * mm + w)) i).2), some (.int (nI i)), none] [] := by
    refine x_for 14 ?_ ?_
    · refine x_iload C dX2_wordFor_8 rfl ?_
      refine x_bipush (v := 14) C dX2_wordFor_10 (by decide) ?_
      refine x_ic_ge C 42 dX2_wordFor_12 (by decide) (fun _ => ?_) (fun h => absurd (nI_le (a := 14) (Nat.le_refl _) (by decide)) h)
      refine x_iload_n C dX2_wordFor_42 rfl ?_
      exact x_zret C Z dX2_wordFor_43 rfl (Nat.le_of_ble_eq_true rfl) (Nat.le_of_ble_eq_true rfl) rfl rfl rfl
    · intro i hi ih
      refine x_iload C dX2_wordFor_8 rfl ?_
      refine x_bipush (v := 14) C dX2_wordFor_10 (by decide) ?_
      refine x_ic_ge C 42 dX2_wordFor_12 (by decide) (fun h => absurd h (nI_ge (b := 14) hi (by decide))) (fun _ => ?_)
      refine x_aload_n C dX2_wordFor_15 rfl ?_
      refine x_iload_n C dX2_wordFor_16 rfl ?_
      refine x_iload C dX2_wordFor_17 rfl ?_
      refine x_callV C (c_X2_weightOf hk hm hi) kv_X2_weightOf kl_X2_36 dX2_wordFor_19 (vput_s hk) rfl rfl rfl rfl (Nat.le_of_ble_eq_true rfl) (Nat.le_of_ble_eq_true rfl) (Nat.le_of_ble_eq_true rfl) (Nat.le_of_ble_eq_true rfl) (Nat.le_of_ble_eq_true rfl) ?_
      refine x_istore C dX2_wordFor_22 (by decide) rfl ?_
      refine x_iload C dX2_wordFor_24 rfl ?_
      refine x_iload_n C dX2_wordFor_26 rfl ?_
      refine x_ic_le C 36 dX2_wordFor_27 (by decide) (fun h27 => ?_) (fun h27 => ?_)
      · refine x_iinc C dX2_wordFor_36 rfl (nI_inc _) (by decide) rfl ?_
        refine x_goto C 8 dX2_wordFor_39 (by decide) ?_
        refine xX.cl ih rfl (And.intro rfl (And.intro rfl (And.intro ?_ (And.intro ?_ (And.intro rfl trivial))))) rfl
        all_goals (rw [wfL, if_pos h27]; rfl)
      · refine x_iload C dX2_wordFor_30 rfl ?_
        refine x_istore_n C dX2_wordFor_32 (by decide) rfl ?_
        refine x_iload C dX2_wordFor_33 rfl ?_
        refine x_istore_n C dX2_wordFor_35 (by decide) rfl ?_
        refine x_iinc C dX2_wordFor_36 rfl (nI_inc _) (by decide) rfl ?_
        refine x_goto C 8 dX2_wordFor_39 (by decide) ?_
        refine xX.cl ih rfl (And.intro rfl (And.intro rfl (And.intro ?_ (And.intro ?_ (And.intro rfl trivial))))) rfl
        all_goals (rw [wfL, if_neg h27]; rfl)
  refine x_bipush (v := (-6)) C dX2_wordFor_0 (by decide) ?_
  refine x_istore_n C dX2_wordFor_2 (by decide) rfl ?_
  refine x_iconst (v := 0) C dX2_wordFor_3 (by decide) ?_
  refine x_istore_n C dX2_wordFor_4 (by decide) rfl ?_
  refine x_iconst (v := 0) C dX2_wordFor_5 (by decide) ?_
  refine x_istore C dX2_wordFor_6 (by decide) rfl ?_
  exact hl 0 (by omega)
set_option maxRecDepth 100000 in
set_option maxHeartbeats 1000000 in
theorem c_X2_meaningOf {l : Launch} {E : xEnv} {B N : Nat} {σ : Sg} {b k : Nat} {V : Vs} (hk : k < 8) {ww : Nat} (hw : ww < 14) : xM l yX2_meaningOf cX2_meaningOf 6 (some .int) 2 42 0 0 E B [.ref (b + 2 + 2 * k), .int (nI ww)] N (vput E σ b V) N (vput E σ b V) (some (.int (oI (haS (V k) ww)))) := by
  refine xM_of [some (.ref _), some (.int _), none, none, none, none] (by decide +kernel) (Nat.le_of_ble_eq_true rfl) rfl (fun k0 C Z => ?_)
  have hl : ∀ i, i ≤ 6 → xX k0 N 0 0 (vput E σ b V) 8 [some (.ref (b + 2 + 2 * k)), some (.int (nI ww)), some (.int (oI (wfL (fun m => V k (14 * m + ww)) i).1)), some (.int (wfL (fun m => V k (14 * m + ww)) i).2), some (.int (nI i)), none] [] := by
    refine x_for 6 ?_ ?_
    · refine x_iload C dX2_meaningOf_8 rfl ?_
      refine x_bipush (v := 6) C dX2_meaningOf_10 (by decide) ?_
      refine x_ic_ge C 42 dX2_meaningOf_12 (by decide) (fun _ => ?_) (fun h => absurd (nI_le (a := 6) (Nat.le_refl _) (by decide)) h)
      refine x_iload_n C dX2_meaningOf_42 rfl ?_
      exact x_zret C Z dX2_meaningOf_43 rfl (Nat.le_of_ble_eq_true rfl) (Nat.le_of_ble_eq_true rfl) rfl rfl rfl
    · intro i hi ih
      refine x_iload C dX2_meaningOf_8 rfl ?_
      refine x_bipush (v := 6) C dX2_meaningOf_10 (by decide) ?_
      refine x_ic_ge C 42 dX2_meaningOf_12 (by decide) (fun h => absurd h (nI_ge (b := 6) hi (by decide))) (fun _ => ?_)
      refine x_aload_n C dX2_meaningOf_15 rfl ?_
      refine x_iload C dX2_meaningOf_16 rfl ?_
      refine x_iload_n C dX2_meaningOf_18 rfl ?_
      refine x_callV C (c_X2_weightOf hk hi hw) kv_X2_weightOf kl_X2_36 dX2_meaningOf_19 (vput_s hk) rfl rfl rfl rfl (Nat.le_of_ble_eq_true rfl) (Nat.le_of_ble_eq_true rfl) (Nat.le_of_ble_eq_true rfl) (Nat.le_of_ble_eq_true rfl) (Nat.le_of_ble_eq_true rfl) ?_
      refine x_istore C dX2_meaningOf_22 (by decide) rfl ?_
      refine x_iload C dX2_meaningOf_24 rfl ?_
      refine x_iload_n C dX2_meaningOf_26 rfl ?_
      refine x_ic_le C 36 dX2_meaningOf_27 (by decide) (fun h27 => ?_) (fun h27 => ?_)
      · refine x_iinc C dX2_meaningOf_36 rfl (nI_inc _) (by decide) rfl ?_
        refine x_goto C 8 dX2_meaningOf_39 (by decide) ?_
        refine xX.cl ih rfl (And.intro rfl (And.intro rfl (And.intro ?_ (And.intro ?_ (And.intro rfl trivial))))) rfl
        all_goals (rw [wfL, if_pos h27]; rfl)
      · refine x_iload C dX2_meaningOf_30 rfl ?_
        refine x_istore_n C dX2_meaningOf_32 (by decide) rfl ?_
        refine x_iload C dX2_meaningOf_33 rfl ?_
        refine x_istore_n C dX2_meaningOf_35 (by decide) rfl ?_
        refine x_iinc C dX2_meaningOf_36 rfl (nI_inc _) (by decide) rfl ?_
        refine x_goto C 8 dX2_meaningOf_39 (by decide) ?_
        refine xX.cl ih rfl (And.intro rfl (And.intro rfl (And.intro ?_ (And.intro ?_ (And.intro rfl trivial))))) rfl
        all_goals (rw [wfL, if_neg h27]; rfl)
  refine x_bipush (v := (-6)) C dX2_meaningOf_0 (by decide) ?_
  refine x_istore_n C dX2_meaningOf_2 (by decide) rfl ?_
  refine x_iconst (v := 0) C dX2_meaningOf_3 (by decide) ?_
  refine x_istore_n C dX2_meaningOf_4 (by decide) rfl ?_
  refine x_iconst (v := 0) C dX2_meaningOf_5 (by decide) ?_
  refine x_istore C dX2_meaningOf_6 (by decide) rfl ?_
  exact hl 0 (by omega)

