set_option maxRecDepth 100000 in
set_option maxHeartbeats 1000000 in
theorem c_L_low {l : Launch} {E : xEnv} {B N : Nat} {σ : Sg} (x : Int32) {n : Nat} (h0 : 0 < n) (hn : n < 2 ^ 31) : xM l yL_low cL_low 2 (some .int) 0 0 0 0 E B [.int x, .int (nI n)] N σ N σ (some (.int (nI (lwN2 x n)))) := by
  refine xM_of [some (.int _), some (.int _)] (by decide +kernel) (Nat.le_of_ble_eq_true rfl) rfl (fun k0 C Z => ?_)
  refine x_iload_n C dL_low_0 rfl ?_
  refine x_ldc C kk_L_9 dL_low_1 ?_
  refine x_iand C dL_low_3 ?_
  refine x_iload_n C dL_low_4 rfl ?_
  refine x_irem C dL_low_5 (nI_ne0 h0 hn) ?_
  exact x_zret C Z dL_low_6 rfl (Nat.le_of_ble_eq_true rfl) (Nat.le_of_ble_eq_true rfl) rfl rfl (lw_e h0 hn)
set_option maxRecDepth 100000 in
set_option maxHeartbeats 1000000 in
theorem c_L_row0 {l : Launch} {E : xEnv} {B N : Nat} {σ : Sg} {a b c d : Nat} : xM l yL_row cL_row 5 (some (.array .int)) 0 0 0 0 E B [.int (nI 0), .ref a, .ref b, .ref c, .ref d] N σ N σ (some (.ref a)) := by
  refine xM_of [some (.int _), some (.ref _), some (.ref _), some (.ref _), some (.ref _)] (by decide +kernel) (Nat.le_of_ble_eq_true rfl) rfl (fun k0 C Z => ?_)
  refine x_iload_n C dL_row_0 rfl ?_
  refine x_if_ne C 8 dL_row_1 (by decide) (fun h => absurd (by decide) h) (fun _ => ?_)
  refine x_aload_n C dL_row_4 rfl ?_
  refine x_goto C 28 dL_row_5 (by decide) ?_
  exact x_areta C Z dL_row_28 (Or.inr ⟨_, rfl⟩) (Nat.le_of_ble_eq_true rfl) (Nat.le_of_ble_eq_true rfl) rfl rfl rfl
set_option maxRecDepth 100000 in
set_option maxHeartbeats 1000000 in
theorem c_L_row1 {l : Launch} {E : xEnv} {B N : Nat} {σ : Sg} {a b c d : Nat} : xM l yL_row cL_row 5 (some (.array .int)) 0 0 0 0 E B [.int (nI 1), .ref a, .ref b, .ref c, .ref d] N σ N σ (some (.ref b)) := by
  refine xM_of [some (.int _), some (.ref _), some (.ref _), some (.ref _), some (.ref _)] (by decide +kernel) (Nat.le_of_ble_eq_true rfl) rfl (fun k0 C Z => ?_)
  refine x_iload_n C dL_row_0 rfl ?_
  refine x_if_ne C 8 dL_row_1 (by decide) (fun _ => ?_) (fun h => absurd h (by decide))
  refine x_iload_n C dL_row_8 rfl ?_
  refine x_iconst (v := 1) C dL_row_9 (by decide) ?_
  refine x_ic_ne C 17 dL_row_10 (by decide) (fun h => absurd (by decide) h) (fun _ => ?_)
  refine x_aload_n C dL_row_13 rfl ?_
  refine x_goto C 28 dL_row_14 (by decide) ?_
  exact x_areta C Z dL_row_28 (Or.inr ⟨_, rfl⟩) (Nat.le_of_ble_eq_true rfl) (Nat.le_of_ble_eq_true rfl) rfl rfl rfl
set_option maxRecDepth 100000 in
set_option maxHeartbeats 1000000 in
theorem c_L_row2 {l : Launch} {E : xEnv} {B N : Nat} {σ : Sg} {a b c d : Nat} : xM l yL_row cL_row 5 (some (.array .int)) 0 0 0 0 E B [.int (nI 2), .ref a, .ref b, .ref c, .ref d] N σ N σ (some (.ref c)) := by
  refine xM_of [some (.int _), some (.ref _), some (.ref _), some (.ref _), some (.ref _)] (by decide +kernel) (Nat.le_of_ble_eq_true rfl) rfl (fun k0 C Z => ?_)
  refine x_iload_n C dL_row_0 rfl ?_
  refine x_if_ne C 8 dL_row_1 (by decide) (fun _ => ?_) (fun h => absurd h (by decide))
  refine x_iload_n C dL_row_8 rfl ?_
  refine x_iconst (v := 1) C dL_row_9 (by decide) ?_
  refine x_ic_ne C 17 dL_row_10 (by decide) (fun _ => ?_) (fun h => absurd h (by decide))
  refine x_iload_n C dL_row_17 rfl ?_
  refine x_iconst (v := 2) C dL_row_18 (by decide) ?_
  refine x_ic_ne C 26 dL_row_19 (by decide) (fun h => absurd (by decide) h) (fun _ => ?_)
  refine x_aload_n C dL_row_22 rfl ?_
  refine x_goto C 28 dL_row_23 (by decide) ?_
  exact x_areta C Z dL_row_28 (Or.inr ⟨_, rfl⟩) (Nat.le_of_ble_eq_true rfl) (Nat.le_of_ble_eq_true rfl) rfl rfl rfl
set_option maxRecDepth 100000 in
set_option maxHeartbeats 1000000 in
theorem c_L_row3 {l : Launch} {E : xEnv} {B N : Nat} {σ : Sg} {a b c d : Nat} : xM l yL_row cL_row 5 (some (.array .int)) 0 0 0 0 E B [.int (nI 3), .ref a, .ref b, .ref c, .ref d] N σ N σ (some (.ref d)) := by
  refine xM_of [some (.int _), some (.ref _), some (.ref _), some (.ref _), some (.ref _)] (by decide +kernel) (Nat.le_of_ble_eq_true rfl) rfl (fun k0 C Z => ?_)
  refine x_iload_n C dL_row_0 rfl ?_
  refine x_if_ne C 8 dL_row_1 (by decide) (fun _ => ?_) (fun h => absurd h (by decide))
  refine x_iload_n C dL_row_8 rfl ?_
  refine x_iconst (v := 1) C dL_row_9 (by decide) ?_
  refine x_ic_ne C 17 dL_row_10 (by decide) (fun _ => ?_) (fun h => absurd h (by decide))
  refine x_iload_n C dL_row_17 rfl ?_
  refine x_iconst (v := 2) C dL_row_18 (by decide) ?_
  refine x_ic_ne C 26 dL_row_19 (by decide) (fun _ => ?_) (fun h => absurd h (by decide))
  refine x_aload C dL_row_26 rfl ?_
  exact x_areta C Z dL_row_28 (Or.inr ⟨_, rfl⟩) (Nat.le_of_ble_eq_true rfl) (Nat.le_of_ble_eq_true rfl) rfl rfl rfl
theorem c_L_row {l : Launch} {E : xEnv} {B N : Nat} {σ : Sg} {A w : Nat} (hw : w < 4) : xM l yL_row cL_row 5 (some (.array .int)) 0 0 0 0 E B [.int (nI w), .ref (A + 1), .ref (A + 2), .ref (A + 3), .ref (A + 4)] N σ N σ (some (.ref (A + 1 + w))) := by
  rcases (show w = 0 ∨ w = 1 ∨ w = 2 ∨ w = 3 by omega) with rfl | rfl | rfl | rfl
  · exact c_L_row0
  · exact c_L_row1
  · exact c_L_row2
  · exact c_L_row3
set_option maxRecDepth 100000 in
set_option maxHeartbeats 1000000 in
theorem c_L_draw {l : Launch} {E : xEnv} {B N : Nat} {σ σ2 : Sg} {a0 n s : Nat} {Q : Fn} (he : σ a0 = some (.inl (xI E, 17, .inl Q))) (hq : Q 0 = nI s) (h6 : s < 65536) (h0 : 0 < n) (hn : n < 2 ^ 31) (hs2 : xup σ a0 (.inl (xI E, 17, .inl (upd Q 0 (nI (sdN (nI s)))))) = σ2) : xM l yL_draw cL_draw 2 (some .int) 0 0 0 0 E B [.int (nI n), .ref a0] N σ N σ2 (some (.int (nI (sdN (nI s) / 16 % n)))) := by
  refine xM_of [some (.int _), some (.ref _)] (by decide +kernel) (Nat.le_of_ble_eq_true rfl) rfl (fun k0 C Z => ?_)
  refine x_aload_n C dL_draw_0 rfl ?_
  refine x_iconst (v := 0) C dL_draw_1 (by decide) ?_
  refine x_ldc2 C kk_L_10 dL_draw_2 ?_
  refine x_aload_n C dL_draw_5 rfl ?_
  refine x_iconst (v := 0) C dL_draw_6 (by decide) ?_
  refine x_iald2 C he (show (0 : Int32) = nI 0 from rfl) (by decide) (by decide) dL_draw_7 ?_
  refine x_i2l C dL_draw_8 ?_
  refine x_lmul C dL_draw_9 ?_
  refine x_ldc2 C kk_L_12 dL_draw_10 ?_
  refine x_ladd C dL_draw_13 ?_
  refine x_ldc2 C kk_L_14 dL_draw_14 ?_
  refine x_land C dL_draw_17 ?_
  refine x_l2i C dL_draw_18 ?_
  rw [hq, l_dr h6]
  refine x_iast2 C he (show (0 : Int32) = nI 0 from rfl) (by decide) (by decide) (fun _ _ => rfl) hs2 dL_draw_19 ?_
  have he2 : σ2 a0 = some (.inl (xI E, 17, .inl (upd Q 0 (nI (sdN (nI s)))))) := by rw [← hs2]; exact xup_s
  refine x_aload_n C dL_draw_20 rfl ?_
  refine x_iconst (v := 0) C dL_draw_21 (by decide) ?_
  refine x_iald2 C he2 (show (0 : Int32) = nI 0 from rfl) (by decide) (by decide) dL_draw_22 ?_
  rw [pk_us]
  refine x_iconst (v := 4) C dL_draw_23 (by decide) ?_
  refine x_ishr C dL_draw_24 ?_
  rw [pk_shrN (by have := sdN_lt (x := nI s); omega) _ 4 rfl]
  refine x_iload_n C dL_draw_25 rfl ?_
  refine x_irem C dL_draw_26 (nI_ne0 h0 hn) ?_
  exact x_zret C Z dL_draw_27 rfl (Nat.le_of_ble_eq_true rfl) (Nat.le_of_ble_eq_true rfl) rfl rfl (pk_rem (by have := sdN_lt (x := nI s); omega) h0 hn)
set_option maxRecDepth 100000 in
set_option maxHeartbeats 1000000 in
theorem c_L_word {l : Launch} {E : xEnv} {B N : Nat} {σ : Sg} {a0 m : Nat} {f : Fn} (he : σ a0 = some (.inl (xI E, 60, .inl f))) (hm : m < 6) : xM l yL_word cL_word 4 (some .int) 0 0 0 0 E B [.int (nI m), .ref a0] N σ N σ (some (.int (oI (wdS f m)))) := by
  refine xM_of [some (.int (nI m)), some (.ref _), none, none] (by decide +kernel) (Nat.le_of_ble_eq_true rfl) rfl (fun k0 C Z => ?_)
  have hl : ∀ t, t ≤ 10 → ∀ o, isG (fun i => f (10 * m + i)) t 10 o → xX k0 N 0 0 σ 6 [some (.int (nI m)), some (.ref a0), some (.int (oI o)), some (.int (nI t - 1))] [] := by
    refine x_down 10 ?_ ?_
    · intro o ho
      refine x_iload_n C dL_word_6 rfl ?_
      refine x_if_lt C 52 dL_word_7 (by decide) (fun _ => ?_) (fun h => absurd (by decide) h)
      refine x_iload_n C dL_word_52 rfl ?_
      exact x_zret C Z dL_word_53 rfl (Nat.le_of_ble_eq_true rfl) (Nat.le_of_ble_eq_true rfl) rfl rfl (congrArg oI (isG_e ho))
    · intro t ht ih o ho
      rw [nI_p1]
      refine x_iload_n C dL_word_6 rfl ?_
      refine x_if_lt C 52 dL_word_7 (by decide) (fun h => absurd h (nI_pos (by omega))) (fun _ => ?_)
      refine x_aload_n C dL_word_10 rfl ?_
      refine x_bipush (v := 10) C dL_word_11 (by decide) ?_
      refine x_iload_n C dL_word_13 rfl ?_
      refine x_imul C dL_word_14 ?_
      refine x_iload_n C dL_word_15 rfl ?_
      refine x_iadd C dL_word_16 ?_
      refine x_iald2 C he (ix10 m t) (by omega) (by decide) dL_word_17 ?_
      refine x_if_le C 46 dL_word_18 (by decide) (fun h18 => ?_) (fun h18 => ?_)
      · refine x_iinc C dL_word_46 rfl (nI_m t) (by decide) rfl ?_
        refine x_goto C 6 dL_word_49 (by decide) ?_
        exact ih o (isT_dsk (fun z => absurd z (Int32.not_lt.mpr h18)) ho)
      · refine x_iload_n C dL_word_21 rfl ?_
        cases o with
        | none =>
          refine x_if_lt C 44 dL_word_22 (by decide) (fun _ => ?_) (fun h => absurd (by decide) h)
          refine x_iload_n C dL_word_44 rfl ?_
          refine x_istore_n C dL_word_45 (by decide) rfl ?_
          refine x_iinc C dL_word_46 rfl (nI_m t) (by decide) rfl ?_
          refine x_goto C 6 dL_word_49 (by decide) ?_
          exact ih (some t) (isT_dtk (Int32.not_le.mp h18) (by omega) (fun b2 z => by cases z) ho)
        | some b2 =>
          have hb2 : b2 < 10 := ho.2.1
          refine x_if_lt C 44 dL_word_22 (by decide) (fun h => absurd h (nI_pos (n := b2) (by omega))) (fun _ => ?_)
          refine x_aload_n C dL_word_25 rfl ?_
          refine x_bipush (v := 10) C dL_word_26 (by decide) ?_
          refine x_iload_n C dL_word_28 rfl ?_
          refine x_imul C dL_word_29 ?_
          refine x_iload_n C dL_word_30 rfl ?_
          refine x_iadd C dL_word_31 ?_
          refine x_iald2 C he (ix10 m t) (by omega) (by decide) dL_word_32 ?_
          refine x_aload_n C dL_word_33 rfl ?_
          refine x_bipush (v := 10) C dL_word_34 (by decide) ?_
          refine x_iload_n C dL_word_36 rfl ?_
          refine x_imul C dL_word_37 ?_
          refine x_iload_n C dL_word_38 rfl ?_
          refine x_iadd C dL_word_39 ?_
          refine x_iald2 C he (ix10 m b2) (by omega) (by decide) dL_word_40 ?_
          refine x_ic_lt C 46 dL_word_41 (by decide) (fun h41 => ?_) (fun h41 => ?_)
          · refine x_iinc C dL_word_46 rfl (nI_m t) (by decide) rfl ?_
            refine x_goto C 6 dL_word_49 (by decide) ?_
            exact ih (some b2) (isT_dkp (by have := Int32.lt_iff_toInt_lt.mp h41; show -(f (10 * m + b2)).toInt < -(f (10 * m + t)).toInt; omega) ho)
          · refine x_iload_n C dL_word_44 rfl ?_
            refine x_istore_n C dL_word_45 (by decide) rfl ?_
            refine x_iinc C dL_word_46 rfl (nI_m t) (by decide) rfl ?_
            refine x_goto C 6 dL_word_49 (by decide) ?_
            exact ih (some t) (isT_dtk (Int32.not_le.mp h18) (by omega) (fun b3 z => by cases z; have := Int32.not_lt.mp h41; have := Int32.le_iff_toInt_le.mp this; show -(f (10 * m + t)).toInt ≤ -(f (10 * m + b2)).toInt; omega) ho)
  refine x_bipush (v := (-6)) C dL_word_0 (by decide) ?_
  refine x_istore_n C dL_word_2 (by decide) rfl ?_
  refine x_bipush (v := 9) C dL_word_3 (by decide) ?_
  refine x_istore_n C dL_word_5 (by decide) rfl ?_
  exact hl 10 (Nat.le_refl _) none isT_0
set_option maxRecDepth 100000 in
set_option maxHeartbeats 1000000 in
theorem c_L_heard {l : Launch} {E : xEnv} {B N : Nat} {σ : Sg} {a0 w : Nat} {f : Fn} (he : σ a0 = some (.inl (xI E, 60, .inl f))) (hw : w < 10) : xM l yL_heard cL_heard 4 (some .int) 0 0 0 0 E B [.int (nI w), .ref a0] N σ N σ (some (.int (oI (hdS f w)))) := by
  refine xM_of [some (.int (nI w)), some (.ref _), none, none] (by decide +kernel) (Nat.le_of_ble_eq_true rfl) rfl (fun k0 C Z => ?_)
  have hl : ∀ t, t ≤ 6 → ∀ o, isG (fun i => f (10 * i + w)) t 6 o → xX k0 N 0 0 σ 5 [some (.int (nI w)), some (.ref a0), some (.int (oI o)), some (.int (nI t - 1))] [] := by
    refine x_down 6 ?_ ?_
    · intro o ho
      refine x_iload_n C dL_heard_5 rfl ?_
      refine x_if_lt C 57 dL_heard_6 (by decide) (fun _ => ?_) (fun h => absurd (by decide) h)
      refine x_iload_n C dL_heard_57 rfl ?_
      exact x_zret C Z dL_heard_58 rfl (Nat.le_of_ble_eq_true rfl) (Nat.le_of_ble_eq_true rfl) rfl rfl (congrArg oI (isG_e ho))
    · intro t ht ih o ho
      rw [nI_p1]
      refine x_iload_n C dL_heard_5 rfl ?_
      refine x_if_lt C 57 dL_heard_6 (by decide) (fun h => absurd h (nI_pos (by omega))) (fun _ => ?_)
      refine x_iload_n C dL_heard_9 rfl ?_
      refine x_bipush (v := 10) C dL_heard_10 (by decide) ?_
      refine x_ic_ge C 57 dL_heard_12 (by decide) (fun h => absurd h (nI_ge (b := 10) (by omega) (by decide))) (fun _ => ?_)
      refine x_aload_n C dL_heard_15 rfl ?_
      refine x_bipush (v := 10) C dL_heard_16 (by decide) ?_
      refine x_iload_n C dL_heard_18 rfl ?_
      refine x_imul C dL_heard_19 ?_
      refine x_iload_n C dL_heard_20 rfl ?_
      refine x_iadd C dL_heard_21 ?_
      refine x_iald2 C he (ix10 t w) (by omega) (by decide) dL_heard_22 ?_
      refine x_if_le C 51 dL_heard_23 (by decide) (fun h23 => ?_) (fun h23 => ?_)
      · refine x_iinc C dL_heard_51 rfl (nI_m t) (by decide) rfl ?_
        refine x_goto C 5 dL_heard_54 (by decide) ?_
        exact ih o (isT_dsk (fun z => absurd z (Int32.not_lt.mpr h23)) ho)
      · refine x_iload_n C dL_heard_26 rfl ?_
        cases o with
        | none =>
          refine x_if_lt C 49 dL_heard_27 (by decide) (fun _ => ?_) (fun h => absurd (by decide) h)
          refine x_iload_n C dL_heard_49 rfl ?_
          refine x_istore_n C dL_heard_50 (by decide) rfl ?_
          refine x_iinc C dL_heard_51 rfl (nI_m t) (by decide) rfl ?_
          refine x_goto C 5 dL_heard_54 (by decide) ?_
          exact ih (some t) (isT_dtk (Int32.not_le.mp h23) (by omega) (fun b2 z => by cases z) ho)
        | some b2 =>
          have hb2 : b2 < 6 := ho.2.1
          refine x_if_lt C 49 dL_heard_27 (by decide) (fun h => absurd h (nI_pos (n := b2) (by omega))) (fun _ => ?_)
          refine x_aload_n C dL_heard_30 rfl ?_
          refine x_bipush (v := 10) C dL_heard_31 (by decide) ?_
          refine x_iload_n C dL_heard_33 rfl ?_
          refine x_imul C dL_heard_34 ?_
          refine x_iload_n C dL_heard_35 rfl ?_
          refine x_iadd C dL_heard_36 ?_
          refine x_iald2 C he (ix10 t w) (by omega) (by decide) dL_heard_37 ?_
          refine x_aload_n C dL_heard_38 rfl ?_
          refine x_bipush (v := 10) C dL_heard_39 (by decide) ?_
          refine x_iload_n C dL_heard_41 rfl ?_
          refine x_imul C dL_heard_42 ?_
          refine x_iload_n C dL_heard_43 rfl ?_
          refine x_iadd C dL_heard_44 ?_
          refine x_iald2 C he (ix10 b2 w) (by omega) (by decide) dL_heard_45 ?_
          refine x_ic_lt C 51 dL_heard_46 (by decide) (fun h46 => ?_) (fun h46 => ?_)
          · refine x_iinc C dL_heard_51 rfl (nI_m t) (by decide) rfl ?_
            refine x_goto C 5 dL_heard_54 (by decide) ?_
            exact ih (some b2) (isT_dkp (by have := Int32.lt_iff_toInt_lt.mp h46; show -(f (10 * b2 + w)).toInt < -(f (10 * t + w)).toInt; omega) ho)
          · refine x_iload_n C dL_heard_49 rfl ?_
            refine x_istore_n C dL_heard_50 (by decide) rfl ?_
            refine x_iinc C dL_heard_51 rfl (nI_m t) (by decide) rfl ?_
            refine x_goto C 5 dL_heard_54 (by decide) ?_
            exact ih (some t) (isT_dtk (Int32.not_le.mp h23) (by omega) (fun b3 z => by cases z; have := Int32.not_lt.mp h46; have := Int32.le_iff_toInt_le.mp this; show -(f (10 * t + w)).toInt ≤ -(f (10 * b2 + w)).toInt; omega) ho)
  refine x_bipush (v := (-6)) C dL_heard_0 (by decide) ?_
  refine x_istore_n C dL_heard_2 (by decide) rfl ?_
  refine x_iconst (v := 5) C dL_heard_3 (by decide) ?_
  refine x_istore_n C dL_heard_4 (by decide) rfl ?_
  exact hl 6 (Nat.le_refl _) none isT_0
set_option maxRecDepth 100000 in
set_option maxHeartbeats 1000000 in
theorem c_L_heard_z {l : Launch} {E : xEnv} {B N : Nat} {σ : Sg} {a0 w : Nat} (hw : 10 ≤ w) (hw2 : w < 2 ^ 31) : xM l yL_heard cL_heard 4 (some .int) 0 0 0 0 E B [.int (nI w), .ref a0] N σ N σ (some (.int (-6))) := by
  refine xM_of [some (.int _), some (.ref _), none, none] (by decide +kernel) (Nat.le_of_ble_eq_true rfl) rfl (fun k0 C Z => ?_)
  refine x_bipush (v := (-6)) C dL_heard_0 (by decide) ?_
  refine x_istore_n C dL_heard_2 (by decide) rfl ?_
  refine x_iconst (v := 5) C dL_heard_3 (by decide) ?_
  refine x_istore_n C dL_heard_4 (by decide) rfl ?_
  refine x_iload_n C dL_heard_5 rfl ?_
  refine x_if_lt C 57 dL_heard_6 (by decide) (fun h => absurd h (by decide)) (fun _ => ?_)
  refine x_iload_n C dL_heard_9 rfl ?_
  refine x_bipush (v := 10) C dL_heard_10 (by decide) ?_
  refine x_ic_ge C 57 dL_heard_12 (by decide) (fun _ => ?_) (fun h => absurd (nI_le (a := 10) hw hw2) h)
  refine x_iload_n C dL_heard_57 rfl ?_
  exact x_zret C Z dL_heard_58 rfl (Nat.le_of_ble_eq_true rfl) (Nat.le_of_ble_eq_true rfl) rfl rfl rfl
set_option maxRecDepth 100000 in
set_option maxHeartbeats 1000000 in
theorem c_L_add {l : Launch} {E : xEnv} {B N : Nat} {σ σ2 : Sg} {a0 m w : Nat} {f : Fn} (he : σ a0 = some (.inl (xI E, 60, .inl f))) (hm : m < 6) (hw : w < 10) (x : Int32) (hs2 : xup σ a0 (.inl (xI E, 60, .inl (chF f m w x))) = σ2) : xM l yL_add cL_add 5 none 0 0 0 0 E B [.int (nI m), .int (nI w), .int x, .ref a0] N σ N σ2 none := by
  refine xM_of [some (.int _), some (.int _), some (.int _), some (.ref _), none] (by decide +kernel) (Nat.le_of_ble_eq_true rfl) rfl (fun k0 C Z => ?_)
  refine x_aload_n C dL_add_0 rfl ?_
  refine x_bipush (v := 10) C dL_add_1 (by decide) ?_
  refine x_iload_n C dL_add_3 rfl ?_
  refine x_imul C dL_add_4 ?_
  refine x_iload_n C dL_add_5 rfl ?_
  refine x_iadd C dL_add_6 ?_
  refine x_iald2 C he (ix10 m w) (by omega) (by decide) dL_add_7 ?_
  refine x_iload_n C dL_add_8 rfl ?_
  refine x_iadd C dL_add_9 ?_
  refine x_istore C dL_add_10 (by decide) rfl ?_
  refine x_aload_n C dL_add_12 rfl ?_
  refine x_bipush (v := 10) C dL_add_13 (by decide) ?_
  refine x_iload_n C dL_add_15 rfl ?_
  refine x_imul C dL_add_16 ?_
  refine x_iload_n C dL_add_17 rfl ?_
  refine x_iadd C dL_add_18 ?_
  refine x_iload C dL_add_19 rfl ?_
  refine x_if_ge C 28 dL_add_21 (by decide) (fun h21 => ?_) (fun h21 => ?_)
  · refine x_iload C dL_add_28 rfl ?_
    refine x_bipush (v := 99) C dL_add_30 (by decide) ?_
    refine x_ic_le C 40 dL_add_32 (by decide) (fun h32 => ?_) (fun h32 => ?_)
    · refine x_iload C dL_add_40 rfl ?_
      refine x_iast2 C he (ix10 m w) (by omega) (by decide) (fun j _ => by rw [chF, ← cl_c (Int32.not_lt.mpr h21) h32]) hs2 dL_add_42 ?_
      exact x_vret C Z dL_add_43 (Nat.le_of_ble_eq_true rfl) (Nat.le_of_ble_eq_true rfl) rfl rfl
    · refine x_bipush (v := 99) C dL_add_35 (by decide) ?_
      refine x_goto C 42 dL_add_37 (by decide) ?_
      refine x_iast2 C he (ix10 m w) (by omega) (by decide) (fun j _ => by rw [chF, ← cl_b (Int32.not_lt.mpr h21) h32]) hs2 dL_add_42 ?_
      exact x_vret C Z dL_add_43 (Nat.le_of_ble_eq_true rfl) (Nat.le_of_ble_eq_true rfl) rfl rfl
  · refine x_iconst (v := 0) C dL_add_24 (by decide) ?_
    refine x_goto C 42 dL_add_25 (by decide) ?_
    refine x_iast2 C he (ix10 m w) (by omega) (by decide) (fun j _ => by rw [chF, ← cl_a (Int32.not_le.mp h21)]) hs2 dL_add_42 ?_
    exact x_vret C Z dL_add_43 (Nat.le_of_ble_eq_true rfl) (Nat.le_of_ble_eq_true rfl) rfl rfl
set_option maxRecDepth 100000 in
set_option maxHeartbeats 1000000 in
theorem c_L_learns {l : Launch} {E : xEnv} {B N : Nat} {σ : Sg} {a0 w : Nat} {Q : Fn} (he : σ a0 = some (.inl (xI E, 17, .inl Q))) (hw : w < 4) : xM l yL_learns cL_learns 3 (some .int) 0 0 0 0 E B [.int (nI w), .ref a0] N σ N σ (some (.int (lnS (Q (9 + w)) (Q 5)))) := by
  refine xM_of [some (.int _), some (.ref _), none] (by decide +kernel) (Nat.le_of_ble_eq_true rfl) rfl (fun k0 C Z => ?_)
  refine x_aload_n C dL_learns_0 rfl ?_
  refine x_iconst (v := 5) C dL_learns_1 (by decide) ?_
  refine x_iald2 C he (show (5 : Int32) = nI 5 from rfl) (by decide) (by decide) dL_learns_2 ?_
  refine x_aload_n C dL_learns_3 rfl ?_
  refine x_bipush (v := 9) C dL_learns_4 (by decide) ?_
  refine x_iload_n C dL_learns_6 rfl ?_
  refine x_iadd C dL_learns_7 ?_
  refine x_iald2 C he (ix9 w) (by omega) (by decide) dL_learns_8 ?_
  refine x_bipush (v := 20) C dL_learns_9 (by decide) ?_
  refine x_idiv C dL_learns_11 (by decide) ?_
  refine x_isub C dL_learns_12 ?_
  refine x_istore_n C dL_learns_13 (by decide) rfl ?_
  refine x_iload_n C dL_learns_14 rfl ?_
  refine x_iconst (v := 1) C dL_learns_15 (by decide) ?_
  refine x_ic_le C 23 dL_learns_16 (by decide) (fun h16 => ?_) (fun h16 => ?_)
  · refine x_iconst (v := 1) C dL_learns_23 (by decide) ?_
    exact x_zret C Z dL_learns_24 rfl (Nat.le_of_ble_eq_true rfl) (Nat.le_of_ble_eq_true rfl) rfl rfl (if_neg (Int32.not_lt.mpr h16)).symm
  · refine x_iload_n C dL_learns_19 rfl ?_
    refine x_goto C 24 dL_learns_20 (by decide) ?_
    exact x_zret C Z dL_learns_24 rfl (Nat.le_of_ble_eq_true rfl) (Nat.le_of_ble_eq_true rfl) rfl rfl (if_pos (Int32.not_le.mp h16)).symm
def cvS (xs : Nat → Int32) (L q : Nat) : Int32 := if q < L then xs q else 1000308051 * (nI q + 1) + 751363239
set_option maxRecDepth 100000 in
set_option maxHeartbeats 1000000 in
theorem c_L_cell_in {l : Launch} {E : xEnv} {B N bb L : Nat} {xs : Nat → Int32} {σ : Sg} {q : Nat} (hbb : bb < B) (hq : q < L) (hL : L < 2 ^ 31) : xMs l yL_cell cL_cell 2 (some .int) 0 0 0 0 E B bb L xs [.ref bb, .int (nI q)] N σ N σ (some (.int (cvS xs L q))) := by
  refine xMs_of hbb [some (.ref _), some (.int _)] (by decide +kernel) (Nat.le_of_ble_eq_true rfl) rfl (fun k0 C Z hX => ?_)
  refine x_iload_n C dL_cell_0 rfl ?_
  refine x_aload_n C dL_cell_1 rfl ?_
  refine x_slen C hX dL_cell_2 ?_
  refine x_ic_ge C 12 dL_cell_3 (by decide) (fun h => absurd h (nI_ge hq hL)) (fun _ => ?_)
  refine x_aload_n C dL_cell_6 rfl ?_
  refine x_iload_n C dL_cell_7 rfl ?_
  refine x_sld C hX rfl hq hL dL_cell_8 ?_
  refine x_goto C 21 dL_cell_9 (by decide) ?_
  exact x_zret C Z dL_cell_21 rfl (Nat.le_of_ble_eq_true rfl) (Nat.le_of_ble_eq_true rfl) rfl rfl (if_pos hq).symm
set_option maxRecDepth 100000 in
set_option maxHeartbeats 1000000 in
theorem c_L_cell_out {l : Launch} {E : xEnv} {B N bb L : Nat} {xs : Nat → Int32} {σ : Sg} {q : Nat} (hbb : bb < B) (hq : ¬ q < L) (hq2 : q < 2 ^ 31) : xMs l yL_cell cL_cell 2 (some .int) 0 0 0 0 E B bb L xs [.ref bb, .int (nI q)] N σ N σ (some (.int (cvS xs L q))) := by
  refine xMs_of hbb [some (.ref _), some (.int _)] (by decide +kernel) (Nat.le_of_ble_eq_true rfl) rfl (fun k0 C Z hX => ?_)
  refine x_iload_n C dL_cell_0 rfl ?_
  refine x_aload_n C dL_cell_1 rfl ?_
  refine x_slen C hX dL_cell_2 ?_
  refine x_ic_ge C 12 dL_cell_3 (by decide) (fun _ => ?_) (fun h => absurd (nI_le (by omega) hq2) h)
  refine x_ldc C kk_L_7 dL_cell_12 ?_
  refine x_iload_n C dL_cell_14 rfl ?_
  refine x_iconst (v := 1) C dL_cell_15 (by decide) ?_
  refine x_iadd C dL_cell_16 ?_
  refine x_imul C dL_cell_17 ?_
  refine x_ldc C kk_L_8 dL_cell_18 ?_
  refine x_iadd C dL_cell_20 ?_
  exact x_zret C Z dL_cell_21 rfl (Nat.le_of_ble_eq_true rfl) (Nat.le_of_ble_eq_true rfl) rfl rfl (if_neg hq).symm
theorem c_L_cell {l : Launch} {E : xEnv} {B N bb L : Nat} {xs : Nat → Int32} {σ : Sg} {q : Nat} (hbb : bb < B) (hL : L < 2 ^ 31) (hq2 : q < 2 ^ 31) : xMs l yL_cell cL_cell 2 (some .int) 0 0 0 0 E B bb L xs [.ref bb, .int (nI q)] N σ N σ (some (.int (cvS xs L q))) := by
  by_cases h : q < L
  · exact c_L_cell_in hbb h hL
  · exact c_L_cell_out hbb h hq2
