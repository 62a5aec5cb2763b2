set_option maxRecDepth 100000 in
set_option maxHeartbeats 1000000 in
theorem c_X4_agreementByMeanings {l : Launch} {E : xEnv} {B N : Nat} {σ : Sg} {b k1 k2 : Nat} {V : Vs} (hk1 : k1 < 8) (hk2 : k2 < 8) : xM l yX4_agreementByMeanings cX4_agreementByMeanings 5 (some .int) 3 67 0 0 E B [.ref (b + 2 + 2 * k1), .ref (b + 2 + 2 * k2)] N (vput E σ b V) N (vput E σ b V) (some (.int (nI (agN V k1 k2 6)))) := by
  refine xM_of [some (.ref _), some (.ref _), none, none, none] (by decide +kernel) (Nat.le_of_ble_eq_true rfl) rfl (fun k0 C Z => ?_)
  have hl : ∀ i, i ≤ 6 → xX k0 N 0 0 (vput E σ b V) 4 [some (.ref (b + 2 + 2 * k1)), some (.ref (b + 2 + 2 * k2)), some (.int (nI (agN V k1 k2 i))), some (.int (nI i)), none] [] := by
    refine x_for 6 ?_ ?_
    · refine x_iload_n C dX4_agreementByMeanings_4 rfl ?_
      refine x_bipush (v := 6) C dX4_agreementByMeanings_5 (by decide) ?_
      refine x_ic_ge C 43 dX4_agreementByMeanings_7 (by decide) (fun _ => ?_) (fun h => absurd (nI_le (a := 6) (Nat.le_refl _) (by omega)) h)
      refine x_iload_n C dX4_agreementByMeanings_43 rfl ?_
      exact x_zret C Z dX4_agreementByMeanings_44 rfl (Nat.le_of_ble_eq_true rfl) (Nat.le_of_ble_eq_true rfl) rfl rfl rfl
    · intro i hi ih
      refine x_iload_n C dX4_agreementByMeanings_4 rfl ?_
      refine x_bipush (v := 6) C dX4_agreementByMeanings_5 (by decide) ?_
      refine x_ic_ge C 43 dX4_agreementByMeanings_7 (by decide) (fun h => absurd h (nI_ge (b := 6) hi (by omega))) (fun _ => ?_)
      refine x_aload_n C dX4_agreementByMeanings_10 rfl ?_
      refine x_iload_n C dX4_agreementByMeanings_11 rfl ?_
      refine x_callV C (c_X2_wordFor hk1 hi) kv_X2_wordFor kl_X4_118 dX4_agreementByMeanings_12 (vput_s hk1) rfl rfl rfl rfl (Nat.le_of_ble_eq_true rfl) (Nat.le_of_ble_eq_true rfl) (Nat.le_of_ble_eq_true rfl) (Nat.le_of_ble_eq_true rfl) (Nat.le_of_ble_eq_true rfl) ?_
      refine x_istore C dX4_agreementByMeanings_15 (by decide) rfl ?_
      refine x_iload C dX4_agreementByMeanings_17 rfl ?_
      refine x_bipush (v := (-6)) C dX4_agreementByMeanings_19 (by decide) ?_
      refine x_ic_eq C 37 dX4_agreementByMeanings_21 (by decide) (fun h21 => ?_) (fun h21 => ?_)
      · refine x_iinc C dX4_agreementByMeanings_37 rfl (nI_inc _) (by decide) rfl ?_
        refine x_goto C 4 dX4_agreementByMeanings_40 (by decide) ?_
        refine xX.cl ih rfl (And.intro rfl (And.intro rfl (And.intro ?_ (And.intro rfl trivial)))) rfl
        rw [agN, if_neg (fun z => z.1 (wfS_6.mp h21))]; rfl
      · refine x_iload C dX4_agreementByMeanings_24 rfl ?_
        refine x_aload_n C dX4_agreementByMeanings_26 rfl ?_
        refine x_iload_n C dX4_agreementByMeanings_27 rfl ?_
        refine x_callV C (c_X2_wordFor hk2 hi) kv_X2_wordFor kl_X4_118 dX4_agreementByMeanings_28 (vput_s hk2) rfl rfl rfl rfl (Nat.le_of_ble_eq_true rfl) (Nat.le_of_ble_eq_true rfl) (Nat.le_of_ble_eq_true rfl) (Nat.le_of_ble_eq_true rfl) (Nat.le_of_ble_eq_true rfl) ?_
        refine x_ic_ne C 37 dX4_agreementByMeanings_31 (by decide) (fun h31 => ?_) (fun h31 => ?_)
        · refine x_iinc C dX4_agreementByMeanings_37 rfl (nI_inc _) (by decide) rfl ?_
          refine x_goto C 4 dX4_agreementByMeanings_40 (by decide) ?_
          refine xX.cl ih rfl (And.intro rfl (And.intro rfl (And.intro ?_ (And.intro rfl trivial)))) rfl
          rw [agN, if_neg (fun z => h31 (wfS_ij.mpr z.2))]; rfl
        · refine x_iinc C dX4_agreementByMeanings_34 rfl (nI_inc _) (by decide) rfl ?_
          refine x_iinc C dX4_agreementByMeanings_37 rfl (nI_inc _) (by decide) rfl ?_
          refine x_goto C 4 dX4_agreementByMeanings_40 (by decide) ?_
          refine xX.cl ih rfl (And.intro rfl (And.intro rfl (And.intro ?_ (And.intro rfl trivial)))) rfl
          rw [agN, if_pos ⟨fun z => h21 (wfS_6.mpr z), wfS_ij.mp h31⟩]; rfl
  refine x_iconst (v := 0) C dX4_agreementByMeanings_0 (by decide) ?_
  refine x_istore_n C dX4_agreementByMeanings_1 (by decide) rfl ?_
  refine x_iconst (v := 0) C dX4_agreementByMeanings_2 (by decide) ?_
  refine x_istore_n C dX4_agreementByMeanings_3 (by decide) rfl ?_
  refine xX.cl (hl 0 (by omega)) rfl (And.intro rfl (And.intro rfl (And.intro rfl (And.intro rfl trivial)))) rfl
set_option maxRecDepth 100000 in
set_option maxHeartbeats 1000000 in
theorem c_X4_agreementByWords {l : Launch} {E : xEnv} {B N : Nat} {σ : Sg} {b k1 k2 : Nat} {V : Vs} (hk1 : k1 < 8) (hk2 : k2 < 8) : xM l yX4_agreementByWords cX4_agreementByWords 5 (some .int) 3 67 0 0 E B [.ref (b + 2 + 2 * k1), .ref (b + 2 + 2 * k2)] N (vput E σ b V) N (vput E σ b V) (some (.int (nI (awN V k1 k2 14)))) := by
  refine xM_of [some (.ref _), some (.ref _), none, none, none] (by decide +kernel) (Nat.le_of_ble_eq_true rfl) rfl (fun k0 C Z => ?_)
  have hl : ∀ w, w ≤ 14 → xX k0 N 0 0 (vput E σ b V) 4 [some (.ref (b + 2 + 2 * k1)), some (.ref (b + 2 + 2 * k2)), some (.int (nI (awN V k1 k2 w))), some (.int (nI w)), none] [] := by
    refine x_for 14 ?_ ?_
    · refine x_iload_n C dX4_agreementByWords_4 rfl ?_
      refine x_bipush (v := 14) C dX4_agreementByWords_5 (by decide) ?_
      refine x_ic_ge C 55 dX4_agreementByWords_7 (by decide) (fun _ => ?_) (fun h => absurd (nI_le (a := 14) (Nat.le_refl _) (by omega)) h)
      refine x_iload_n C dX4_agreementByWords_55 rfl ?_
      exact x_zret C Z dX4_agreementByWords_56 rfl (Nat.le_of_ble_eq_true rfl) (Nat.le_of_ble_eq_true rfl) rfl rfl rfl
    · intro w hi ih
      have hl2 : ∀ i, i ≤ 6 → xX k0 N 0 0 (vput E σ b V) 13 [some (.ref (b + 2 + 2 * k1)), some (.ref (b + 2 + 2 * k2)), some (.int (nI (awN V k1 k2 w + awI V k1 k2 w i))), some (.int (nI w)), some (.int (nI i))] [] := by
        refine x_for 6 ?_ ?_
        · refine x_iload C dX4_agreementByWords_13 rfl ?_
          refine x_bipush (v := 6) C dX4_agreementByWords_15 (by decide) ?_
          refine x_ic_ge C 49 dX4_agreementByWords_17 (by decide) (fun _ => ?_) (fun h => absurd (nI_le (a := 6) (Nat.le_refl _) (by omega)) h)
          refine x_iinc C dX4_agreementByWords_49 rfl (nI_inc _) (by decide) rfl ?_
          refine x_goto C 4 dX4_agreementByWords_52 (by decide) ?_
          refine xX.cl ih rfl (And.intro rfl (And.intro rfl (And.intro rfl (And.intro rfl trivial)))) rfl
        · intro i hi2 ih2
          refine x_iload C dX4_agreementByWords_13 rfl ?_
          refine x_bipush (v := 6) C dX4_agreementByWords_15 (by decide) ?_
          refine x_ic_ge C 49 dX4_agreementByWords_17 (by decide) (fun h => absurd h (nI_ge (b := 6) hi2 (by omega))) (fun _ => ?_)
          refine x_aload_n C dX4_agreementByWords_20 rfl ?_
          refine x_iload C dX4_agreementByWords_21 rfl ?_
          refine x_callV C (c_X2_wordFor hk1 hi2) kv_X2_wordFor kl_X4_118 dX4_agreementByWords_23 (vput_s hk1) rfl rfl rfl rfl (Nat.le_of_ble_eq_true rfl) (Nat.le_of_ble_eq_true rfl) (Nat.le_of_ble_eq_true rfl) (Nat.le_of_ble_eq_true rfl) (Nat.le_of_ble_eq_true rfl) ?_
          refine x_iload_n C dX4_agreementByWords_26 rfl ?_
          refine x_ic_ne C 43 dX4_agreementByWords_27 (by decide) (fun h27 => ?_) (fun h27 => ?_)
          · refine x_iinc C dX4_agreementByWords_43 rfl (nI_inc _) (by decide) rfl ?_
            refine x_goto C 13 dX4_agreementByWords_46 (by decide) ?_
            refine xX.cl ih2 rfl (And.intro rfl (And.intro rfl (And.intro ?_ (And.intro rfl (And.intro rfl trivial))))) rfl
            rw [awI, if_neg (fun z => h27 ((wfS_is (by omega)).mpr z.1))]; rfl
          · refine x_aload_n C dX4_agreementByWords_30 rfl ?_
            refine x_iload C dX4_agreementByWords_31 rfl ?_
            refine x_callV C (c_X2_wordFor hk2 hi2) kv_X2_wordFor kl_X4_118 dX4_agreementByWords_33 (vput_s hk2) rfl rfl rfl rfl (Nat.le_of_ble_eq_true rfl) (Nat.le_of_ble_eq_true rfl) (Nat.le_of_ble_eq_true rfl) (Nat.le_of_ble_eq_true rfl) (Nat.le_of_ble_eq_true rfl) ?_
            refine x_iload_n C dX4_agreementByWords_36 rfl ?_
            refine x_ic_ne C 43 dX4_agreementByWords_37 (by decide) (fun h37 => ?_) (fun h37 => ?_)
            · refine x_iinc C dX4_agreementByWords_43 rfl (nI_inc _) (by decide) rfl ?_
              refine x_goto C 13 dX4_agreementByWords_46 (by decide) ?_
              refine xX.cl ih2 rfl (And.intro rfl (And.intro rfl (And.intro ?_ (And.intro rfl (And.intro rfl trivial))))) rfl
              rw [awI, if_neg (fun z => h37 ((wfS_is (by omega)).mpr z.2))]; rfl
            · refine x_iinc C dX4_agreementByWords_40 rfl (nI_inc _) (by decide) rfl ?_
              refine x_iinc C dX4_agreementByWords_43 rfl (nI_inc _) (by decide) rfl ?_
              refine x_goto C 13 dX4_agreementByWords_46 (by decide) ?_
              refine xX.cl ih2 rfl (And.intro rfl (And.intro rfl (And.intro ?_ (And.intro rfl (And.intro rfl trivial))))) rfl
              rw [awI, if_pos ⟨(wfS_is (by omega)).mp h27, (wfS_is (by omega)).mp h37⟩]; rfl
      refine x_iload_n C dX4_agreementByWords_4 rfl ?_
      refine x_bipush (v := 14) C dX4_agreementByWords_5 (by decide) ?_
      refine x_ic_ge C 55 dX4_agreementByWords_7 (by decide) (fun h => absurd h (nI_ge (b := 14) hi (by omega))) (fun _ => ?_)
      refine x_iconst (v := 0) C dX4_agreementByWords_10 (by decide) ?_
      refine x_istore C dX4_agreementByWords_11 (by decide) rfl ?_
      refine xX.cl (hl2 0 (by omega)) rfl (And.intro rfl (And.intro rfl (And.intro rfl (And.intro rfl (And.intro rfl trivial))))) rfl
  refine x_iconst (v := 0) C dX4_agreementByWords_0 (by decide) ?_
  refine x_istore_n C dX4_agreementByWords_1 (by decide) rfl ?_
  refine x_iconst (v := 0) C dX4_agreementByWords_2 (by decide) ?_
  refine x_istore_n C dX4_agreementByWords_3 (by decide) rfl ?_
  refine xX.cl (hl 0 (by omega)) rfl (And.intro rfl (And.intro rfl (And.intro rfl (And.intro rfl trivial)))) rfl
set_option maxRecDepth 100000 in
set_option maxHeartbeats 1000000 in
theorem c_X4_understandingOf {l : Launch} {E : xEnv} {B N : Nat} {σ : Sg} {b k1 k2 : Nat} {V : Vs} (hk1 : k1 < 8) (hk2 : k2 < 8) : xM l yX4_understandingOf cX4_understandingOf 5 (some .int) 3 67 0 0 E B [.ref (b + 2 + 2 * k1), .ref (b + 2 + 2 * k2)] N (vput E σ b V) N (vput E σ b V) (some (.int (nI (unN V k1 k2 6)))) := by
  refine xM_of [some (.ref _), some (.ref _), none, none, none] (by decide +kernel) (Nat.le_of_ble_eq_true rfl) rfl (fun k0 C Z => ?_)
  have hl : ∀ i, i ≤ 6 → xX k0 N 0 0 (vput E σ b V) 4 [some (.ref (b + 2 + 2 * k1)), some (.ref (b + 2 + 2 * k2)), some (.int (nI (unN V k1 k2 i))), some (.int (nI i)), none] [] := by
    refine x_for 6 ?_ ?_
    · refine x_iload_n C dX4_understandingOf_4 rfl ?_
      refine x_bipush (v := 6) C dX4_understandingOf_5 (by decide) ?_
      refine x_ic_ge C 43 dX4_understandingOf_7 (by decide) (fun _ => ?_) (fun h => absurd (nI_le (a := 6) (Nat.le_refl _) (by omega)) h)
      refine x_iload_n C dX4_understandingOf_43 rfl ?_
      exact x_zret C Z dX4_understandingOf_44 rfl (Nat.le_of_ble_eq_true rfl) (Nat.le_of_ble_eq_true rfl) rfl rfl rfl
    · intro i hi ih
      refine x_iload_n C dX4_understandingOf_4 rfl ?_
      refine x_bipush (v := 6) C dX4_understandingOf_5 (by decide) ?_
      refine x_ic_ge C 43 dX4_understandingOf_7 (by decide) (fun h => absurd h (nI_ge (b := 6) hi (by omega))) (fun _ => ?_)
      refine x_aload_n C dX4_understandingOf_10 rfl ?_
      refine x_iload_n C dX4_understandingOf_11 rfl ?_
      refine x_callV C (c_X2_wordFor hk1 hi) kv_X2_wordFor kl_X4_118 dX4_understandingOf_12 (vput_s hk1) rfl rfl rfl rfl (Nat.le_of_ble_eq_true rfl) (Nat.le_of_ble_eq_true rfl) (Nat.le_of_ble_eq_true rfl) (Nat.le_of_ble_eq_true rfl) (Nat.le_of_ble_eq_true rfl) ?_
      cases hq : wfS (V k1) i with
      | none =>
        refine x_istore C dX4_understandingOf_15 (by decide) rfl ?_
        refine x_iload C dX4_understandingOf_17 rfl ?_
        refine x_bipush (v := (-6)) C dX4_understandingOf_19 (by decide) ?_
        refine x_ic_eq C 37 dX4_understandingOf_21 (by decide) (fun _ => ?_) (fun h => absurd rfl h)
        refine x_iinc C dX4_understandingOf_37 rfl (nI_inc _) (by decide) rfl ?_
        refine x_goto C 4 dX4_understandingOf_40 (by decide) ?_
        refine xX.cl ih rfl (And.intro rfl (And.intro rfl (And.intro ?_ (And.intro rfl trivial)))) rfl
        rw [unN, unT_n hq]; rfl
      | some w =>
        refine x_istore C dX4_understandingOf_15 (by decide) rfl ?_
        refine x_iload C dX4_understandingOf_17 rfl ?_
        refine x_bipush (v := (-6)) C dX4_understandingOf_19 (by decide) ?_
        refine x_ic_eq C 37 dX4_understandingOf_21 (by decide) (fun h => absurd h (nI_ne6 (by have := wfS_in hq; omega))) (fun _ => ?_)
        refine x_aload_n C dX4_understandingOf_24 rfl ?_
        refine x_iload C dX4_understandingOf_25 rfl ?_
        refine x_callV C (c_X2_meaningOf hk2 (wfS_in hq)) kv_X2_meaningOf kl_X4_121 dX4_understandingOf_27 (vput_s hk2) rfl rfl rfl rfl (Nat.le_of_ble_eq_true rfl) (Nat.le_of_ble_eq_true rfl) (Nat.le_of_ble_eq_true rfl) (Nat.le_of_ble_eq_true rfl) (Nat.le_of_ble_eq_true rfl) ?_
        refine x_iload_n C dX4_understandingOf_30 rfl ?_
        refine x_ic_ne C 37 dX4_understandingOf_31 (by decide) (fun h31 => ?_) (fun h31 => ?_)
        · refine x_iinc C dX4_understandingOf_37 rfl (nI_inc _) (by decide) rfl ?_
          refine x_goto C 4 dX4_understandingOf_40 (by decide) ?_
          refine xX.cl ih rfl (And.intro rfl (And.intro rfl (And.intro ?_ (And.intro rfl trivial)))) rfl
          rw [unN, unT_f hq (fun z => h31 ((haS_is (by omega)).mpr z))]; rfl
        · refine x_iinc C dX4_understandingOf_34 rfl (nI_inc _) (by decide) rfl ?_
          refine x_iinc C dX4_understandingOf_37 rfl (nI_inc _) (by decide) rfl ?_
          refine x_goto C 4 dX4_understandingOf_40 (by decide) ?_
          refine xX.cl ih rfl (And.intro rfl (And.intro rfl (And.intro ?_ (And.intro rfl trivial)))) rfl
          rw [unN, unT_t hq ((haS_is (by omega)).mp h31)]; rfl
  refine x_iconst (v := 0) C dX4_understandingOf_0 (by decide) ?_
  refine x_istore_n C dX4_understandingOf_1 (by decide) rfl ?_
  refine x_iconst (v := 0) C dX4_understandingOf_2 (by decide) ?_
  refine x_istore_n C dX4_understandingOf_3 (by decide) rfl ?_
  refine xX.cl (hl 0 (by omega)) rfl (And.intro rfl (And.intro rfl (And.intro rfl (And.intro rfl trivial)))) rfl
set_option maxRecDepth 100000 in
set_option maxHeartbeats 1000000 in
theorem c_X4_leastOf {l : Launch} {E : xEnv} {B N : Nat} {σ : Sg} {j : Nat} (hj : j < 4) : xM l yX4_leastOf cX4_leastOf 1 (some .int) 0 0 0 0 E B [.int (nI j)] N σ N σ (some (.int (leS j))) := by
  rcases (show j = 0 ∨ j = 1 ∨ j = 2 ∨ j = 3 by omega) with rfl | rfl | rfl | rfl
  · refine xM_of [some (.int _)] (by decide +kernel) (Nat.le_of_ble_eq_true rfl) rfl (fun k0 C Z => ?_)
    refine x_iload_n C dX4_leastOf_0 rfl ?_
    refine x_lkp (off := 27) C 28 dX4_leastOf_1 (by decide) (by decide) (by decide) ?_
    refine x_iconst (v := 1) C dX4_leastOf_28 (by decide) ?_
    exact x_zret C Z dX4_leastOf_29 rfl (Nat.le_of_ble_eq_true rfl) (Nat.le_of_ble_eq_true rfl) rfl rfl rfl
  · refine xM_of [some (.int _)] (by decide +kernel) (Nat.le_of_ble_eq_true rfl) rfl (fun k0 C Z => ?_)
    refine x_iload_n C dX4_leastOf_0 rfl ?_
    refine x_lkp (off := 31) C 32 dX4_leastOf_1 (by decide) (by decide) (by decide) ?_
    refine x_iconst (v := 0) C dX4_leastOf_32 (by decide) ?_
    exact x_zret C Z dX4_leastOf_33 rfl (Nat.le_of_ble_eq_true rfl) (Nat.le_of_ble_eq_true rfl) rfl rfl rfl
  · refine xM_of [some (.int _)] (by decide +kernel) (Nat.le_of_ble_eq_true rfl) rfl (fun k0 C Z => ?_)
    refine x_iload_n C dX4_leastOf_0 rfl ?_
    refine x_lkp (off := 29) C 30 dX4_leastOf_1 (by decide) (by decide) (by decide) ?_
    refine x_iconst (v := 5) C dX4_leastOf_30 (by decide) ?_
    exact x_zret C Z dX4_leastOf_31 rfl (Nat.le_of_ble_eq_true rfl) (Nat.le_of_ble_eq_true rfl) rfl rfl rfl
  · refine xM_of [some (.int _)] (by decide +kernel) (Nat.le_of_ble_eq_true rfl) rfl (fun k0 C Z => ?_)
    refine x_iload_n C dX4_leastOf_0 rfl ?_
    refine x_lkp (off := 31) C 32 dX4_leastOf_1 (by decide) (by decide) (by decide) ?_
    refine x_iconst (v := 0) C dX4_leastOf_32 (by decide) ?_
    exact x_zret C Z dX4_leastOf_33 rfl (Nat.le_of_ble_eq_true rfl) (Nat.le_of_ble_eq_true rfl) rfl rfl rfl
set_option maxRecDepth 100000 in
set_option maxHeartbeats 1000000 in
theorem c_X4_mostOf {l : Launch} {E : xEnv} {B N : Nat} {σ : Sg} {j : Nat} (hj : j < 4) : xM l yX4_mostOf cX4_mostOf 1 (some .int) 0 0 0 0 E B [.int (nI j)] N σ N σ (some (.int (moS j))) := by
  rcases (show j = 0 ∨ j = 1 ∨ j = 2 ∨ j = 3 by omega) with rfl | rfl | rfl | rfl
  · refine xM_of [some (.int _)] (by decide +kernel) (Nat.le_of_ble_eq_true rfl) rfl (fun k0 C Z => ?_)
    refine x_iload_n C dX4_mostOf_0 rfl ?_
    refine x_lkp (off := 33) C 34 dX4_mostOf_1 (by decide) (by decide) (by decide) ?_
    refine x_bipush (v := 9) C dX4_mostOf_34 (by decide) ?_
    exact x_zret C Z dX4_mostOf_36 rfl (Nat.le_of_ble_eq_true rfl) (Nat.le_of_ble_eq_true rfl) rfl rfl rfl
  · refine xM_of [some (.int _)] (by decide +kernel) (Nat.le_of_ble_eq_true rfl) rfl (fun k0 C Z => ?_)
    refine x_iload_n C dX4_mostOf_0 rfl ?_
    refine x_lkp (off := 33) C 34 dX4_mostOf_1 (by decide) (by decide) (by decide) ?_
    refine x_bipush (v := 9) C dX4_mostOf_34 (by decide) ?_
    exact x_zret C Z dX4_mostOf_36 rfl (Nat.le_of_ble_eq_true rfl) (Nat.le_of_ble_eq_true rfl) rfl rfl rfl
  · refine xM_of [some (.int _)] (by decide +kernel) (Nat.le_of_ble_eq_true rfl) rfl (fun k0 C Z => ?_)
    refine x_iload_n C dX4_mostOf_0 rfl ?_
    refine x_lkp (off := 27) C 28 dX4_mostOf_1 (by decide) (by decide) (by decide) ?_
    refine x_bipush (v := 99) C dX4_mostOf_28 (by decide) ?_
    exact x_zret C Z dX4_mostOf_30 rfl (Nat.le_of_ble_eq_true rfl) (Nat.le_of_ble_eq_true rfl) rfl rfl rfl
  · refine xM_of [some (.int _)] (by decide +kernel) (Nat.le_of_ble_eq_true rfl) rfl (fun k0 C Z => ?_)
    refine x_iload_n C dX4_mostOf_0 rfl ?_
    refine x_lkp (off := 30) C 31 dX4_mostOf_1 (by decide) (by decide) (by decide) ?_
    refine x_bipush (v := 100) C dX4_mostOf_31 (by decide) ?_
    exact x_zret C Z dX4_mostOf_33 rfl (Nat.le_of_ble_eq_true rfl) (Nat.le_of_ble_eq_true rfl) rfl rfl rfl
