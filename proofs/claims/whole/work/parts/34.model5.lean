set_option maxRecDepth 100000 in
set_option maxHeartbeats 1000000 in
theorem c_X5_teacherOf {l : Launch} {E : xEnv} {B N : Nat} {σ : Sg} {M : Nat} {U : Vs} {kp ho tx sc : Fn} {c : Nat} (hc : c < 8) : xM l yX5_teacherOf cX5_teacherOf 5 (some .int) 2 43 0 0 E B [.ref M, .int (nI c)] N (mput E σ M U kp ho tx sc) N (mput E σ M U kp ho tx sc) (some (.int (oI (teS U c 8)))) := by
  refine xM_of [some (.ref _), some (.int _), none, none, none] (by decide +kernel) (Nat.le_of_ble_eq_true rfl) rfl (fun k0 C Z => ?_)
  have hl : ∀ i, i ≤ 8 → xX k0 N 0 0 (mput E σ M U kp ho tx sc) 5 [some (.ref M), some (.int (nI c)), some (.int (oI (teS U c i))), some (.int (nI i)), none] [] := by
    refine x_for 8 ?_ ?_
    · refine x_iload_n C dX5_teacherOf_5 rfl ?_
      refine x_bipush (v := 8) C dX5_teacherOf_6 (by decide) ?_
      refine x_ic_ge C 85 dX5_teacherOf_8 (by decide) (fun _ => ?_) (fun h => absurd (nI_le (a := 8) (Nat.le_refl _) (by omega)) h)
      refine x_iload_n C dX5_teacherOf_85 rfl ?_
      exact x_zret C Z dX5_teacherOf_86 rfl (Nat.le_of_ble_eq_true rfl) (Nat.le_of_ble_eq_true rfl) rfl rfl rfl
    · intro i hi ih
      cases hy : teS U c i with
      | none =>
        show xX k0 N 0 0 (mput E σ M U kp ho tx sc) 5 [some (.ref M), some (.int (nI c)), some (.int (-6)), some (.int (nI i)), none] []
        refine x_iload_n C dX5_teacherOf_5 rfl ?_
        refine x_bipush (v := 8) C dX5_teacherOf_6 (by decide) ?_
        refine x_ic_ge C 85 dX5_teacherOf_8 (by decide) (fun h => absurd h (nI_ge (b := 8) hi (by omega))) (fun _ => ?_)
        refine x_aload_n C dX5_teacherOf_11 rfl ?_
        refine x_iload_n C dX5_teacherOf_12 rfl ?_
        refine x_callV C (c_X5_isSpeaker_k hi) kv_X5_isSpeaker kl_X5_45 dX5_teacherOf_13 mput_0 rfl rfl rfl rfl (Nat.le_of_ble_eq_true rfl) (Nat.le_of_ble_eq_true rfl) (Nat.le_of_ble_eq_true rfl) (Nat.le_of_ble_eq_true rfl) (Nat.le_of_ble_eq_true rfl) ?_
        refine x_beq C 44 dX5_teacherOf_16 (by decide) (fun h16 => ?_) (fun h16 => ?_)
        · refine x_iconst (v := 0) C dX5_teacherOf_44 (by decide) ?_
          refine x_istore C dX5_teacherOf_45 (by decide) rfl ?_
          refine x_iload C dX5_teacherOf_47 rfl ?_
          refine x_if_eq C 77 dX5_teacherOf_49 (by decide) (fun _ => ?_) (fun h => absurd rfl h)
          refine x_iload_n C dX5_teacherOf_77 rfl ?_
          refine x_istore_n C dX5_teacherOf_78 (by decide) rfl ?_
          refine x_iinc C dX5_teacherOf_79 rfl (nI_inc _) (by decide) rfl ?_
          refine x_goto C 5 dX5_teacherOf_82 (by decide) ?_
          refine xX.cl ih rfl (And.intro rfl (And.intro rfl (And.intro ?_ (And.intro rfl trivial)))) rfl
          rw [teS_sk (Or.inr (Or.inl h16)), hy]; rfl
        · refine x_iload_n C dX5_teacherOf_19 rfl ?_
          refine x_iload_n C dX5_teacherOf_20 rfl ?_
          refine x_ic_eq C 44 dX5_teacherOf_21 (by decide) (fun h21 => ?_) (fun h21 => ?_)
          · refine x_iconst (v := 0) C dX5_teacherOf_44 (by decide) ?_
            refine x_istore C dX5_teacherOf_45 (by decide) rfl ?_
            refine x_iload C dX5_teacherOf_47 rfl ?_
            refine x_if_eq C 77 dX5_teacherOf_49 (by decide) (fun _ => ?_) (fun h => absurd rfl h)
            refine x_iload_n C dX5_teacherOf_77 rfl ?_
            refine x_istore_n C dX5_teacherOf_78 (by decide) rfl ?_
            refine x_iinc C dX5_teacherOf_79 rfl (nI_inc _) (by decide) rfl ?_
            refine x_goto C 5 dX5_teacherOf_82 (by decide) ?_
            refine xX.cl ih rfl (And.intro rfl (And.intro rfl (And.intro ?_ (And.intro rfl trivial)))) rfl
            rw [teS_sk (Or.inl ((nI_eq (by omega) (by omega)).mp h21)), hy]; rfl
          · refine x_aload_n C dX5_teacherOf_24 rfl ?_
            refine x_iload_n C dX5_teacherOf_25 rfl ?_
            refine x_iconst (v := 1) C dX5_teacherOf_26 (by decide) ?_
            refine x_callV C (c_X5_part1 hi) kv_X5_part kl_X5_34 dX5_teacherOf_27 mput_0 rfl rfl rfl rfl (Nat.le_of_ble_eq_true rfl) (Nat.le_of_ble_eq_true rfl) (Nat.le_of_ble_eq_true rfl) (Nat.le_of_ble_eq_true rfl) (Nat.le_of_ble_eq_true rfl) ?_
            refine x_aload_n C dX5_teacherOf_30 rfl ?_
            refine x_get C kf_X5_7 mput_0 rfl dX5_teacherOf_31 ?_
            refine x_bipush (v := 7) C dX5_teacherOf_34 (by decide) ?_
            refine x_iald2 C mput_1 rfl (by decide) (by decide) dX5_teacherOf_36 ?_
            rw [fl_life]
            refine x_ic_gt C 44 dX5_teacherOf_37 (by decide) (fun h37 => ?_) (fun h37 => ?_)
            · refine x_iconst (v := 0) C dX5_teacherOf_44 (by decide) ?_
              refine x_istore C dX5_teacherOf_45 (by decide) rfl ?_
              refine x_iload C dX5_teacherOf_47 rfl ?_
              refine x_if_eq C 77 dX5_teacherOf_49 (by decide) (fun _ => ?_) (fun h => absurd rfl h)
              refine x_iload_n C dX5_teacherOf_77 rfl ?_
              refine x_istore_n C dX5_teacherOf_78 (by decide) rfl ?_
              refine x_iinc C dX5_teacherOf_79 rfl (nI_inc _) (by decide) rfl ?_
              refine x_goto C 5 dX5_teacherOf_82 (by decide) ?_
              refine xX.cl ih rfl (And.intro rfl (And.intro rfl (And.intro ?_ (And.intro rfl trivial)))) rfl
              rw [teS_sk (Or.inr (Or.inr (Int32.not_le.mpr h37))), hy]; rfl
            · refine x_iconst (v := 1) C dX5_teacherOf_40 (by decide) ?_
              refine x_goto C 45 dX5_teacherOf_41 (by decide) ?_
              refine x_istore C dX5_teacherOf_45 (by decide) rfl ?_
              refine x_iload C dX5_teacherOf_47 rfl ?_
              refine x_if_eq C 77 dX5_teacherOf_49 (by decide) (fun h => absurd h (by decide)) (fun _ => ?_)
              refine x_iload_n C dX5_teacherOf_52 rfl ?_
              refine x_bipush (v := (-6)) C dX5_teacherOf_53 (by decide) ?_
              refine x_ic_eq C 73 dX5_teacherOf_55 (by decide) (fun _ => ?_) (fun h => absurd rfl h)
              refine x_iload_n C dX5_teacherOf_73 rfl ?_
              refine x_goto C 78 dX5_teacherOf_74 (by decide) ?_
              refine x_istore_n C dX5_teacherOf_78 (by decide) rfl ?_
              refine x_iinc C dX5_teacherOf_79 rfl (nI_inc _) (by decide) rfl ?_
              refine x_goto C 5 dX5_teacherOf_82 (by decide) ?_
              refine xX.cl ih rfl (And.intro rfl (And.intro rfl (And.intro ?_ (And.intro rfl trivial)))) rfl
              rw [teS_n (fun z => h21 (congrArg nI z)) h16 (Int32.not_lt.mp h37) hy]; rfl
      | some y =>
        show xX k0 N 0 0 (mput E σ M U kp ho tx sc) 5 [some (.ref M), some (.int (nI c)), some (.int (nI y)), some (.int (nI i)), none] []
        have hy8 : y < 8 := by have := (teS_in hy).1; omega
        refine x_iload_n C dX5_teacherOf_5 rfl ?_
        refine x_bipush (v := 8) C dX5_teacherOf_6 (by decide) ?_
        refine x_ic_ge C 85 dX5_teacherOf_8 (by decide) (fun h => absurd h (nI_ge (b := 8) hi (by omega))) (fun _ => ?_)
        refine x_aload_n C dX5_teacherOf_11 rfl ?_
        refine x_iload_n C dX5_teacherOf_12 rfl ?_
        refine x_callV C (c_X5_isSpeaker_k hi) kv_X5_isSpeaker kl_X5_45 dX5_teacherOf_13 mput_0 rfl rfl rfl rfl (Nat.le_of_ble_eq_true rfl) (Nat.le_of_ble_eq_true rfl) (Nat.le_of_ble_eq_true rfl) (Nat.le_of_ble_eq_true rfl) (Nat.le_of_ble_eq_true rfl) ?_
        refine x_beq C 44 dX5_teacherOf_16 (by decide) (fun h16 => ?_) (fun h16 => ?_)
        · refine x_iconst (v := 0) C dX5_teacherOf_44 (by decide) ?_
          refine x_istore C dX5_teacherOf_45 (by decide) rfl ?_
          refine x_iload C dX5_teacherOf_47 rfl ?_
          refine x_if_eq C 77 dX5_teacherOf_49 (by decide) (fun _ => ?_) (fun h => absurd rfl h)
          refine x_iload_n C dX5_teacherOf_77 rfl ?_
          refine x_istore_n C dX5_teacherOf_78 (by decide) rfl ?_
          refine x_iinc C dX5_teacherOf_79 rfl (nI_inc _) (by decide) rfl ?_
          refine x_goto C 5 dX5_teacherOf_82 (by decide) ?_
          refine xX.cl ih rfl (And.intro rfl (And.intro rfl (And.intro ?_ (And.intro rfl trivial)))) rfl
          rw [teS_sk (Or.inr (Or.inl h16)), hy]; rfl
        · refine x_iload_n C dX5_teacherOf_19 rfl ?_
          refine x_iload_n C dX5_teacherOf_20 rfl ?_
          refine x_ic_eq C 44 dX5_teacherOf_21 (by decide) (fun h21 => ?_) (fun h21 => ?_)
          · refine x_iconst (v := 0) C dX5_teacherOf_44 (by decide) ?_
            refine x_istore C dX5_teacherOf_45 (by decide) rfl ?_
            refine x_iload C dX5_teacherOf_47 rfl ?_
            refine x_if_eq C 77 dX5_teacherOf_49 (by decide) (fun _ => ?_) (fun h => absurd rfl h)
            refine x_iload_n C dX5_teacherOf_77 rfl ?_
            refine x_istore_n C dX5_teacherOf_78 (by decide) rfl ?_
            refine x_iinc C dX5_teacherOf_79 rfl (nI_inc _) (by decide) rfl ?_
            refine x_goto C 5 dX5_teacherOf_82 (by decide) ?_
            refine xX.cl ih rfl (And.intro rfl (And.intro rfl (And.intro ?_ (And.intro rfl trivial)))) rfl
            rw [teS_sk (Or.inl ((nI_eq (by omega) (by omega)).mp h21)), hy]; rfl
          · refine x_aload_n C dX5_teacherOf_24 rfl ?_
            refine x_iload_n C dX5_teacherOf_25 rfl ?_
            refine x_iconst (v := 1) C dX5_teacherOf_26 (by decide) ?_
            refine x_callV C (c_X5_part1 hi) kv_X5_part kl_X5_34 dX5_teacherOf_27 mput_0 rfl rfl rfl rfl (Nat.le_of_ble_eq_true rfl) (Nat.le_of_ble_eq_true rfl) (Nat.le_of_ble_eq_true rfl) (Nat.le_of_ble_eq_true rfl) (Nat.le_of_ble_eq_true rfl) ?_
            refine x_aload_n C dX5_teacherOf_30 rfl ?_
            refine x_get C kf_X5_7 mput_0 rfl dX5_teacherOf_31 ?_
            refine x_bipush (v := 7) C dX5_teacherOf_34 (by decide) ?_
            refine x_iald2 C mput_1 rfl (by decide) (by decide) dX5_teacherOf_36 ?_
            rw [fl_life]
            refine x_ic_gt C 44 dX5_teacherOf_37 (by decide) (fun h37 => ?_) (fun h37 => ?_)
            · refine x_iconst (v := 0) C dX5_teacherOf_44 (by decide) ?_
              refine x_istore C dX5_teacherOf_45 (by decide) rfl ?_
              refine x_iload C dX5_teacherOf_47 rfl ?_
              refine x_if_eq C 77 dX5_teacherOf_49 (by decide) (fun _ => ?_) (fun h => absurd rfl h)
              refine x_iload_n C dX5_teacherOf_77 rfl ?_
              refine x_istore_n C dX5_teacherOf_78 (by decide) rfl ?_
              refine x_iinc C dX5_teacherOf_79 rfl (nI_inc _) (by decide) rfl ?_
              refine x_goto C 5 dX5_teacherOf_82 (by decide) ?_
              refine xX.cl ih rfl (And.intro rfl (And.intro rfl (And.intro ?_ (And.intro rfl trivial)))) rfl
              rw [teS_sk (Or.inr (Or.inr (Int32.not_le.mpr h37))), hy]; rfl
            · refine x_iconst (v := 1) C dX5_teacherOf_40 (by decide) ?_
              refine x_goto C 45 dX5_teacherOf_41 (by decide) ?_
              refine x_istore C dX5_teacherOf_45 (by decide) rfl ?_
              refine x_iload C dX5_teacherOf_47 rfl ?_
              refine x_if_eq C 77 dX5_teacherOf_49 (by decide) (fun h => absurd h (by decide)) (fun _ => ?_)
              refine x_iload_n C dX5_teacherOf_52 rfl ?_
              refine x_bipush (v := (-6)) C dX5_teacherOf_53 (by decide) ?_
              refine x_ic_eq C 73 dX5_teacherOf_55 (by decide) (fun h => absurd h (nI_ne6 (by omega))) (fun _ => ?_)
              refine x_aload_n C dX5_teacherOf_58 rfl ?_
              refine x_iload_n C dX5_teacherOf_59 rfl ?_
              refine x_iconst (v := 1) C dX5_teacherOf_60 (by decide) ?_
              refine x_callV C (c_X5_part1 hi) kv_X5_part kl_X5_34 dX5_teacherOf_61 mput_0 rfl rfl rfl rfl (Nat.le_of_ble_eq_true rfl) (Nat.le_of_ble_eq_true rfl) (Nat.le_of_ble_eq_true rfl) (Nat.le_of_ble_eq_true rfl) (Nat.le_of_ble_eq_true rfl) ?_
              refine x_aload_n C dX5_teacherOf_64 rfl ?_
              refine x_iload_n C dX5_teacherOf_65 rfl ?_
              refine x_iconst (v := 1) C dX5_teacherOf_66 (by decide) ?_
              refine x_callV C (c_X5_part1 hy8) kv_X5_part kl_X5_34 dX5_teacherOf_67 mput_0 rfl rfl rfl rfl (Nat.le_of_ble_eq_true rfl) (Nat.le_of_ble_eq_true rfl) (Nat.le_of_ble_eq_true rfl) (Nat.le_of_ble_eq_true rfl) (Nat.le_of_ble_eq_true rfl) ?_
              refine x_ic_ge C 77 dX5_teacherOf_70 (by decide) (fun h70 => ?_) (fun h70 => ?_)
              · refine x_iload_n C dX5_teacherOf_77 rfl ?_
                refine x_istore_n C dX5_teacherOf_78 (by decide) rfl ?_
                refine x_iinc C dX5_teacherOf_79 rfl (nI_inc _) (by decide) rfl ?_
                refine x_goto C 5 dX5_teacherOf_82 (by decide) ?_
                refine xX.cl ih rfl (And.intro rfl (And.intro rfl (And.intro ?_ (And.intro rfl trivial)))) rfl
                rw [teS_k (fun z => h21 (congrArg nI z)) h16 (Int32.not_lt.mp h37) hy h70]; rfl
              · refine x_iload_n C dX5_teacherOf_73 rfl ?_
                refine x_goto C 78 dX5_teacherOf_74 (by decide) ?_
                refine x_istore_n C dX5_teacherOf_78 (by decide) rfl ?_
                refine x_iinc C dX5_teacherOf_79 rfl (nI_inc _) (by decide) rfl ?_
                refine x_goto C 5 dX5_teacherOf_82 (by decide) ?_
                refine xX.cl ih rfl (And.intro rfl (And.intro rfl (And.intro ?_ (And.intro rfl trivial)))) rfl
                rw [teS_u (fun z => h21 (congrArg nI z)) h16 (Int32.not_lt.mp h37) hy h70]; rfl
  refine x_bipush (v := (-6)) C dX5_teacherOf_0 (by decide) ?_
  refine x_istore_n C dX5_teacherOf_2 (by decide) rfl ?_
  refine x_iconst (v := 0) C dX5_teacherOf_3 (by decide) ?_
  refine x_istore_n C dX5_teacherOf_4 (by decide) rfl ?_
  refine xX.cl (hl 0 (by omega)) rfl (And.intro rfl (And.intro rfl (And.intro rfl (And.intro rfl trivial)))) rfl
set_option maxRecDepth 100000 in
set_option maxHeartbeats 1000000 in
theorem c_X5_isBorn_none {l : Launch} {E : xEnv} {B N : Nat} {σ : Sg} {M : Nat} {U : Vs} {kp ho tx sc : Fn} {c : Nat} (hc : c < 8) (hr : rgW U) (ht : teS U c 8 = none) : xM l yX5_isBorn cX5_isBorn 5 none 3 67 0 0 E B [.ref M, .int (nI c)] N (mput E σ M U kp ho tx sc) N (mput E σ M (up2 (blS U c none (U 8 3)) 9 3 (blS U c none (U 8 3) 9 3 + 1)) kp ho tx sc) none := by
  refine xM_of [some (.ref _), some (.int _), none, none, none] (by decide +kernel) (Nat.le_of_ble_eq_true rfl) rfl (fun k0 C Z => ?_)
  have hl : ∀ i, i ≤ 84 → xX k0 N 0 0 (mput E σ M (bmL U c none (U 8 3) i) kp ho tx sc) 8 [some (.ref M), some (.int (nI c)), some (.int (-6)), some (.int (nI i)), none] [] := by
    refine x_for 84 ?_ ?_
    · refine x_iload_n C dX5_isBorn_8 rfl ?_
      refine x_bipush (v := 84) C dX5_isBorn_9 (by decide) ?_
      refine x_ic_ge C 73 dX5_isBorn_11 (by decide) (fun _ => ?_) (fun h => absurd (nI_le (a := 84) (Nat.le_refl _) (by omega)) h)
      refine x_aload_n C dX5_isBorn_73 rfl ?_
      refine x_iload_n C dX5_isBorn_74 rfl ?_
      refine x_iconst (v := 1) C dX5_isBorn_75 (by decide) ?_
      refine x_iconst (v := 0) C dX5_isBorn_76 (by decide) ?_
      refine x_callV C (c_X5_setPart1 hc _) kv_X5_setPart kl_X5_77 dX5_isBorn_77 mput_0 rfl rfl rfl rfl (Nat.le_of_ble_eq_true rfl) (Nat.le_of_ble_eq_true rfl) (Nat.le_of_ble_eq_true rfl) (Nat.le_of_ble_eq_true rfl) (Nat.le_of_ble_eq_true rfl) ?_
      refine x_aload_n C dX5_isBorn_80 rfl ?_
      refine x_iload_n C dX5_isBorn_81 rfl ?_
      refine x_iconst (v := 2) C dX5_isBorn_82 (by decide) ?_
      refine x_iconst (v := 0) C dX5_isBorn_83 (by decide) ?_
      refine x_callV C (c_X5_setPart2 hc _) kv_X5_setPart kl_X5_77 dX5_isBorn_84 mput_0 rfl rfl rfl rfl (Nat.le_of_ble_eq_true rfl) (Nat.le_of_ble_eq_true rfl) (Nat.le_of_ble_eq_true rfl) (Nat.le_of_ble_eq_true rfl) (Nat.le_of_ble_eq_true rfl) ?_
      refine xX.sg (mcg (bm_bl hc (fun j _ => bm_n j))) ?_
      refine x_aload_n C dX5_isBorn_87 rfl ?_
      refine x_get C kf_X5_7 mput_0 rfl dX5_isBorn_88 ?_
      refine x_iconst (v := 3) C dX5_isBorn_91 (by decide) ?_
      refine x_dup2 C dX5_isBorn_92 rfl rfl ?_
      refine x_iald2 C mput_1 rfl (by decide) (by decide) dX5_isBorn_93 ?_
      rw [fl_9 (j := 3) (by decide)]
      refine x_iconst (v := 1) C dX5_isBorn_94 (by decide) ?_
      refine x_iadd C dX5_isBorn_95 ?_
      refine x_iast2 C mput_1 rfl (by decide) (by decide) (flu_9 (q := 3) (by decide) _) (mput_st _) dX5_isBorn_96 ?_
      exact x_vret C Z dX5_isBorn_97 (Nat.le_of_ble_eq_true rfl) (Nat.le_of_ble_eq_true rfl) rfl rfl
    · intro i hi ih
      refine x_iload_n C dX5_isBorn_8 rfl ?_
      refine x_bipush (v := 84) C dX5_isBorn_9 (by decide) ?_
      refine x_ic_ge C 73 dX5_isBorn_11 (by decide) (fun h => absurd h (nI_ge (b := 84) hi (by omega))) (fun _ => ?_)
      refine x_iload_n C dX5_isBorn_14 rfl ?_
      refine x_bipush (v := (-6)) C dX5_isBorn_15 (by decide) ?_
      refine x_ic_ne C 24 dX5_isBorn_17 (by decide) (fun h => absurd rfl h) (fun _ => ?_)
      refine x_iconst (v := 0) C dX5_isBorn_20 (by decide) ?_
      refine x_goto C 38 dX5_isBorn_21 (by decide) ?_
      refine x_istore C dX5_isBorn_38 (by decide) rfl ?_
      refine x_aload_n C dX5_isBorn_40 rfl ?_
      refine x_get C kf_X5_7 mput_0 rfl dX5_isBorn_41 ?_
      refine x_bipush (v := 33) C dX5_isBorn_44 (by decide) ?_
      refine x_bipush (v := 84) C dX5_isBorn_46 (by decide) ?_
      refine x_iload_n C dX5_isBorn_48 rfl ?_
      refine x_imul C dX5_isBorn_49 ?_
      refine x_iadd C dX5_isBorn_50 ?_
      refine x_iload_n C dX5_isBorn_51 rfl ?_
      refine x_iadd C dX5_isBorn_52 ?_
      refine x_iload C dX5_isBorn_53 rfl ?_
      refine x_aload_n C dX5_isBorn_55 rfl ?_
      refine x_get C kf_X5_7 mput_0 rfl dX5_isBorn_56 ?_
      refine x_bipush (v := 8) C dX5_isBorn_59 (by decide) ?_
      refine x_iald2 C mput_1 rfl (by decide) (by decide) dX5_isBorn_61 ?_
      rw [fl_share, bmL_r (show 8 ≠ c by omega)]
      refine x_imul C dX5_isBorn_62 ?_
      refine x_bipush (v := 100) C dX5_isBorn_63 (by decide) ?_
      refine x_idiv C dX5_isBorn_65 (by decide) ?_
      refine x_iast2 C mput_1 (ix_k _ _) (by omega) (by decide) (flu_w hc hi _) (mput_st _) dX5_isBorn_66 ?_
      refine x_iinc C dX5_isBorn_67 rfl (nI_inc _) (by decide) rfl ?_
      refine x_goto C 8 dX5_isBorn_70 (by decide) ?_
      refine xX.cl ih (mcg (bmL_s rfl)) (And.intro rfl (And.intro rfl (And.intro rfl (And.intro rfl trivial)))) rfl
  refine x_aload_n C dX5_isBorn_0 rfl ?_
  refine x_iload_n C dX5_isBorn_1 rfl ?_
  refine x_callV C (c_X5_teacherOf hc) kv_X5_teacherOf kl_X5_105 dX5_isBorn_2 mput_0 rfl rfl rfl rfl (Nat.le_of_ble_eq_true rfl) (Nat.le_of_ble_eq_true rfl) (Nat.le_of_ble_eq_true rfl) (Nat.le_of_ble_eq_true rfl) (Nat.le_of_ble_eq_true rfl) ?_
  rw [ht]
  refine x_istore_n C dX5_isBorn_5 (by decide) rfl ?_
  refine x_iconst (v := 0) C dX5_isBorn_6 (by decide) ?_
  refine x_istore_n C dX5_isBorn_7 (by decide) rfl ?_
  refine xX.cl (hl 0 (by omega)) (mcg bmL_0.symm) (And.intro rfl (And.intro rfl (And.intro rfl (And.intro rfl trivial)))) rfl
set_option maxRecDepth 100000 in
set_option maxHeartbeats 1000000 in
theorem c_X5_isBorn_some {l : Launch} {E : xEnv} {B N : Nat} {σ : Sg} {M : Nat} {U : Vs} {kp ho tx sc : Fn} {c : Nat} (hc : c < 8) (hr : rgW U) {y : Nat} (ht : teS U c 8 = some y) : xM l yX5_isBorn cX5_isBorn 5 none 3 67 0 0 E B [.ref M, .int (nI c)] N (mput E σ M U kp ho tx sc) N (mput E σ M (up2 (blS U c (some y) (U 8 3)) 9 3 (blS U c (some y) (U 8 3) 9 3 + 1)) kp ho tx sc) none := by
  refine xM_of [some (.ref _), some (.int _), none, none, none] (by decide +kernel) (Nat.le_of_ble_eq_true rfl) rfl (fun k0 C Z => ?_)
  have hy8 : y < 8 := (teS_in ht).1
  have hyc : y ≠ c := (teS_in ht).2
  have hl : ∀ i, i ≤ 84 → xX k0 N 0 0 (mput E σ M (bmL U c (some y) (U 8 3) i) kp ho tx sc) 8 [some (.ref M), some (.int (nI c)), some (.int (nI y)), some (.int (nI i)), none] [] := by
    refine x_for 84 ?_ ?_
    · refine x_iload_n C dX5_isBorn_8 rfl ?_
      refine x_bipush (v := 84) C dX5_isBorn_9 (by decide) ?_
      refine x_ic_ge C 73 dX5_isBorn_11 (by decide) (fun _ => ?_) (fun h => absurd (nI_le (a := 84) (Nat.le_refl _) (by omega)) h)
      refine x_aload_n C dX5_isBorn_73 rfl ?_
      refine x_iload_n C dX5_isBorn_74 rfl ?_
      refine x_iconst (v := 1) C dX5_isBorn_75 (by decide) ?_
      refine x_iconst (v := 0) C dX5_isBorn_76 (by decide) ?_
      refine x_callV C (c_X5_setPart1 hc _) kv_X5_setPart kl_X5_77 dX5_isBorn_77 mput_0 rfl rfl rfl rfl (Nat.le_of_ble_eq_true rfl) (Nat.le_of_ble_eq_true rfl) (Nat.le_of_ble_eq_true rfl) (Nat.le_of_ble_eq_true rfl) (Nat.le_of_ble_eq_true rfl) ?_
      refine x_aload_n C dX5_isBorn_80 rfl ?_
      refine x_iload_n C dX5_isBorn_81 rfl ?_
      refine x_iconst (v := 2) C dX5_isBorn_82 (by decide) ?_
      refine x_iconst (v := 0) C dX5_isBorn_83 (by decide) ?_
      refine x_callV C (c_X5_setPart2 hc _) kv_X5_setPart kl_X5_77 dX5_isBorn_84 mput_0 rfl rfl rfl rfl (Nat.le_of_ble_eq_true rfl) (Nat.le_of_ble_eq_true rfl) (Nat.le_of_ble_eq_true rfl) (Nat.le_of_ble_eq_true rfl) (Nat.le_of_ble_eq_true rfl) ?_
      refine xX.sg (mcg (bm_bl hc (fun j hj => (rg_sh hr hy8 hj).symm))) ?_
      refine x_aload_n C dX5_isBorn_87 rfl ?_
      refine x_get C kf_X5_7 mput_0 rfl dX5_isBorn_88 ?_
      refine x_iconst (v := 3) C dX5_isBorn_91 (by decide) ?_
      refine x_dup2 C dX5_isBorn_92 rfl rfl ?_
      refine x_iald2 C mput_1 rfl (by decide) (by decide) dX5_isBorn_93 ?_
      rw [fl_9 (j := 3) (by decide)]
      refine x_iconst (v := 1) C dX5_isBorn_94 (by decide) ?_
      refine x_iadd C dX5_isBorn_95 ?_
      refine x_iast2 C mput_1 rfl (by decide) (by decide) (flu_9 (q := 3) (by decide) _) (mput_st _) dX5_isBorn_96 ?_
      exact x_vret C Z dX5_isBorn_97 (Nat.le_of_ble_eq_true rfl) (Nat.le_of_ble_eq_true rfl) rfl rfl
    · intro i hi ih
      refine x_iload_n C dX5_isBorn_8 rfl ?_
      refine x_bipush (v := 84) C dX5_isBorn_9 (by decide) ?_
      refine x_ic_ge C 73 dX5_isBorn_11 (by decide) (fun h => absurd h (nI_ge (b := 84) hi (by omega))) (fun _ => ?_)
      refine x_iload_n C dX5_isBorn_14 rfl ?_
      refine x_bipush (v := (-6)) C dX5_isBorn_15 (by decide) ?_
      refine x_ic_ne C 24 dX5_isBorn_17 (by decide) (fun _ => ?_) (fun h => absurd h (nI_ne6 (by omega)))
      refine x_aload_n C dX5_isBorn_24 rfl ?_
      refine x_get C kf_X5_7 mput_0 rfl dX5_isBorn_25 ?_
      refine x_bipush (v := 33) C dX5_isBorn_28 (by decide) ?_
      refine x_bipush (v := 84) C dX5_isBorn_30 (by decide) ?_
      refine x_iload_n C dX5_isBorn_32 rfl ?_
      refine x_imul C dX5_isBorn_33 ?_
      refine x_iadd C dX5_isBorn_34 ?_
      refine x_iload_n C dX5_isBorn_35 rfl ?_
      refine x_iadd C dX5_isBorn_36 ?_
      refine x_iald2 C mput_1 (ix_k _ _) (by omega) (by decide) dX5_isBorn_37 ?_
      rw [fl_w hi, bmL_r hyc]
      refine x_istore C dX5_isBorn_38 (by decide) rfl ?_
      refine x_aload_n C dX5_isBorn_40 rfl ?_
      refine x_get C kf_X5_7 mput_0 rfl dX5_isBorn_41 ?_
      refine x_bipush (v := 33) C dX5_isBorn_44 (by decide) ?_
      refine x_bipush (v := 84) C dX5_isBorn_46 (by decide) ?_
      refine x_iload_n C dX5_isBorn_48 rfl ?_
      refine x_imul C dX5_isBorn_49 ?_
      refine x_iadd C dX5_isBorn_50 ?_
      refine x_iload_n C dX5_isBorn_51 rfl ?_
      refine x_iadd C dX5_isBorn_52 ?_
      refine x_iload C dX5_isBorn_53 rfl ?_
      refine x_aload_n C dX5_isBorn_55 rfl ?_
      refine x_get C kf_X5_7 mput_0 rfl dX5_isBorn_56 ?_
      refine x_bipush (v := 8) C dX5_isBorn_59 (by decide) ?_
      refine x_iald2 C mput_1 rfl (by decide) (by decide) dX5_isBorn_61 ?_
      rw [fl_share, bmL_r (show 8 ≠ c by omega)]
      refine x_imul C dX5_isBorn_62 ?_
      refine x_bipush (v := 100) C dX5_isBorn_63 (by decide) ?_
      refine x_idiv C dX5_isBorn_65 (by decide) ?_
      refine x_iast2 C mput_1 (ix_k _ _) (by omega) (by decide) (flu_w hc hi _) (mput_st _) dX5_isBorn_66 ?_
      refine x_iinc C dX5_isBorn_67 rfl (nI_inc _) (by decide) rfl ?_
      refine x_goto C 8 dX5_isBorn_70 (by decide) ?_
      refine xX.cl ih (mcg (bmL_s rfl)) (And.intro rfl (And.intro rfl (And.intro rfl (And.intro rfl trivial)))) rfl
  refine x_aload_n C dX5_isBorn_0 rfl ?_
  refine x_iload_n C dX5_isBorn_1 rfl ?_
  refine x_callV C (c_X5_teacherOf hc) kv_X5_teacherOf kl_X5_105 dX5_isBorn_2 mput_0 rfl rfl rfl rfl (Nat.le_of_ble_eq_true rfl) (Nat.le_of_ble_eq_true rfl) (Nat.le_of_ble_eq_true rfl) (Nat.le_of_ble_eq_true rfl) (Nat.le_of_ble_eq_true rfl) ?_
  rw [ht]
  refine x_istore_n C dX5_isBorn_5 (by decide) rfl ?_
  refine x_iconst (v := 0) C dX5_isBorn_6 (by decide) ?_
  refine x_istore_n C dX5_isBorn_7 (by decide) rfl ?_
  refine xX.cl (hl 0 (by omega)) (mcg bmL_0.symm) (And.intro rfl (And.intro rfl (And.intro rfl (And.intro rfl trivial)))) rfl
set_option maxRecDepth 100000 in
set_option maxHeartbeats 1000000 in
theorem c_X5_isBorn {l : Launch} {E : xEnv} {B N : Nat} {σ : Sg} {M : Nat} {U : Vs} {kp ho tx sc : Fn} {c : Nat} (hc : c < 8) (hr : rgW U) (h : U 10 c = 1 ∧ ¬ U 11 c ≤ U 8 2) : xM l yX5_isBorn cX5_isBorn 5 none 3 67 0 0 E B [.ref M, .int (nI c)] N (mput E σ M U kp ho tx sc) N (mput E σ M (byK U c) kp ho tx sc) none := by
  cases ht : teS U c 8 with
  | none => rw [byK_t h ht]; exact c_X5_isBorn_none hc hr ht
  | some y => rw [byK_t h ht]; exact c_X5_isBorn_some hc hr ht
set_option maxRecDepth 100000 in
set_option maxHeartbeats 1000000 in
theorem c_X5_passesYear {l : Launch} {E : xEnv} {B N : Nat} {σ : Sg} {M : Nat} {U : Vs} {kp ho tx sc : Fn} (hr : rgW U) : xM l yX5_passesYear cX5_passesYear 2 none 4 91 0 0 E B [.ref M] N (mput E σ M U kp ho tx sc) N (mput E σ M (yrS U) kp ho tx sc) none := by
  refine xM_of [some (.ref _), none] (by decide +kernel) (Nat.le_of_ble_eq_true rfl) rfl (fun k0 C Z => ?_)
  have hl2 : ∀ i, i ≤ 8 → xX k0 N 0 0 (mput E σ M (byL (agL U 8) i) kp ho tx sc) 35 [some (.ref M), some (.int (nI i))] [] := by
    refine x_for 8 ?_ ?_
    · refine x_iload_n C dX5_passesYear_35 rfl ?_
      refine x_bipush (v := 8) C dX5_passesYear_36 (by decide) ?_
      refine x_ic_ge C 76 dX5_passesYear_38 (by decide) (fun _ => ?_) (fun h => absurd (nI_le (a := 8) (Nat.le_refl _) (by omega)) h)
      refine x_aload_n C dX5_passesYear_76 rfl ?_
      refine x_get C kf_X5_7 mput_0 rfl dX5_passesYear_77 ?_
      refine x_iconst (v := 4) C dX5_passesYear_80 (by decide) ?_
      refine x_dup2 C dX5_passesYear_81 rfl rfl ?_
      refine x_iald2 C mput_1 rfl (by decide) (by decide) dX5_passesYear_82 ?_
      rw [fl_9 (j := 4) (by decide)]
      refine x_iconst (v := 1) C dX5_passesYear_83 (by decide) ?_
      refine x_iadd C dX5_passesYear_84 ?_
      refine x_iast2 C mput_1 rfl (by decide) (by decide) (flu_9 (q := 4) (by decide) _) (mput_st _) dX5_passesYear_85 ?_
      exact x_vret C Z dX5_passesYear_86 (Nat.le_of_ble_eq_true rfl) (Nat.le_of_ble_eq_true rfl) rfl (mcg yr_e)
    · intro i hi ih
      refine x_iload_n C dX5_passesYear_35 rfl ?_
      refine x_bipush (v := 8) C dX5_passesYear_36 (by decide) ?_
      refine x_ic_ge C 76 dX5_passesYear_38 (by decide) (fun h => absurd h (nI_ge (b := 8) hi (by omega))) (fun _ => ?_)
      refine x_aload_n C dX5_passesYear_41 rfl ?_
      refine x_iload_n C dX5_passesYear_42 rfl ?_
      refine x_callV C (c_X5_isSpeaker_k hi) kv_X5_isSpeaker kl_X5_45 dX5_passesYear_43 mput_0 rfl rfl rfl rfl (Nat.le_of_ble_eq_true rfl) (Nat.le_of_ble_eq_true rfl) (Nat.le_of_ble_eq_true rfl) (Nat.le_of_ble_eq_true rfl) (Nat.le_of_ble_eq_true rfl) ?_
      refine x_beq C 70 dX5_passesYear_46 (by decide) (fun h46 => ?_) (fun h46 => ?_)
      · refine x_iinc C dX5_passesYear_70 rfl (nI_inc _) (by decide) rfl ?_
        refine x_goto C 35 dX5_passesYear_73 (by decide) ?_
        refine xX.cl ih (mcg (byK_f (fun z => h46 z.1)).symm) (And.intro rfl (And.intro rfl trivial)) rfl
      · refine x_aload_n C dX5_passesYear_49 rfl ?_
        refine x_iload_n C dX5_passesYear_50 rfl ?_
        refine x_iconst (v := 1) C dX5_passesYear_51 (by decide) ?_
        refine x_callV C (c_X5_part1 hi) kv_X5_part kl_X5_34 dX5_passesYear_52 mput_0 rfl rfl rfl rfl (Nat.le_of_ble_eq_true rfl) (Nat.le_of_ble_eq_true rfl) (Nat.le_of_ble_eq_true rfl) (Nat.le_of_ble_eq_true rfl) (Nat.le_of_ble_eq_true rfl) ?_
        refine x_aload_n C dX5_passesYear_55 rfl ?_
        refine x_get C kf_X5_7 mput_0 rfl dX5_passesYear_56 ?_
        refine x_bipush (v := 7) C dX5_passesYear_59 (by decide) ?_
        refine x_iald2 C mput_1 rfl (by decide) (by decide) dX5_passesYear_61 ?_
        rw [fl_life]
        refine x_ic_le C 70 dX5_passesYear_62 (by decide) (fun h62 => ?_) (fun h62 => ?_)
        · refine x_iinc C dX5_passesYear_70 rfl (nI_inc _) (by decide) rfl ?_
          refine x_goto C 35 dX5_passesYear_73 (by decide) ?_
          refine xX.cl ih (mcg (byK_f (fun z => z.2 h62)).symm) (And.intro rfl (And.intro rfl trivial)) rfl
        · refine x_aload_n C dX5_passesYear_65 rfl ?_
          refine x_iload_n C dX5_passesYear_66 rfl ?_
          refine x_callV C (c_X5_isBorn hi (byL_rg (agL_rg hr) i (by omega)) ⟨h46, Int32.not_le.mpr (Int32.not_le.mp h62)⟩) kv_X5_isBorn kl_X5_108 dX5_passesYear_67 mput_0 rfl rfl rfl rfl (Nat.le_of_ble_eq_true rfl) (Nat.le_of_ble_eq_true rfl) (Nat.le_of_ble_eq_true rfl) (Nat.le_of_ble_eq_true rfl) (Nat.le_of_ble_eq_true rfl) ?_
          refine x_iinc C dX5_passesYear_70 rfl (nI_inc _) (by decide) rfl ?_
          refine x_goto C 35 dX5_passesYear_73 (by decide) ?_
          refine xX.cl ih (mcg rfl) (And.intro rfl (And.intro rfl trivial)) rfl
  have hl : ∀ i, i ≤ 8 → xX k0 N 0 0 (mput E σ M (agL U i) kp ho tx sc) 2 [some (.ref M), some (.int (nI i))] [] := by
    refine x_for 8 ?_ ?_
    · refine x_iload_n C dX5_passesYear_2 rfl ?_
      refine x_bipush (v := 8) C dX5_passesYear_3 (by decide) ?_
      refine x_ic_ge C 33 dX5_passesYear_5 (by decide) (fun _ => ?_) (fun h => absurd (nI_le (a := 8) (Nat.le_refl _) (by omega)) h)
      refine x_iconst (v := 0) C dX5_passesYear_33 (by decide) ?_
      refine x_istore_n C dX5_passesYear_34 (by decide) rfl ?_
      refine xX.cl (hl2 0 (by omega)) rfl (And.intro rfl (And.intro rfl trivial)) rfl
    · intro i hi ih
      refine x_iload_n C dX5_passesYear_2 rfl ?_
      refine x_bipush (v := 8) C dX5_passesYear_3 (by decide) ?_
      refine x_ic_ge C 33 dX5_passesYear_5 (by decide) (fun h => absurd h (nI_ge (b := 8) hi (by omega))) (fun _ => ?_)
      refine x_aload_n C dX5_passesYear_8 rfl ?_
      refine x_iload_n C dX5_passesYear_9 rfl ?_
      refine x_iconst (v := 1) C dX5_passesYear_10 (by decide) ?_
      refine x_aload_n C dX5_passesYear_11 rfl ?_
      refine x_iload_n C dX5_passesYear_12 rfl ?_
      refine x_iconst (v := 1) C dX5_passesYear_13 (by decide) ?_
      refine x_callV C (c_X5_part1 hi) kv_X5_part kl_X5_34 dX5_passesYear_14 mput_0 rfl rfl rfl rfl (Nat.le_of_ble_eq_true rfl) (Nat.le_of_ble_eq_true rfl) (Nat.le_of_ble_eq_true rfl) (Nat.le_of_ble_eq_true rfl) (Nat.le_of_ble_eq_true rfl) ?_
      refine x_aload_n C dX5_passesYear_17 rfl ?_
      refine x_iload_n C dX5_passesYear_18 rfl ?_
      refine x_iconst (v := 0) C dX5_passesYear_19 (by decide) ?_
      refine x_callV C (c_X5_part0 hi) kv_X5_part kl_X5_34 dX5_passesYear_20 mput_0 rfl rfl rfl rfl (Nat.le_of_ble_eq_true rfl) (Nat.le_of_ble_eq_true rfl) (Nat.le_of_ble_eq_true rfl) (Nat.le_of_ble_eq_true rfl) (Nat.le_of_ble_eq_true rfl) ?_
      refine x_iadd C dX5_passesYear_23 ?_
      refine x_callV C (c_X5_setPart1 hi _) kv_X5_setPart kl_X5_77 dX5_passesYear_24 mput_0 rfl rfl rfl rfl (Nat.le_of_ble_eq_true rfl) (Nat.le_of_ble_eq_true rfl) (Nat.le_of_ble_eq_true rfl) (Nat.le_of_ble_eq_true rfl) (Nat.le_of_ble_eq_true rfl) ?_
      refine x_iinc C dX5_passesYear_27 rfl (nI_inc _) (by decide) rfl ?_
      refine x_goto C 2 dX5_passesYear_30 (by decide) ?_
      refine xX.cl ih (mcg ag_s) (And.intro rfl (And.intro rfl trivial)) rfl
  refine x_iconst (v := 0) C dX5_passesYear_0 (by decide) ?_
  refine x_istore_n C dX5_passesYear_1 (by decide) rfl ?_
  refine xX.cl (hl 0 (by omega)) (mcg agL_0.symm) (And.intro rfl (And.intro rfl trivial)) rfl
