/-! what the model is asked -/
def ccJ (r : Fn) (m : Nat) : Nat → Nat
  | 0 => 0
  | o + 1 => ccJ r m o + (if wfS r m ≠ none ∧ wfS r m = wfS r o then 1 else 0)
def ccM (r : Fn) : Nat → Nat
  | 0 => 0
  | m + 1 => ccM r m + ccJ r m m
theorem cc_sym (r : Fn) (a b : Nat) : (if wfS r a ≠ none ∧ wfS r a = wfS r b then 1 else 0) = (if wfS r b ≠ none ∧ wfS r b = wfS r a then 1 else (0 : Nat)) := by
  by_cases h : wfS r a ≠ none ∧ wfS r a = wfS r b
  · rw [if_pos h, if_pos (show wfS r b ≠ none ∧ wfS r b = wfS r a from ⟨fun y => h.1 (h.2.trans y), h.2.symm⟩)]
  · rw [if_neg h, if_neg (show ¬ (wfS r b ≠ none ∧ wfS r b = wfS r a) from fun z => h ⟨fun y => z.1 (z.2.trans y), z.2.symm⟩)]
theorem ccM_e (r : Fn) : ccM r 6 = ccN r 6 := by
  have e : ∀ m o, ccJ r m (o + 1) = ccJ r m o + (if wfS r o ≠ none ∧ wfS r o = wfS r m then 1 else 0) := by
    intro m o
    rw [ccJ, cc_sym]
  have e0 : ∀ m, ccJ r m 0 = 0 := fun _ => rfl
  have f : ∀ m t, ccI r m (t + 1) = ccI r m t + (if wfS r m ≠ none ∧ wfS r m = wfS r (m + 1 + t) then 1 else 0) := fun _ _ => rfl
  have f0 : ∀ m, ccI r m 0 = 0 := fun _ => rfl
  have g : ∀ m, ccM r (m + 1) = ccM r m + ccJ r m m := fun _ => rfl
  have g0 : ccM r 0 = 0 := rfl
  have k : ∀ n, ccN r (n + 1) = ccN r n + ccI r n (5 - n) := fun _ => rfl
  have k0 : ccN r 0 = 0 := rfl
  rw [g 5, g 4, g 3, g 2, g 1, g 0, g0, k 5, k 4, k 3, k 2, k 1, k 0, k0]
  show 0 + ccJ r 0 0 + ccJ r 1 1 + ccJ r 2 2 + ccJ r 3 3 + ccJ r 4 4 + ccJ r 5 5 = 0 + ccI r 0 5 + ccI r 1 4 + ccI r 2 3 + ccI r 3 2 + ccI r 4 1 + ccI r 5 0
  rw [e0, e 1 0, e0, e 2 1, e 2 0, e0, e 3 2, e 3 1, e 3 0, e0, e 4 3, e 4 2, e 4 1, e 4 0, e0, e 5 4, e 5 3, e 5 2, e 5 1, e 5 0, e0]
  rw [f 0 4, f 0 3, f 0 2, f 0 1, f 0 0, f0, f 1 3, f 1 2, f 1 1, f 1 0, f0, f 2 2, f 2 1, f 2 0, f0, f 3 1, f 3 0, f0, f 4 0, f0, f0]
  simp only [Nat.zero_add, Nat.add_zero, Nat.reduceAdd]
  omega
def muS (U : Vs) (j : Nat) : Int32 := if j = 0 then nI (cnN (U 10) 8) else if j = 6 then smL (fun q => flat U (33 + q)) 672 else U 9 (j - 1)
theorem ix_c (j : Nat) (h : 1 ≤ j) : (0 : Int32) + nI j - 1 = nI (j - 1) := by
  obtain ⟨q, rfl⟩ : ∃ q, j = q + 1 := ⟨j - 1, by omega⟩
  rw [Int32.zero_add, nI_pred]; rfl
set_option maxRecDepth 100000 in
set_option maxHeartbeats 1000000 in
theorem c_X5_wordsOf {l : Launch} {E : xEnv} {B N : Nat} {σ : Sg} {M : Nat} {U : Vs} {kp ho tx sc : Fn} {s : Nat} (hs : s < 8) : xM l yX5_wordsOf cX5_wordsOf 4 (some .int) 3 71 0 0 E B [.ref M, .int (nI s)] N (mput E σ M U kp ho tx sc) N (mput E σ M U kp ho tx sc) (some (.int (nI (cwN (U s) 6)))) := by
  refine xM_of [some (.ref _), some (.int _), none, none] (by decide +kernel) (Nat.le_of_ble_eq_true rfl) rfl (fun k0 C Z => ?_)
  have hl : ∀ i, i ≤ 6 → xX k0 N 0 0 (mput E σ M U kp ho tx sc) 4 [some (.ref M), some (.int (nI s)), some (.int (nI (cwN (U s) i))), some (.int (nI i))] [] := by
    refine x_for 6 ?_ ?_
    · refine x_iload_n C dX5_wordsOf_4 rfl ?_
      refine x_bipush (v := 6) C dX5_wordsOf_5 (by decide) ?_
      refine x_ic_ge C 35 dX5_wordsOf_7 (by decide) (fun _ => ?_) (fun h => absurd (nI_le (a := 6) (Nat.le_refl _) (by omega)) h)
      refine x_iload_n C dX5_wordsOf_35 rfl ?_
      exact x_zret C Z dX5_wordsOf_36 rfl (Nat.le_of_ble_eq_true rfl) (Nat.le_of_ble_eq_true rfl) rfl rfl rfl
    · intro i hi ih
      refine x_iload_n C dX5_wordsOf_4 rfl ?_
      refine x_bipush (v := 6) C dX5_wordsOf_5 (by decide) ?_
      refine x_ic_ge C 35 dX5_wordsOf_7 (by decide) (fun h => absurd h (nI_ge (b := 6) hi (by omega))) (fun _ => ?_)
      refine x_iload_n C dX5_wordsOf_10 rfl ?_
      refine x_aload_n C dX5_wordsOf_11 rfl ?_
      refine x_iload_n C dX5_wordsOf_12 rfl ?_
      refine x_iload_n C dX5_wordsOf_13 rfl ?_
      refine x_callV C (c_X5_wordFor hs hi) kv_X5_wordFor kl_X5_58 dX5_wordsOf_14 mput_0 rfl rfl rfl rfl (Nat.le_of_ble_eq_true rfl) (Nat.le_of_ble_eq_true rfl) (Nat.le_of_ble_eq_true rfl) (Nat.le_of_ble_eq_true rfl) (Nat.le_of_ble_eq_true rfl) ?_
      refine x_bipush (v := (-6)) C dX5_wordsOf_17 (by decide) ?_
      refine x_ic_ne C 26 dX5_wordsOf_19 (by decide) (fun h19 => ?_) (fun h19 => ?_)
      · refine x_iconst (v := 1) C dX5_wordsOf_26 (by decide) ?_
        refine x_iadd C dX5_wordsOf_27 ?_
        refine x_istore_n C dX5_wordsOf_28 (by decide) rfl ?_
        refine x_iinc C dX5_wordsOf_29 rfl (nI_inc _) (by decide) rfl ?_
        refine x_goto C 4 dX5_wordsOf_32 (by decide) ?_
        refine xX.cl ih rfl (And.intro rfl (And.intro rfl (And.intro (congrArg (fun z => some (some (Value.int z))) ((nI_1 _).trans (congrArg nI (by rw [cwN, if_neg (fun z => h19 (wfS_6.mpr z))])))) (And.intro rfl trivial)))) rfl
      · refine x_iconst (v := 0) C dX5_wordsOf_22 (by decide) ?_
        refine x_goto C 27 dX5_wordsOf_23 (by decide) ?_
        refine x_iadd C dX5_wordsOf_27 ?_
        refine x_istore_n C dX5_wordsOf_28 (by decide) rfl ?_
        refine x_iinc C dX5_wordsOf_29 rfl (nI_inc _) (by decide) rfl ?_
        refine x_goto C 4 dX5_wordsOf_32 (by decide) ?_
        refine xX.cl ih rfl (And.intro rfl (And.intro rfl (And.intro (congrArg (fun z => some (some (Value.int z))) ((Int32.add_zero _).trans (congrArg nI (by rw [cwN, if_pos (wfS_6.mp h19)]; rfl)))) (And.intro rfl trivial)))) rfl
  refine x_iconst (v := 0) C dX5_wordsOf_0 (by decide) ?_
  refine x_istore_n C dX5_wordsOf_1 (by decide) rfl ?_
  refine x_iconst (v := 0) C dX5_wordsOf_2 (by decide) ?_
  refine x_istore_n C dX5_wordsOf_3 (by decide) rfl ?_
  refine xX.cl (hl 0 (by omega)) rfl (And.intro rfl (And.intro rfl (And.intro rfl (And.intro rfl trivial)))) rfl
set_option maxRecDepth 100000 in
set_option maxHeartbeats 1000000 in
theorem c_X5_confusions {l : Launch} {E : xEnv} {B N : Nat} {σ : Sg} {M : Nat} {U : Vs} {kp ho tx sc : Fn} {s : Nat} (hs : s < 8) : xM l yX5_confusions cX5_confusions 5 (some .int) 3 71 0 0 E B [.ref M, .int (nI s)] N (mput E σ M U kp ho tx sc) N (mput E σ M U kp ho tx sc) (some (.int (nI (ccN (U s) 6)))) := by
  refine xM_of [some (.ref _), some (.int _), none, none, none] (by decide +kernel) (Nat.le_of_ble_eq_true rfl) rfl (fun k0 C Z => ?_)
  have hl : ∀ i, i ≤ 6 → xX k0 N 0 0 (mput E σ M U kp ho tx sc) 4 [some (.ref M), some (.int (nI s)), some (.int (nI (ccM (U s) i))), some (.int (nI i)), none] [] := by
    refine x_for 6 ?_ ?_
    · refine x_iload_n C dX5_confusions_4 rfl ?_
      refine x_bipush (v := 6) C dX5_confusions_5 (by decide) ?_
      refine x_ic_ge C 66 dX5_confusions_7 (by decide) (fun _ => ?_) (fun h => absurd (nI_le (a := 6) (Nat.le_refl _) (by omega)) h)
      refine x_iload_n C dX5_confusions_66 rfl ?_
      exact x_zret C Z dX5_confusions_67 rfl (Nat.le_of_ble_eq_true rfl) (Nat.le_of_ble_eq_true rfl) rfl rfl (congrArg nI (ccM_e _))
    · intro i hi6 ih
      have hl2 : ∀ o, o ≤ i → xX k0 N 0 0 (mput E σ M U kp ho tx sc) 13 [some (.ref M), some (.int (nI s)), some (.int (nI (ccM (U s) i + ccJ (U s) i o))), some (.int (nI i)), some (.int (nI o))] [] := by
        refine x_for i ?_ ?_
        · refine x_iload C dX5_confusions_13 rfl ?_
          refine x_iload_n C dX5_confusions_15 rfl ?_
          refine x_ic_ge C 60 dX5_confusions_16 (by decide) (fun _ => ?_) (fun h => absurd (nI_le (Nat.le_refl _) (by omega)) h)
          refine x_iinc C dX5_confusions_60 rfl (nI_inc _) (by decide) rfl ?_
          refine x_goto C 4 dX5_confusions_63 (by decide) ?_
          refine xX.cl ih rfl (And.intro rfl (And.intro rfl (And.intro rfl (And.intro rfl trivial)))) rfl
        · intro o hi ih2
          have ho2 : o < i := hi
          refine x_iload C dX5_confusions_13 rfl ?_
          refine x_iload_n C dX5_confusions_15 rfl ?_
          refine x_ic_ge C 60 dX5_confusions_16 (by decide) (fun h => absurd h (nI_ge ho2 (by omega))) (fun _ => ?_)
          refine x_iload_n C dX5_confusions_19 rfl ?_
          refine x_aload_n C dX5_confusions_20 rfl ?_
          refine x_iload_n C dX5_confusions_21 rfl ?_
          refine x_iload_n C dX5_confusions_22 rfl ?_
          refine x_callV C (c_X5_wordFor hs (by omega)) kv_X5_wordFor kl_X5_58 dX5_confusions_23 mput_0 rfl rfl rfl rfl (Nat.le_of_ble_eq_true rfl) (Nat.le_of_ble_eq_true rfl) (Nat.le_of_ble_eq_true rfl) (Nat.le_of_ble_eq_true rfl) (Nat.le_of_ble_eq_true rfl) ?_
          refine x_bipush (v := (-6)) C dX5_confusions_26 (by decide) ?_
          refine x_ic_eq C 51 dX5_confusions_28 (by decide) (fun h28 => ?_) (fun h28 => ?_)
          · refine x_iconst (v := 0) C dX5_confusions_51 (by decide) ?_
            refine x_iadd C dX5_confusions_52 ?_
            refine x_istore_n C dX5_confusions_53 (by decide) rfl ?_
            refine x_iinc C dX5_confusions_54 rfl (nI_inc _) (by decide) rfl ?_
            refine x_goto C 13 dX5_confusions_57 (by decide) ?_
            refine xX.cl ih2 rfl (And.intro rfl (And.intro rfl (And.intro (congrArg (fun z => some (some (Value.int z))) ((ad_f (fun z => z.1 (wfS_6.mp h28)) _).trans (congrArg nI (Nat.add_assoc _ _ _)))) (And.intro rfl (And.intro rfl trivial))))) rfl
          · refine x_aload_n C dX5_confusions_31 rfl ?_
            refine x_iload_n C dX5_confusions_32 rfl ?_
            refine x_iload_n C dX5_confusions_33 rfl ?_
            refine x_callV C (c_X5_wordFor hs (by omega)) kv_X5_wordFor kl_X5_58 dX5_confusions_34 mput_0 rfl rfl rfl rfl (Nat.le_of_ble_eq_true rfl) (Nat.le_of_ble_eq_true rfl) (Nat.le_of_ble_eq_true rfl) (Nat.le_of_ble_eq_true rfl) (Nat.le_of_ble_eq_true rfl) ?_
            refine x_aload_n C dX5_confusions_37 rfl ?_
            refine x_iload_n C dX5_confusions_38 rfl ?_
            refine x_iload C dX5_confusions_39 rfl ?_
            refine x_callV C (c_X5_wordFor hs (by omega)) kv_X5_wordFor kl_X5_58 dX5_confusions_41 mput_0 rfl rfl rfl rfl (Nat.le_of_ble_eq_true rfl) (Nat.le_of_ble_eq_true rfl) (Nat.le_of_ble_eq_true rfl) (Nat.le_of_ble_eq_true rfl) (Nat.le_of_ble_eq_true rfl) ?_
            refine x_ic_ne C 51 dX5_confusions_44 (by decide) (fun h44 => ?_) (fun h44 => ?_)
            · refine x_iconst (v := 0) C dX5_confusions_51 (by decide) ?_
              refine x_iadd C dX5_confusions_52 ?_
              refine x_istore_n C dX5_confusions_53 (by decide) rfl ?_
              refine x_iinc C dX5_confusions_54 rfl (nI_inc _) (by decide) rfl ?_
              refine x_goto C 13 dX5_confusions_57 (by decide) ?_
              refine xX.cl ih2 rfl (And.intro rfl (And.intro rfl (And.intro (congrArg (fun z => some (some (Value.int z))) ((ad_f (fun z => h44 (congrArg oI z.2)) _).trans (congrArg nI (Nat.add_assoc _ _ _)))) (And.intro rfl (And.intro rfl trivial))))) rfl
            · refine x_iconst (v := 1) C dX5_confusions_47 (by decide) ?_
              refine x_goto C 52 dX5_confusions_48 (by decide) ?_
              refine x_iadd C dX5_confusions_52 ?_
              refine x_istore_n C dX5_confusions_53 (by decide) rfl ?_
              refine x_iinc C dX5_confusions_54 rfl (nI_inc _) (by decide) rfl ?_
              refine x_goto C 13 dX5_confusions_57 (by decide) ?_
              refine xX.cl ih2 rfl (And.intro rfl (And.intro rfl (And.intro (congrArg (fun z => some (some (Value.int z))) ((ad_t ⟨fun z => h28 (wfS_6.mpr z), wfS_ij.mp h44⟩ _).trans (congrArg nI (Nat.add_assoc _ _ _)))) (And.intro rfl (And.intro rfl trivial))))) rfl
      refine x_iload_n C dX5_confusions_4 rfl ?_
      refine x_bipush (v := 6) C dX5_confusions_5 (by decide) ?_
      refine x_ic_ge C 66 dX5_confusions_7 (by decide) (fun h => absurd h (nI_ge (b := 6) hi6 (by omega))) (fun _ => ?_)
      refine x_iconst (v := 0) C dX5_confusions_10 (by decide) ?_
      refine x_istore C dX5_confusions_11 (by decide) rfl ?_
      refine xX.cl (hl2 0 (Nat.zero_le _)) rfl (And.intro rfl (And.intro rfl (And.intro rfl (And.intro rfl (And.intro rfl trivial))))) rfl
  refine x_iconst (v := 0) C dX5_confusions_0 (by decide) ?_
  refine x_istore_n C dX5_confusions_1 (by decide) rfl ?_
  refine x_iconst (v := 0) C dX5_confusions_2 (by decide) ?_
  refine x_istore_n C dX5_confusions_3 (by decide) rfl ?_
  refine xX.cl (hl 0 (by omega)) rfl (And.intro rfl (And.intro rfl (And.intro rfl (And.intro rfl trivial)))) rfl
set_option maxRecDepth 100000 in
set_option maxHeartbeats 1000000 in
theorem c_X5_ofSpeaker {l : Launch} {E : xEnv} {B N : Nat} {σ : Sg} {M : Nat} {U : Vs} {kp ho tx sc : Fn} {s : Nat} (hs : s < 8) {j : Nat} (hj : j < 5) : xM l yX5_ofSpeaker cX5_ofSpeaker 3 (some .int) 4 95 0 0 E B [.ref M, .int (nI s), .int (nI j)] N (mput E σ M U kp ho tx sc) N (mput E σ M U kp ho tx sc) (some (.int (nsS U s j))) := by
  rcases (show j = 0 ∨ j = 1 ∨ j = 2 ∨ j = 3 ∨ j = 4 by omega) with rfl | rfl | rfl | rfl | rfl
  · refine xM_of [some (.ref _), some (.int _), some (.int _)] (by decide +kernel) (Nat.le_of_ble_eq_true rfl) rfl (fun k0 C Z => ?_)
    refine x_iload_n C dX5_ofSpeaker_0 rfl ?_
    refine x_if_ne C 13 dX5_ofSpeaker_1 (by decide) (fun h => absurd (by decide) h) (fun _ => ?_)
    refine x_aload_n C dX5_ofSpeaker_4 rfl ?_
    refine x_iload_n C dX5_ofSpeaker_5 rfl ?_
    refine x_iconst (v := 1) C dX5_ofSpeaker_6 (by decide) ?_
    refine x_callV C (c_X5_part1 hs) kv_X5_part kl_X5_34 dX5_ofSpeaker_7 mput_0 rfl rfl rfl rfl (Nat.le_of_ble_eq_true rfl) (Nat.le_of_ble_eq_true rfl) (Nat.le_of_ble_eq_true rfl) (Nat.le_of_ble_eq_true rfl) (Nat.le_of_ble_eq_true rfl) ?_
    refine x_goto C 58 dX5_ofSpeaker_10 (by decide) ?_
    exact x_zret C Z dX5_ofSpeaker_58 rfl (Nat.le_of_ble_eq_true rfl) (Nat.le_of_ble_eq_true rfl) rfl rfl rfl
  · refine xM_of [some (.ref _), some (.int _), some (.int _)] (by decide +kernel) (Nat.le_of_ble_eq_true rfl) rfl (fun k0 C Z => ?_)
    refine x_iload_n C dX5_ofSpeaker_0 rfl ?_
    refine x_if_ne C 13 dX5_ofSpeaker_1 (by decide) (fun _ => ?_) (fun h => absurd h (by decide))
    refine x_iload_n C dX5_ofSpeaker_13 rfl ?_
    refine x_iconst (v := 1) C dX5_ofSpeaker_14 (by decide) ?_
    refine x_ic_ne C 26 dX5_ofSpeaker_15 (by decide) (fun h => absurd (by decide) h) (fun _ => ?_)
    refine x_aload_n C dX5_ofSpeaker_18 rfl ?_
    refine x_iload_n C dX5_ofSpeaker_19 rfl ?_
    refine x_callV C (c_X5_learns hs) kv_X5_learns kl_X5_50 dX5_ofSpeaker_20 mput_0 rfl rfl rfl rfl (Nat.le_of_ble_eq_true rfl) (Nat.le_of_ble_eq_true rfl) (Nat.le_of_ble_eq_true rfl) (Nat.le_of_ble_eq_true rfl) (Nat.le_of_ble_eq_true rfl) ?_
    refine x_goto C 58 dX5_ofSpeaker_23 (by decide) ?_
    exact x_zret C Z dX5_ofSpeaker_58 rfl (Nat.le_of_ble_eq_true rfl) (Nat.le_of_ble_eq_true rfl) rfl rfl rfl
  · refine xM_of [some (.ref _), some (.int _), some (.int _)] (by decide +kernel) (Nat.le_of_ble_eq_true rfl) rfl (fun k0 C Z => ?_)
    refine x_iload_n C dX5_ofSpeaker_0 rfl ?_
    refine x_if_ne C 13 dX5_ofSpeaker_1 (by decide) (fun _ => ?_) (fun h => absurd h (by decide))
    refine x_iload_n C dX5_ofSpeaker_13 rfl ?_
    refine x_iconst (v := 1) C dX5_ofSpeaker_14 (by decide) ?_
    refine x_ic_ne C 26 dX5_ofSpeaker_15 (by decide) (fun _ => ?_) (fun h => absurd h (by decide))
    refine x_iload_n C dX5_ofSpeaker_26 rfl ?_
    refine x_iconst (v := 2) C dX5_ofSpeaker_27 (by decide) ?_
    refine x_ic_ne C 39 dX5_ofSpeaker_28 (by decide) (fun h => absurd (by decide) h) (fun _ => ?_)
    refine x_aload_n C dX5_ofSpeaker_31 rfl ?_
    refine x_iload_n C dX5_ofSpeaker_32 rfl ?_
    refine x_callV C (c_X5_wordsOf hs) kv_X5_wordsOf kl_X5_128 dX5_ofSpeaker_33 mput_0 rfl rfl rfl rfl (Nat.le_of_ble_eq_true rfl) (Nat.le_of_ble_eq_true rfl) (Nat.le_of_ble_eq_true rfl) (Nat.le_of_ble_eq_true rfl) (Nat.le_of_ble_eq_true rfl) ?_
    refine x_goto C 58 dX5_ofSpeaker_36 (by decide) ?_
    exact x_zret C Z dX5_ofSpeaker_58 rfl (Nat.le_of_ble_eq_true rfl) (Nat.le_of_ble_eq_true rfl) rfl rfl rfl
  · refine xM_of [some (.ref _), some (.int _), some (.int _)] (by decide +kernel) (Nat.le_of_ble_eq_true rfl) rfl (fun k0 C Z => ?_)
    refine x_iload_n C dX5_ofSpeaker_0 rfl ?_
    refine x_if_ne C 13 dX5_ofSpeaker_1 (by decide) (fun _ => ?_) (fun h => absurd h (by decide))
    refine x_iload_n C dX5_ofSpeaker_13 rfl ?_
    refine x_iconst (v := 1) C dX5_ofSpeaker_14 (by decide) ?_
    refine x_ic_ne C 26 dX5_ofSpeaker_15 (by decide) (fun _ => ?_) (fun h => absurd h (by decide))
    refine x_iload_n C dX5_ofSpeaker_26 rfl ?_
    refine x_iconst (v := 2) C dX5_ofSpeaker_27 (by decide) ?_
    refine x_ic_ne C 39 dX5_ofSpeaker_28 (by decide) (fun _ => ?_) (fun h => absurd h (by decide))
    refine x_iload_n C dX5_ofSpeaker_39 rfl ?_
    refine x_iconst (v := 3) C dX5_ofSpeaker_40 (by decide) ?_
    refine x_ic_ne C 52 dX5_ofSpeaker_41 (by decide) (fun h => absurd (by decide) h) (fun _ => ?_)
    refine x_aload_n C dX5_ofSpeaker_44 rfl ?_
    refine x_iload_n C dX5_ofSpeaker_45 rfl ?_
    refine x_callV C (c_X5_confusions hs) kv_X5_confusions kl_X5_131 dX5_ofSpeaker_46 mput_0 rfl rfl rfl rfl (Nat.le_of_ble_eq_true rfl) (Nat.le_of_ble_eq_true rfl) (Nat.le_of_ble_eq_true rfl) (Nat.le_of_ble_eq_true rfl) (Nat.le_of_ble_eq_true rfl) ?_
    refine x_goto C 58 dX5_ofSpeaker_49 (by decide) ?_
    exact x_zret C Z dX5_ofSpeaker_58 rfl (Nat.le_of_ble_eq_true rfl) (Nat.le_of_ble_eq_true rfl) rfl rfl rfl
  · refine xM_of [some (.ref _), some (.int _), some (.int _)] (by decide +kernel) (Nat.le_of_ble_eq_true rfl) rfl (fun k0 C Z => ?_)
    refine x_iload_n C dX5_ofSpeaker_0 rfl ?_
    refine x_if_ne C 13 dX5_ofSpeaker_1 (by decide) (fun _ => ?_) (fun h => absurd h (by decide))
    refine x_iload_n C dX5_ofSpeaker_13 rfl ?_
    refine x_iconst (v := 1) C dX5_ofSpeaker_14 (by decide) ?_
    refine x_ic_ne C 26 dX5_ofSpeaker_15 (by decide) (fun _ => ?_) (fun h => absurd h (by decide))
    refine x_iload_n C dX5_ofSpeaker_26 rfl ?_
    refine x_iconst (v := 2) C dX5_ofSpeaker_27 (by decide) ?_
    refine x_ic_ne C 39 dX5_ofSpeaker_28 (by decide) (fun _ => ?_) (fun h => absurd h (by decide))
    refine x_iload_n C dX5_ofSpeaker_39 rfl ?_
    refine x_iconst (v := 3) C dX5_ofSpeaker_40 (by decide) ?_
    refine x_ic_ne C 52 dX5_ofSpeaker_41 (by decide) (fun _ => ?_) (fun h => absurd h (by decide))
    refine x_aload_n C dX5_ofSpeaker_52 rfl ?_
    refine x_iload_n C dX5_ofSpeaker_53 rfl ?_
    refine x_iconst (v := 2) C dX5_ofSpeaker_54 (by decide) ?_
    refine x_callV C (c_X5_part2 hs) kv_X5_part kl_X5_34 dX5_ofSpeaker_55 mput_0 rfl rfl rfl rfl (Nat.le_of_ble_eq_true rfl) (Nat.le_of_ble_eq_true rfl) (Nat.le_of_ble_eq_true rfl) (Nat.le_of_ble_eq_true rfl) (Nat.le_of_ble_eq_true rfl) ?_
    exact x_zret C Z dX5_ofSpeaker_58 rfl (Nat.le_of_ble_eq_true rfl) (Nat.le_of_ble_eq_true rfl) rfl rfl rfl
set_option maxRecDepth 100000 in
set_option maxHeartbeats 1000000 in
theorem c_X5_allWeights {l : Launch} {E : xEnv} {B N : Nat} {σ : Sg} {M : Nat} {U : Vs} {kp ho tx sc : Fn} : xM l yX5_allWeights cX5_allWeights 3 (some .int) 0 0 0 0 E B [.ref M] N (mput E σ M U kp ho tx sc) N (mput E σ M U kp ho tx sc) (some (.int (smL (fun q => flat U (33 + q)) 672))) := by
  refine xM_of [some (.ref _), none, none] (by decide +kernel) (Nat.le_of_ble_eq_true rfl) rfl (fun k0 C Z => ?_)
  have hl : ∀ i, i ≤ 672 → xX k0 N 0 0 (mput E σ M U kp ho tx sc) 5 [some (.ref M), some (.int (smL (fun q => flat U (33 + q)) i)), some (.int (nI (33 + i)))] [] := by
    refine x_for 672 ?_ ?_
    · refine x_iload_n C dX5_allWeights_5 rfl ?_
      refine x_sipush (v := 705) C dX5_allWeights_6 (by decide) ?_
      refine x_ic_ge C 27 dX5_allWeights_9 (by decide) (fun _ => ?_) (fun h => absurd (nI_le (a := 705) (by omega) (by omega)) h)
      refine x_iload_n C dX5_allWeights_27 rfl ?_
      exact x_zret C Z dX5_allWeights_28 rfl (Nat.le_of_ble_eq_true rfl) (Nat.le_of_ble_eq_true rfl) rfl rfl rfl
    · intro i hi ih
      refine x_iload_n C dX5_allWeights_5 rfl ?_
      refine x_sipush (v := 705) C dX5_allWeights_6 (by decide) ?_
      refine x_ic_ge C 27 dX5_allWeights_9 (by decide) (fun h => absurd h (nI_ge (b := 705) (show 33 + i < 705 by omega) (by omega))) (fun _ => ?_)
      refine x_iload_n C dX5_allWeights_12 rfl ?_
      refine x_aload_n C dX5_allWeights_13 rfl ?_
      refine x_get C kf_X5_7 mput_0 rfl dX5_allWeights_14 ?_
      refine x_iload_n C dX5_allWeights_17 rfl ?_
      refine x_iald2 C mput_1 rfl (by omega) (by decide) dX5_allWeights_18 ?_
      refine x_iadd C dX5_allWeights_19 ?_
      refine x_istore_n C dX5_allWeights_20 (by decide) rfl ?_
      refine x_iinc C dX5_allWeights_21 rfl (nI_inc _) (by decide) rfl ?_
      refine x_goto C 5 dX5_allWeights_24 (by decide) ?_
      refine xX.cl ih rfl (And.intro rfl (And.intro rfl (And.intro rfl trivial))) rfl
  refine x_iconst (v := 0) C dX5_allWeights_0 (by decide) ?_
  refine x_istore_n C dX5_allWeights_1 (by decide) rfl ?_
  refine x_bipush (v := 33) C dX5_allWeights_2 (by decide) ?_
  refine x_istore_n C dX5_allWeights_4 (by decide) rfl ?_
  refine xX.cl (hl 0 (by omega)) rfl (And.intro rfl (And.intro rfl (And.intro rfl trivial))) rfl
set_option maxRecDepth 100000 in
set_option maxHeartbeats 1000000 in
theorem c_X5_countOf {l : Launch} {E : xEnv} {B N : Nat} {σ : Sg} {M : Nat} {U : Vs} {kp ho tx sc : Fn} {j : Nat} (hj : j < 7) : xM l yX5_countOf cX5_countOf 2 (some .int) 3 65 0 0 E B [.ref M, .int (nI j)] N (mput E σ M U kp ho tx sc) N (mput E σ M U kp ho tx sc) (some (.int (muS U j))) := by
  rcases (show j = 0 ∨ j = 1 ∨ j = 2 ∨ j = 3 ∨ j = 4 ∨ j = 5 ∨ j = 6 by omega) with rfl | rfl | rfl | rfl | rfl | rfl | rfl
  · refine xM_of [some (.ref _), some (.int _)] (by decide +kernel) (Nat.le_of_ble_eq_true rfl) rfl (fun k0 C Z => ?_)
    refine x_iload_n C dX5_countOf_0 rfl ?_
    refine x_lkp (off := 27) C 28 dX5_countOf_1 (by decide) rfl (by decide) ?_
    refine x_aload_n C dX5_countOf_28 rfl ?_
    refine x_callV C c_X5_speakers kv_X5_speakers kl_X5_92 dX5_countOf_29 mput_0 rfl rfl rfl rfl (Nat.le_of_ble_eq_true rfl) (Nat.le_of_ble_eq_true rfl) (Nat.le_of_ble_eq_true rfl) (Nat.le_of_ble_eq_true rfl) (Nat.le_of_ble_eq_true rfl) ?_
    exact x_zret C Z dX5_countOf_32 rfl (Nat.le_of_ble_eq_true rfl) (Nat.le_of_ble_eq_true rfl) rfl rfl rfl
  · refine xM_of [some (.ref _), some (.int _)] (by decide +kernel) (Nat.le_of_ble_eq_true rfl) rfl (fun k0 C Z => ?_)
    refine x_iload_n C dX5_countOf_0 rfl ?_
    refine x_lkp (off := 37) C 38 dX5_countOf_1 (by decide) rfl (by decide) ?_
    refine x_aload_n C dX5_countOf_38 rfl ?_
    refine x_get C kf_X5_7 mput_0 rfl dX5_countOf_39 ?_
    refine x_iconst (v := 0) C dX5_countOf_42 (by decide) ?_
    refine x_iload_n C dX5_countOf_43 rfl ?_
    refine x_iadd C dX5_countOf_44 ?_
    refine x_iconst (v := 1) C dX5_countOf_45 (by decide) ?_
    refine x_isub C dX5_countOf_46 ?_
    refine x_iald2 C mput_1 (ix_c 1 (by decide)) (by decide) (by decide) dX5_countOf_47 ?_
    exact x_zret C Z dX5_countOf_48 rfl (Nat.le_of_ble_eq_true rfl) (Nat.le_of_ble_eq_true rfl) rfl rfl (fl_9 (by decide))
  · refine xM_of [some (.ref _), some (.int _)] (by decide +kernel) (Nat.le_of_ble_eq_true rfl) rfl (fun k0 C Z => ?_)
    refine x_iload_n C dX5_countOf_0 rfl ?_
    refine x_lkp (off := 37) C 38 dX5_countOf_1 (by decide) rfl (by decide) ?_
    refine x_aload_n C dX5_countOf_38 rfl ?_
    refine x_get C kf_X5_7 mput_0 rfl dX5_countOf_39 ?_
    refine x_iconst (v := 0) C dX5_countOf_42 (by decide) ?_
    refine x_iload_n C dX5_countOf_43 rfl ?_
    refine x_iadd C dX5_countOf_44 ?_
    refine x_iconst (v := 1) C dX5_countOf_45 (by decide) ?_
    refine x_isub C dX5_countOf_46 ?_
    refine x_iald2 C mput_1 (ix_c 2 (by decide)) (by decide) (by decide) dX5_countOf_47 ?_
    exact x_zret C Z dX5_countOf_48 rfl (Nat.le_of_ble_eq_true rfl) (Nat.le_of_ble_eq_true rfl) rfl rfl (fl_9 (by decide))
  · refine xM_of [some (.ref _), some (.int _)] (by decide +kernel) (Nat.le_of_ble_eq_true rfl) rfl (fun k0 C Z => ?_)
    refine x_iload_n C dX5_countOf_0 rfl ?_
    refine x_lkp (off := 37) C 38 dX5_countOf_1 (by decide) rfl (by decide) ?_
    refine x_aload_n C dX5_countOf_38 rfl ?_
    refine x_get C kf_X5_7 mput_0 rfl dX5_countOf_39 ?_
    refine x_iconst (v := 0) C dX5_countOf_42 (by decide) ?_
    refine x_iload_n C dX5_countOf_43 rfl ?_
    refine x_iadd C dX5_countOf_44 ?_
    refine x_iconst (v := 1) C dX5_countOf_45 (by decide) ?_
    refine x_isub C dX5_countOf_46 ?_
    refine x_iald2 C mput_1 (ix_c 3 (by decide)) (by decide) (by decide) dX5_countOf_47 ?_
    exact x_zret C Z dX5_countOf_48 rfl (Nat.le_of_ble_eq_true rfl) (Nat.le_of_ble_eq_true rfl) rfl rfl (fl_9 (by decide))
  · refine xM_of [some (.ref _), some (.int _)] (by decide +kernel) (Nat.le_of_ble_eq_true rfl) rfl (fun k0 C Z => ?_)
    refine x_iload_n C dX5_countOf_0 rfl ?_
    refine x_lkp (off := 37) C 38 dX5_countOf_1 (by decide) rfl (by decide) ?_
    refine x_aload_n C dX5_countOf_38 rfl ?_
    refine x_get C kf_X5_7 mput_0 rfl dX5_countOf_39 ?_
    refine x_iconst (v := 0) C dX5_countOf_42 (by decide) ?_
    refine x_iload_n C dX5_countOf_43 rfl ?_
    refine x_iadd C dX5_countOf_44 ?_
    refine x_iconst (v := 1) C dX5_countOf_45 (by decide) ?_
    refine x_isub C dX5_countOf_46 ?_
    refine x_iald2 C mput_1 (ix_c 4 (by decide)) (by decide) (by decide) dX5_countOf_47 ?_
    exact x_zret C Z dX5_countOf_48 rfl (Nat.le_of_ble_eq_true rfl) (Nat.le_of_ble_eq_true rfl) rfl rfl (fl_9 (by decide))
  · refine xM_of [some (.ref _), some (.int _)] (by decide +kernel) (Nat.le_of_ble_eq_true rfl) rfl (fun k0 C Z => ?_)
    refine x_iload_n C dX5_countOf_0 rfl ?_
    refine x_lkp (off := 37) C 38 dX5_countOf_1 (by decide) rfl (by decide) ?_
    refine x_aload_n C dX5_countOf_38 rfl ?_
    refine x_get C kf_X5_7 mput_0 rfl dX5_countOf_39 ?_
    refine x_iconst (v := 0) C dX5_countOf_42 (by decide) ?_
    refine x_iload_n C dX5_countOf_43 rfl ?_
    refine x_iadd C dX5_countOf_44 ?_
    refine x_iconst (v := 1) C dX5_countOf_45 (by decide) ?_
    refine x_isub C dX5_countOf_46 ?_
    refine x_iald2 C mput_1 (ix_c 5 (by decide)) (by decide) (by decide) dX5_countOf_47 ?_
    exact x_zret C Z dX5_countOf_48 rfl (Nat.le_of_ble_eq_true rfl) (Nat.le_of_ble_eq_true rfl) rfl rfl (fl_9 (by decide))
  · refine xM_of [some (.ref _), some (.int _)] (by decide +kernel) (Nat.le_of_ble_eq_true rfl) rfl (fun k0 C Z => ?_)
    refine x_iload_n C dX5_countOf_0 rfl ?_
    refine x_lkp (off := 32) C 33 dX5_countOf_1 (by decide) rfl (by decide) ?_
    refine x_aload_n C dX5_countOf_33 rfl ?_
    refine x_callV C c_X5_allWeights kv_X5_allWeights kl_X5_122 dX5_countOf_34 mput_0 rfl rfl rfl rfl (Nat.le_of_ble_eq_true rfl) (Nat.le_of_ble_eq_true rfl) (Nat.le_of_ble_eq_true rfl) (Nat.le_of_ble_eq_true rfl) (Nat.le_of_ble_eq_true rfl) ?_
    exact x_zret C Z dX5_countOf_37 rfl (Nat.le_of_ble_eq_true rfl) (Nat.le_of_ble_eq_true rfl) rfl rfl rfl
set_option maxRecDepth 100000 in
set_option maxHeartbeats 1000000 in
theorem c_X5_agreements {l : Launch} {E : xEnv} {B N : Nat} {σ : Sg} {M : Nat} {U : Vs} {kp ho tx sc : Fn} {a b : Nat} (ha : a < 8) (hb : b < 8) : xM l yX5_agreements cX5_agreements 5 (some .int) 3 71 0 0 E B [.ref M, .int (nI a), .int (nI b)] N (mput E σ M U kp ho tx sc) N (mput E σ M U kp ho tx sc) (some (.int (nI (agN U a b 6)))) := by
  refine xM_of [some (.ref _), some (.int _), some (.int _), none, none] (by decide +kernel) (Nat.le_of_ble_eq_true rfl) rfl (fun k0 C Z => ?_)
  have hl : ∀ i, i ≤ 6 → xX k0 N 0 0 (mput E σ M U kp ho tx sc) 5 [some (.ref M), some (.int (nI a)), some (.int (nI b)), some (.int (nI (agN U a b i))), some (.int (nI i))] [] := by
    refine x_for 6 ?_ ?_
    · refine x_iload C dX5_agreements_5 rfl ?_
      refine x_bipush (v := 6) C dX5_agreements_7 (by decide) ?_
      refine x_ic_ge C 55 dX5_agreements_9 (by decide) (fun _ => ?_) (fun h => absurd (nI_le (a := 6) (Nat.le_refl _) (by omega)) h)
      refine x_iload_n C dX5_agreements_55 rfl ?_
      exact x_zret C Z dX5_agreements_56 rfl (Nat.le_of_ble_eq_true rfl) (Nat.le_of_ble_eq_true rfl) rfl rfl rfl
    · intro i hi ih
      refine x_iload C dX5_agreements_5 rfl ?_
      refine x_bipush (v := 6) C dX5_agreements_7 (by decide) ?_
      refine x_ic_ge C 55 dX5_agreements_9 (by decide) (fun h => absurd h (nI_ge (b := 6) hi (by omega))) (fun _ => ?_)
      refine x_iload_n C dX5_agreements_12 rfl ?_
      refine x_aload_n C dX5_agreements_13 rfl ?_
      refine x_iload_n C dX5_agreements_14 rfl ?_
      refine x_iload C dX5_agreements_15 rfl ?_
      refine x_callV C (c_X5_wordFor ha hi) kv_X5_wordFor kl_X5_58 dX5_agreements_17 mput_0 rfl rfl rfl rfl (Nat.le_of_ble_eq_true rfl) (Nat.le_of_ble_eq_true rfl) (Nat.le_of_ble_eq_true rfl) (Nat.le_of_ble_eq_true rfl) (Nat.le_of_ble_eq_true rfl) ?_
      refine x_bipush (v := (-6)) C dX5_agreements_20 (by decide) ?_
      refine x_ic_eq C 46 dX5_agreements_22 (by decide) (fun h22 => ?_) (fun h22 => ?_)
      · refine x_iconst (v := 0) C dX5_agreements_46 (by decide) ?_
        refine x_iadd C dX5_agreements_47 ?_
        refine x_istore_n C dX5_agreements_48 (by decide) rfl ?_
        refine x_iinc C dX5_agreements_49 rfl (nI_inc _) (by decide) rfl ?_
        refine x_goto C 5 dX5_agreements_52 (by decide) ?_
        refine xX.cl ih rfl (And.intro rfl (And.intro rfl (And.intro rfl (And.intro (congrArg (fun z => some (some (Value.int z))) (ad_f (fun z => z.1 (wfS_6.mp h22)) _)) (And.intro rfl trivial))))) rfl
      · refine x_aload_n C dX5_agreements_25 rfl ?_
        refine x_iload_n C dX5_agreements_26 rfl ?_
        refine x_iload C dX5_agreements_27 rfl ?_
        refine x_callV C (c_X5_wordFor ha hi) kv_X5_wordFor kl_X5_58 dX5_agreements_29 mput_0 rfl rfl rfl rfl (Nat.le_of_ble_eq_true rfl) (Nat.le_of_ble_eq_true rfl) (Nat.le_of_ble_eq_true rfl) (Nat.le_of_ble_eq_true rfl) (Nat.le_of_ble_eq_true rfl) ?_
        refine x_aload_n C dX5_agreements_32 rfl ?_
        refine x_iload_n C dX5_agreements_33 rfl ?_
        refine x_iload C dX5_agreements_34 rfl ?_
        refine x_callV C (c_X5_wordFor hb hi) kv_X5_wordFor kl_X5_58 dX5_agreements_36 mput_0 rfl rfl rfl rfl (Nat.le_of_ble_eq_true rfl) (Nat.le_of_ble_eq_true rfl) (Nat.le_of_ble_eq_true rfl) (Nat.le_of_ble_eq_true rfl) (Nat.le_of_ble_eq_true rfl) ?_
        refine x_ic_ne C 46 dX5_agreements_39 (by decide) (fun h39 => ?_) (fun h39 => ?_)
        · refine x_iconst (v := 0) C dX5_agreements_46 (by decide) ?_
          refine x_iadd C dX5_agreements_47 ?_
          refine x_istore_n C dX5_agreements_48 (by decide) rfl ?_
          refine x_iinc C dX5_agreements_49 rfl (nI_inc _) (by decide) rfl ?_
          refine x_goto C 5 dX5_agreements_52 (by decide) ?_
          refine xX.cl ih rfl (And.intro rfl (And.intro rfl (And.intro rfl (And.intro (congrArg (fun z => some (some (Value.int z))) (ad_f (fun z => h39 (congrArg oI z.2)) _)) (And.intro rfl trivial))))) rfl
        · refine x_iconst (v := 1) C dX5_agreements_42 (by decide) ?_
          refine x_goto C 47 dX5_agreements_43 (by decide) ?_
          refine x_iadd C dX5_agreements_47 ?_
          refine x_istore_n C dX5_agreements_48 (by decide) rfl ?_
          refine x_iinc C dX5_agreements_49 rfl (nI_inc _) (by decide) rfl ?_
          refine x_goto C 5 dX5_agreements_52 (by decide) ?_
          refine xX.cl ih rfl (And.intro rfl (And.intro rfl (And.intro rfl (And.intro (congrArg (fun z => some (some (Value.int z))) (ad_t ⟨fun z => h22 (wfS_6.mpr z), wfS_ij.mp h39⟩ _)) (And.intro rfl trivial))))) rfl
  refine x_iconst (v := 0) C dX5_agreements_0 (by decide) ?_
  refine x_istore_n C dX5_agreements_1 (by decide) rfl ?_
  refine x_iconst (v := 0) C dX5_agreements_2 (by decide) ?_
  refine x_istore C dX5_agreements_3 (by decide) rfl ?_
  refine xX.cl (hl 0 (by omega)) rfl (And.intro rfl (And.intro rfl (And.intro rfl (And.intro rfl (And.intro rfl trivial))))) rfl
set_option maxRecDepth 100000 in
set_option maxHeartbeats 1000000 in
theorem c_X5_understood {l : Launch} {E : xEnv} {B N : Nat} {σ : Sg} {M : Nat} {U : Vs} {kp ho tx sc : Fn} {a b : Nat} (ha : a < 8) (hb : b < 8) : xM l yX5_understood cX5_understood 5 (some .int) 3 71 0 0 E B [.ref M, .int (nI a), .int (nI b)] N (mput E σ M U kp ho tx sc) N (mput E σ M U kp ho tx sc) (some (.int (nI (unN U a b 6)))) := by
  refine xM_of [some (.ref _), some (.int _), some (.int _), none, none] (by decide +kernel) (Nat.le_of_ble_eq_true rfl) rfl (fun k0 C Z => ?_)
  have hl : ∀ i, i ≤ 6 → xX k0 N 0 0 (mput E σ M U kp ho tx sc) 5 [some (.ref M), some (.int (nI a)), some (.int (nI b)), some (.int (nI (unN U a b i))), some (.int (nI i))] [] := by
    refine x_for 6 ?_ ?_
    · refine x_iload C dX5_understood_5 rfl ?_
      refine x_bipush (v := 6) C dX5_understood_7 (by decide) ?_
      refine x_ic_ge C 55 dX5_understood_9 (by decide) (fun _ => ?_) (fun h => absurd (nI_le (a := 6) (Nat.le_refl _) (by omega)) h)
      refine x_iload_n C dX5_understood_55 rfl ?_
      exact x_zret C Z dX5_understood_56 rfl (Nat.le_of_ble_eq_true rfl) (Nat.le_of_ble_eq_true rfl) rfl rfl rfl
    · intro i hi ih
      cases hq : wfS (U a) i with
      | none =>
        refine x_iload C dX5_understood_5 rfl ?_
        refine x_bipush (v := 6) C dX5_understood_7 (by decide) ?_
        refine x_ic_ge C 55 dX5_understood_9 (by decide) (fun h => absurd h (nI_ge (b := 6) hi (by omega))) (fun _ => ?_)
        refine x_iload_n C dX5_understood_12 rfl ?_
        refine x_aload_n C dX5_understood_13 rfl ?_
        refine x_iload_n C dX5_understood_14 rfl ?_
        refine x_iload C dX5_understood_15 rfl ?_
        refine x_callV C (c_X5_wordFor_n ha hi hq) kv_X5_wordFor kl_X5_58 dX5_understood_17 mput_0 rfl rfl rfl rfl (Nat.le_of_ble_eq_true rfl) (Nat.le_of_ble_eq_true rfl) (Nat.le_of_ble_eq_true rfl) (Nat.le_of_ble_eq_true rfl) (Nat.le_of_ble_eq_true rfl) ?_
        refine x_bipush (v := (-6)) C dX5_understood_20 (by decide) ?_
        refine x_ic_eq C 46 dX5_understood_22 (by decide) (fun _ => ?_) (fun h => absurd rfl h)
        refine x_iconst (v := 0) C dX5_understood_46 (by decide) ?_
        refine x_iadd C dX5_understood_47 ?_
        refine x_istore_n C dX5_understood_48 (by decide) rfl ?_
        refine x_iinc C dX5_understood_49 rfl (nI_inc _) (by decide) rfl ?_
        refine x_goto C 5 dX5_understood_52 (by decide) ?_
        refine xX.cl ih rfl (And.intro rfl (And.intro rfl (And.intro rfl (And.intro (congrArg (fun z => some (some (Value.int z))) ((Int32.add_zero _).trans (congrArg nI (by rw [unN, unT_n hq]; rfl)))) (And.intro rfl trivial))))) rfl
      | some w =>
        have hw : w < 14 := wfS_in hq
        refine x_iload C dX5_understood_5 rfl ?_
        refine x_bipush (v := 6) C dX5_understood_7 (by decide) ?_
        refine x_ic_ge C 55 dX5_understood_9 (by decide) (fun h => absurd h (nI_ge (b := 6) hi (by omega))) (fun _ => ?_)
        refine x_iload_n C dX5_understood_12 rfl ?_
        refine x_aload_n C dX5_understood_13 rfl ?_
        refine x_iload_n C dX5_understood_14 rfl ?_
        refine x_iload C dX5_understood_15 rfl ?_
        refine x_callV C (c_X5_wordFor_s ha hi hq) kv_X5_wordFor kl_X5_58 dX5_understood_17 mput_0 rfl rfl rfl rfl (Nat.le_of_ble_eq_true rfl) (Nat.le_of_ble_eq_true rfl) (Nat.le_of_ble_eq_true rfl) (Nat.le_of_ble_eq_true rfl) (Nat.le_of_ble_eq_true rfl) ?_
        refine x_bipush (v := (-6)) C dX5_understood_20 (by decide) ?_
        refine x_ic_eq C 46 dX5_understood_22 (by decide) (fun h => absurd h (nI_ne6 (by omega))) (fun _ => ?_)
        refine x_aload_n C dX5_understood_25 rfl ?_
        refine x_iload_n C dX5_understood_26 rfl ?_
        refine x_aload_n C dX5_understood_27 rfl ?_
        refine x_iload_n C dX5_understood_28 rfl ?_
        refine x_iload C dX5_understood_29 rfl ?_
        refine x_callV C (c_X5_wordFor_s ha hi hq) kv_X5_wordFor kl_X5_58 dX5_understood_31 mput_0 rfl rfl rfl rfl (Nat.le_of_ble_eq_true rfl) (Nat.le_of_ble_eq_true rfl) (Nat.le_of_ble_eq_true rfl) (Nat.le_of_ble_eq_true rfl) (Nat.le_of_ble_eq_true rfl) ?_
        refine x_callV C (c_X5_heardAs hb hw) kv_X5_heardAs kl_X5_67 dX5_understood_34 mput_0 rfl rfl rfl rfl (Nat.le_of_ble_eq_true rfl) (Nat.le_of_ble_eq_true rfl) (Nat.le_of_ble_eq_true rfl) (Nat.le_of_ble_eq_true rfl) (Nat.le_of_ble_eq_true rfl) ?_
        refine x_iload C dX5_understood_37 rfl ?_
        refine x_ic_ne C 46 dX5_understood_39 (by decide) (fun h39 => ?_) (fun h39 => ?_)
        · refine x_iconst (v := 0) C dX5_understood_46 (by decide) ?_
          refine x_iadd C dX5_understood_47 ?_
          refine x_istore_n C dX5_understood_48 (by decide) rfl ?_
          refine x_iinc C dX5_understood_49 rfl (nI_inc _) (by decide) rfl ?_
          refine x_goto C 5 dX5_understood_52 (by decide) ?_
          refine xX.cl ih rfl (And.intro rfl (And.intro rfl (And.intro rfl (And.intro (congrArg (fun z => some (some (Value.int z))) ((Int32.add_zero _).trans (congrArg nI (by rw [unN, unT_f hq (fun z => h39 (congrArg oI z))]; rfl)))) (And.intro rfl trivial))))) rfl
        · refine x_iconst (v := 1) C dX5_understood_42 (by decide) ?_
          refine x_goto C 47 dX5_understood_43 (by decide) ?_
          refine x_iadd C dX5_understood_47 ?_
          refine x_istore_n C dX5_understood_48 (by decide) rfl ?_
          refine x_iinc C dX5_understood_49 rfl (nI_inc _) (by decide) rfl ?_
          refine x_goto C 5 dX5_understood_52 (by decide) ?_
          refine xX.cl ih rfl (And.intro rfl (And.intro rfl (And.intro rfl (And.intro (congrArg (fun z => some (some (Value.int z))) ((nI_1 _).trans (congrArg nI (by rw [unN, unT_t hq ((haS_is (by omega)).mp h39)])))) (And.intro rfl trivial))))) rfl
  refine x_iconst (v := 0) C dX5_understood_0 (by decide) ?_
  refine x_istore_n C dX5_understood_1 (by decide) rfl ?_
  refine x_iconst (v := 0) C dX5_understood_2 (by decide) ?_
  refine x_istore C dX5_understood_3 (by decide) rfl ?_
  refine xX.cl (hl 0 (by omega)) rfl (And.intro rfl (And.intro rfl (And.intro rfl (And.intro rfl (And.intro rfl trivial))))) rfl
set_option maxRecDepth 100000 in
set_option maxHeartbeats 1000000 in
theorem c_X5_commonOf {l : Launch} {E : xEnv} {B N : Nat} {σ : Sg} {M : Nat} {U : Vs} {kp ho tx sc : Fn} {m : Nat} (hm : m < 6) : xM l yX5_commonOf cX5_commonOf 7 (some .int) 3 71 0 0 E B [.ref M, .int (nI m)] N (mput E σ M U kp ho tx sc) N (mput E σ M U kp ho tx sc) (some (.int (oI (cmS U m)))) := by
  refine xM_of [some (.ref _), some (.int _), none, none, none, none, none] (by decide +kernel) (Nat.le_of_ble_eq_true rfl) rfl (fun k0 C Z => ?_)
  have hl : ∀ i, i ≤ 14 → xX k0 N 0 0 (mput E σ M U kp ho tx sc) 8 [some (.ref M), some (.int (nI m)), some (.int (oI (wfL (fun w => nI (cuN U m w 8)) i).1)), some (.int (wfL (fun w => nI (cuN U m w 8)) i).2), some (.int (nI i)), none, none] [] := by
    refine x_for 14 ?_ ?_
    · refine x_iload C dX5_commonOf_8 rfl ?_
      refine x_bipush (v := 14) C dX5_commonOf_10 (by decide) ?_
      refine x_ic_ge C 97 dX5_commonOf_12 (by decide) (fun _ => ?_) (fun h => absurd (nI_le (a := 14) (Nat.le_refl _) (by omega)) h)
      refine x_iload_n C dX5_commonOf_97 rfl ?_
      exact x_zret C Z dX5_commonOf_98 rfl (Nat.le_of_ble_eq_true rfl) (Nat.le_of_ble_eq_true rfl) rfl rfl rfl
    · intro i hi14 ih
      have hl2 : ∀ s, s ≤ 8 → xX k0 N 0 0 (mput E σ M U kp ho tx sc) 21 [some (.ref M), some (.int (nI m)), some (.int (oI (wfL (fun w => nI (cuN U m w 8)) i).1)), some (.int (wfL (fun w => nI (cuN U m w 8)) i).2), some (.int (nI i)), some (.int (nI (cuN U m i s))), some (.int (nI s))] [] := by
        refine x_for 8 ?_ ?_
        · refine x_iload C dX5_commonOf_21 rfl ?_
          refine x_bipush (v := 8) C dX5_commonOf_23 (by decide) ?_
          refine x_ic_ge C 65 dX5_commonOf_25 (by decide) (fun _ => ?_) (fun h => absurd (nI_le (a := 8) (Nat.le_refl _) (by omega)) h)
          by_cases hv : (fun w => nI (cuN U m w 8)) i ≤ (wfL (fun w => nI (cuN U m w 8)) i).2
          · have hv2 := hv
            refine x_iload C dX5_commonOf_65 rfl ?_
            refine x_iload_n C dX5_commonOf_67 rfl ?_
            refine x_ic_le C 76 dX5_commonOf_68 (by decide) (fun _ => ?_) (fun h => absurd hv h)
            refine x_iload_n C dX5_commonOf_76 rfl ?_
            refine x_istore_n C dX5_commonOf_77 (by decide) rfl ?_
            refine x_iload C dX5_commonOf_78 rfl ?_
            refine x_iload_n C dX5_commonOf_80 rfl ?_
            refine x_ic_le C 89 dX5_commonOf_81 (by decide) (fun _ => ?_) (fun h => absurd hv h)
            refine x_iload_n C dX5_commonOf_89 rfl ?_
            refine x_istore_n C dX5_commonOf_90 (by decide) rfl ?_
            refine x_iinc C dX5_commonOf_91 rfl (nI_inc _) (by decide) rfl ?_
            refine x_goto C 8 dX5_commonOf_94 (by decide) ?_
            refine xX.cl ih rfl (And.intro rfl (And.intro rfl (And.intro ?_ (And.intro ?_ (And.intro rfl trivial))))) rfl
            all_goals (rw [wfL, if_pos hv]; rfl)
          · have hv2 := hv
            refine x_iload C dX5_commonOf_65 rfl ?_
            refine x_iload_n C dX5_commonOf_67 rfl ?_
            refine x_ic_le C 76 dX5_commonOf_68 (by decide) (fun h => absurd h hv) (fun _ => ?_)
            refine x_iload C dX5_commonOf_71 rfl ?_
            refine x_goto C 77 dX5_commonOf_73 (by decide) ?_
            refine x_istore_n C dX5_commonOf_77 (by decide) rfl ?_
            refine x_iload C dX5_commonOf_78 rfl ?_
            refine x_iload_n C dX5_commonOf_80 rfl ?_
            refine x_ic_le C 89 dX5_commonOf_81 (by decide) (fun h => absurd h hv) (fun _ => ?_)
            refine x_iload C dX5_commonOf_84 rfl ?_
            refine x_goto C 90 dX5_commonOf_86 (by decide) ?_
            refine x_istore_n C dX5_commonOf_90 (by decide) rfl ?_
            refine x_iinc C dX5_commonOf_91 rfl (nI_inc _) (by decide) rfl ?_
            refine x_goto C 8 dX5_commonOf_94 (by decide) ?_
            refine xX.cl ih rfl (And.intro rfl (And.intro rfl (And.intro ?_ (And.intro ?_ (And.intro rfl trivial))))) rfl
            all_goals (rw [wfL, if_neg hv]; rfl)
        · intro s hs8 ih2
          refine x_iload C dX5_commonOf_21 rfl ?_
          refine x_bipush (v := 8) C dX5_commonOf_23 (by decide) ?_
          refine x_ic_ge C 65 dX5_commonOf_25 (by decide) (fun h => absurd h (nI_ge (b := 8) hs8 (by omega))) (fun _ => ?_)
          refine x_iload C dX5_commonOf_28 rfl ?_
          refine x_aload_n C dX5_commonOf_30 rfl ?_
          refine x_iload C dX5_commonOf_31 rfl ?_
          refine x_callV C (c_X5_isSpeaker_k hs8) kv_X5_isSpeaker kl_X5_45 dX5_commonOf_33 mput_0 rfl rfl rfl rfl (Nat.le_of_ble_eq_true rfl) (Nat.le_of_ble_eq_true rfl) (Nat.le_of_ble_eq_true rfl) (Nat.le_of_ble_eq_true rfl) (Nat.le_of_ble_eq_true rfl) ?_
          refine x_beq C 55 dX5_commonOf_36 (by decide) (fun h36 => ?_) (fun h36 => ?_)
          · refine x_iconst (v := 0) C dX5_commonOf_55 (by decide) ?_
            refine x_iadd C dX5_commonOf_56 ?_
            refine x_istore C dX5_commonOf_57 (by decide) rfl ?_
            refine x_iinc C dX5_commonOf_59 rfl (nI_inc _) (by decide) rfl ?_
            refine x_goto C 21 dX5_commonOf_62 (by decide) ?_
            refine xX.cl ih2 rfl (And.intro rfl (And.intro rfl (And.intro rfl (And.intro rfl (And.intro rfl (And.intro (congrArg (fun z => some (some (Value.int z))) (ad_f (fun z => h36 z.1) _)) (And.intro rfl trivial))))))) rfl
          · refine x_aload_n C dX5_commonOf_39 rfl ?_
            refine x_iload C dX5_commonOf_40 rfl ?_
            refine x_iload_n C dX5_commonOf_42 rfl ?_
            refine x_callV C (c_X5_wordFor hs8 hm) kv_X5_wordFor kl_X5_58 dX5_commonOf_43 mput_0 rfl rfl rfl rfl (Nat.le_of_ble_eq_true rfl) (Nat.le_of_ble_eq_true rfl) (Nat.le_of_ble_eq_true rfl) (Nat.le_of_ble_eq_true rfl) (Nat.le_of_ble_eq_true rfl) ?_
            refine x_iload C dX5_commonOf_46 rfl ?_
            refine x_ic_ne C 55 dX5_commonOf_48 (by decide) (fun h48 => ?_) (fun h48 => ?_)
            · refine x_iconst (v := 0) C dX5_commonOf_55 (by decide) ?_
              refine x_iadd C dX5_commonOf_56 ?_
              refine x_istore C dX5_commonOf_57 (by decide) rfl ?_
              refine x_iinc C dX5_commonOf_59 rfl (nI_inc _) (by decide) rfl ?_
              refine x_goto C 21 dX5_commonOf_62 (by decide) ?_
              refine xX.cl ih2 rfl (And.intro rfl (And.intro rfl (And.intro rfl (And.intro rfl (And.intro rfl (And.intro (congrArg (fun z => some (some (Value.int z))) (ad_f (fun z => h48 (congrArg oI z.2)) _)) (And.intro rfl trivial))))))) rfl
            · refine x_iconst (v := 1) C dX5_commonOf_51 (by decide) ?_
              refine x_goto C 56 dX5_commonOf_52 (by decide) ?_
              refine x_iadd C dX5_commonOf_56 ?_
              refine x_istore C dX5_commonOf_57 (by decide) rfl ?_
              refine x_iinc C dX5_commonOf_59 rfl (nI_inc _) (by decide) rfl ?_
              refine x_goto C 21 dX5_commonOf_62 (by decide) ?_
              refine xX.cl ih2 rfl (And.intro rfl (And.intro rfl (And.intro rfl (And.intro rfl (And.intro rfl (And.intro (congrArg (fun z => some (some (Value.int z))) (ad_t ⟨h36, (wfS_is (by omega)).mp h48⟩ _)) (And.intro rfl trivial))))))) rfl
      refine x_iload C dX5_commonOf_8 rfl ?_
      refine x_bipush (v := 14) C dX5_commonOf_10 (by decide) ?_
      refine x_ic_ge C 97 dX5_commonOf_12 (by decide) (fun h => absurd h (nI_ge (b := 14) hi14 (by omega))) (fun _ => ?_)
      refine x_iconst (v := 0) C dX5_commonOf_15 (by decide) ?_
      refine x_istore C dX5_commonOf_16 (by decide) rfl ?_
      refine x_iconst (v := 0) C dX5_commonOf_18 (by decide) ?_
      refine x_istore C dX5_commonOf_19 (by decide) rfl ?_
      refine xX.cl (hl2 0 (by omega)) rfl (And.intro rfl (And.intro rfl (And.intro rfl (And.intro rfl (And.intro rfl (And.intro rfl (And.intro rfl trivial))))))) rfl
  refine x_bipush (v := (-6)) C dX5_commonOf_0 (by decide) ?_
  refine x_istore_n C dX5_commonOf_2 (by decide) rfl ?_
  refine x_iconst (v := 0) C dX5_commonOf_3 (by decide) ?_
  refine x_istore_n C dX5_commonOf_4 (by decide) rfl ?_
  refine x_iconst (v := 0) C dX5_commonOf_5 (by decide) ?_
  refine x_istore C dX5_commonOf_6 (by decide) rfl ?_
  refine xX.cl (hl 0 (by omega)) rfl (And.intro rfl (And.intro rfl (And.intro rfl (And.intro rfl (And.intro rfl trivial))))) rfl
set_option maxRecDepth 100000 in
set_option maxHeartbeats 1000000 in
theorem c_X5_bestSayer_ok {l : Launch} {E : xEnv} {B N : Nat} {σ : Sg} {M : Nat} {U : Vs} {kp ho tx sc : Fn} {h : Nat} (hh : h < 8) (hp1 : U 10 h = 1) : xM l yX5_bestSayer cX5_bestSayer 4 (some .int) 4 95 0 0 E B [.ref M, .int (nI h)] N (mput E σ M U kp ho tx sc) N (mput E σ M U kp ho tx sc) (some (.int (oI (bsL U h 8)))) := by
  refine xM_of [some (.ref _), some (.int _), none, none] (by decide +kernel) (Nat.le_of_ble_eq_true rfl) rfl (fun k0 C Z => ?_)
  have hl : ∀ i, i ≤ 8 → xX k0 N 0 0 (mput E σ M U kp ho tx sc) 15 [some (.ref M), some (.int (nI h)), some (.int (oI (bsL U h i))), some (.int (nI i))] [] := by
    refine x_for 8 ?_ ?_
    · refine x_iload_n C dX5_bestSayer_15 rfl ?_
      refine x_bipush (v := 8) C dX5_bestSayer_16 (by decide) ?_
      refine x_ic_ge C 67 dX5_bestSayer_18 (by decide) (fun _ => ?_) (fun h => absurd (nI_le (a := 8) (Nat.le_refl _) (by omega)) h)
      refine x_iload_n C dX5_bestSayer_67 rfl ?_
      exact x_zret C Z dX5_bestSayer_68 rfl (Nat.le_of_ble_eq_true rfl) (Nat.le_of_ble_eq_true rfl) rfl rfl rfl
    · intro i hi ih
      cases hy : bsL U h i with
      | none =>
        show xX k0 N 0 0 (mput E σ M U kp ho tx sc) 15 [some (.ref M), some (.int (nI h)), some (.int (-6)), some (.int (nI i))] []
        refine x_iload_n C dX5_bestSayer_15 rfl ?_
        refine x_bipush (v := 8) C dX5_bestSayer_16 (by decide) ?_
        refine x_ic_ge C 67 dX5_bestSayer_18 (by decide) (fun h => absurd h (nI_ge (b := 8) hi (by omega))) (fun _ => ?_)
        refine x_aload_n C dX5_bestSayer_21 rfl ?_
        refine x_iload_n C dX5_bestSayer_22 rfl ?_
        refine x_callV C (c_X5_isSpeaker_k hi) kv_X5_isSpeaker kl_X5_45 dX5_bestSayer_23 mput_0 rfl rfl rfl rfl (Nat.le_of_ble_eq_true rfl) (Nat.le_of_ble_eq_true rfl) (Nat.le_of_ble_eq_true rfl) (Nat.le_of_ble_eq_true rfl) (Nat.le_of_ble_eq_true rfl) ?_
        refine x_beq C 59 dX5_bestSayer_26 (by decide) (fun h26 => ?_) (fun h26 => ?_)
        · refine x_iload_n C dX5_bestSayer_59 rfl ?_
          refine x_istore_n C dX5_bestSayer_60 (by decide) rfl ?_
          refine x_iinc C dX5_bestSayer_61 rfl (nI_inc _) (by decide) rfl ?_
          refine x_goto C 15 dX5_bestSayer_64 (by decide) ?_
          refine xX.cl ih rfl (And.intro rfl (And.intro rfl (And.intro ?_ (And.intro rfl trivial)))) rfl
          rw [bsL_sk (Or.inl h26), hy]; rfl
        · refine x_iload_n C dX5_bestSayer_29 rfl ?_
          refine x_iload_n C dX5_bestSayer_30 rfl ?_
          refine x_ic_eq C 59 dX5_bestSayer_31 (by decide) (fun h31 => ?_) (fun h31 => ?_)
          · refine x_iload_n C dX5_bestSayer_59 rfl ?_
            refine x_istore_n C dX5_bestSayer_60 (by decide) rfl ?_
            refine x_iinc C dX5_bestSayer_61 rfl (nI_inc _) (by decide) rfl ?_
            refine x_goto C 15 dX5_bestSayer_64 (by decide) ?_
            refine xX.cl ih rfl (And.intro rfl (And.intro rfl (And.intro ?_ (And.intro rfl trivial)))) rfl
            rw [bsL_sk (Or.inr ((nI_eq (by omega) (by omega)).mp h31)), hy]; rfl
          · refine x_iload_n C dX5_bestSayer_34 rfl ?_
            refine x_bipush (v := (-6)) C dX5_bestSayer_35 (by decide) ?_
            refine x_ic_eq C 55 dX5_bestSayer_37 (by decide) (fun _ => ?_) (fun h => absurd rfl h)
            refine x_iload_n C dX5_bestSayer_55 rfl ?_
            refine x_goto C 60 dX5_bestSayer_56 (by decide) ?_
            refine x_istore_n C dX5_bestSayer_60 (by decide) rfl ?_
            refine x_iinc C dX5_bestSayer_61 rfl (nI_inc _) (by decide) rfl ?_
            refine x_goto C 15 dX5_bestSayer_64 (by decide) ?_
            refine xX.cl ih rfl (And.intro rfl (And.intro rfl (And.intro ?_ (And.intro rfl trivial)))) rfl
            rw [bsL_n h26 (fun z => h31 (congrArg nI z)) hy]; rfl
      | some y =>
        show xX k0 N 0 0 (mput E σ M U kp ho tx sc) 15 [some (.ref M), some (.int (nI h)), some (.int (nI y)), some (.int (nI i))] []
        have hy8 : y < 8 := by have := bsL_in hy; omega
        refine x_iload_n C dX5_bestSayer_15 rfl ?_
        refine x_bipush (v := 8) C dX5_bestSayer_16 (by decide) ?_
        refine x_ic_ge C 67 dX5_bestSayer_18 (by decide) (fun h => absurd h (nI_ge (b := 8) hi (by omega))) (fun _ => ?_)
        refine x_aload_n C dX5_bestSayer_21 rfl ?_
        refine x_iload_n C dX5_bestSayer_22 rfl ?_
        refine x_callV C (c_X5_isSpeaker_k hi) kv_X5_isSpeaker kl_X5_45 dX5_bestSayer_23 mput_0 rfl rfl rfl rfl (Nat.le_of_ble_eq_true rfl) (Nat.le_of_ble_eq_true rfl) (Nat.le_of_ble_eq_true rfl) (Nat.le_of_ble_eq_true rfl) (Nat.le_of_ble_eq_true rfl) ?_
        refine x_beq C 59 dX5_bestSayer_26 (by decide) (fun h26 => ?_) (fun h26 => ?_)
        · refine x_iload_n C dX5_bestSayer_59 rfl ?_
          refine x_istore_n C dX5_bestSayer_60 (by decide) rfl ?_
          refine x_iinc C dX5_bestSayer_61 rfl (nI_inc _) (by decide) rfl ?_
          refine x_goto C 15 dX5_bestSayer_64 (by decide) ?_
          refine xX.cl ih rfl (And.intro rfl (And.intro rfl (And.intro ?_ (And.intro rfl trivial)))) rfl
          rw [bsL_sk (Or.inl h26), hy]; rfl
        · refine x_iload_n C dX5_bestSayer_29 rfl ?_
          refine x_iload_n C dX5_bestSayer_30 rfl ?_
          refine x_ic_eq C 59 dX5_bestSayer_31 (by decide) (fun h31 => ?_) (fun h31 => ?_)
          · refine x_iload_n C dX5_bestSayer_59 rfl ?_
            refine x_istore_n C dX5_bestSayer_60 (by decide) rfl ?_
            refine x_iinc C dX5_bestSayer_61 rfl (nI_inc _) (by decide) rfl ?_
            refine x_goto C 15 dX5_bestSayer_64 (by decide) ?_
            refine xX.cl ih rfl (And.intro rfl (And.intro rfl (And.intro ?_ (And.intro rfl trivial)))) rfl
            rw [bsL_sk (Or.inr ((nI_eq (by omega) (by omega)).mp h31)), hy]; rfl
          · refine x_iload_n C dX5_bestSayer_34 rfl ?_
            refine x_bipush (v := (-6)) C dX5_bestSayer_35 (by decide) ?_
            refine x_ic_eq C 55 dX5_bestSayer_37 (by decide) (fun h => absurd h (nI_ne6 (by omega))) (fun _ => ?_)
            refine x_aload_n C dX5_bestSayer_40 rfl ?_
            refine x_iload_n C dX5_bestSayer_41 rfl ?_
            refine x_iload_n C dX5_bestSayer_42 rfl ?_
            refine x_callV C (c_X5_understood hi hh) kv_X5_understood kl_X5_140 dX5_bestSayer_43 mput_0 rfl rfl rfl rfl (Nat.le_of_ble_eq_true rfl) (Nat.le_of_ble_eq_true rfl) (Nat.le_of_ble_eq_true rfl) (Nat.le_of_ble_eq_true rfl) (Nat.le_of_ble_eq_true rfl) ?_
            refine x_aload_n C dX5_bestSayer_46 rfl ?_
            refine x_iload_n C dX5_bestSayer_47 rfl ?_
            refine x_iload_n C dX5_bestSayer_48 rfl ?_
            refine x_callV C (c_X5_understood hy8 hh) kv_X5_understood kl_X5_140 dX5_bestSayer_49 mput_0 rfl rfl rfl rfl (Nat.le_of_ble_eq_true rfl) (Nat.le_of_ble_eq_true rfl) (Nat.le_of_ble_eq_true rfl) (Nat.le_of_ble_eq_true rfl) (Nat.le_of_ble_eq_true rfl) ?_
            refine x_ic_le C 59 dX5_bestSayer_52 (by decide) (fun h52 => ?_) (fun h52 => ?_)
            · refine x_iload_n C dX5_bestSayer_59 rfl ?_
              refine x_istore_n C dX5_bestSayer_60 (by decide) rfl ?_
              refine x_iinc C dX5_bestSayer_61 rfl (nI_inc _) (by decide) rfl ?_
              refine x_goto C 15 dX5_bestSayer_64 (by decide) ?_
              refine xX.cl ih rfl (And.intro rfl (And.intro rfl (And.intro ?_ (And.intro rfl trivial)))) rfl
              rw [bsL_k h26 (fun z => h31 (congrArg nI z)) hy ((nI_leI (by have := unN_le (V := U) (s := i) (h := h) 6; omega) (by have := unN_le (V := U) (s := y) (h := h) 6; omega)).mp h52)]; rfl
            · refine x_iload_n C dX5_bestSayer_55 rfl ?_
              refine x_goto C 60 dX5_bestSayer_56 (by decide) ?_
              refine x_istore_n C dX5_bestSayer_60 (by decide) rfl ?_
              refine x_iinc C dX5_bestSayer_61 rfl (nI_inc _) (by decide) rfl ?_
              refine x_goto C 15 dX5_bestSayer_64 (by decide) ?_
              refine xX.cl ih rfl (And.intro rfl (And.intro rfl (And.intro ?_ (And.intro rfl trivial)))) rfl
              rw [bsL_u h26 (fun z => h31 (congrArg nI z)) hy (fun z => h52 ((nI_leI (by have := unN_le (V := U) (s := i) (h := h) 6; omega) (by have := unN_le (V := U) (s := y) (h := h) 6; omega)).mpr z))]; rfl
  refine x_aload_n C dX5_bestSayer_0 rfl ?_
  refine x_iload_n C dX5_bestSayer_1 rfl ?_
  refine x_callV C (c_X5_isSpeaker_k hh) kv_X5_isSpeaker kl_X5_45 dX5_bestSayer_2 mput_0 rfl rfl rfl rfl (Nat.le_of_ble_eq_true rfl) (Nat.le_of_ble_eq_true rfl) (Nat.le_of_ble_eq_true rfl) (Nat.le_of_ble_eq_true rfl) (Nat.le_of_ble_eq_true rfl) ?_
  refine x_bne C 10 dX5_bestSayer_5 (by decide) (fun _ => ?_) (fun h => absurd hp1 h)
  refine x_bipush (v := (-6)) C dX5_bestSayer_10 (by decide) ?_
  refine x_istore_n C dX5_bestSayer_12 (by decide) rfl ?_
  refine x_iconst (v := 0) C dX5_bestSayer_13 (by decide) ?_
  refine x_istore_n C dX5_bestSayer_14 (by decide) rfl ?_
  refine xX.cl (hl 0 (by omega)) rfl (And.intro rfl (And.intro rfl (And.intro rfl (And.intro rfl trivial)))) rfl
set_option maxRecDepth 100000 in
set_option maxHeartbeats 1000000 in
theorem c_X5_bestSayer_no {l : Launch} {E : xEnv} {B N : Nat} {σ : Sg} {M : Nat} {U : Vs} {kp ho tx sc : Fn} {x : Int32} (hno : ¬ ∃ k, k < 8 ∧ x = nI k ∧ U 10 k = 1) : xM l yX5_bestSayer cX5_bestSayer 4 (some .int) 4 95 0 0 E B [.ref M, .int x] N (mput E σ M U kp ho tx sc) N (mput E σ M U kp ho tx sc) (some (.int (-1))) := by
  refine xM_of [some (.ref _), some (.int _), none, none] (by decide +kernel) (Nat.le_of_ble_eq_true rfl) rfl (fun k0 C Z => ?_)
  refine x_aload_n C dX5_bestSayer_0 rfl ?_
  refine x_iload_n C dX5_bestSayer_1 rfl ?_
  refine x_callV C (c_X5_isSpeaker_no hno) kv_X5_isSpeaker kl_X5_45 dX5_bestSayer_2 mput_0 rfl rfl rfl rfl (Nat.le_of_ble_eq_true rfl) (Nat.le_of_ble_eq_true rfl) (Nat.le_of_ble_eq_true rfl) (Nat.le_of_ble_eq_true rfl) (Nat.le_of_ble_eq_true rfl) ?_
  refine x_if_ne C 10 dX5_bestSayer_5 (by decide) (fun h => absurd rfl h) (fun _ => ?_)
  refine x_iconst (v := (-1)) C dX5_bestSayer_8 (by decide) ?_
  exact x_zret C Z dX5_bestSayer_9 rfl (Nat.le_of_ble_eq_true rfl) (Nat.le_of_ble_eq_true rfl) rfl rfl rfl
