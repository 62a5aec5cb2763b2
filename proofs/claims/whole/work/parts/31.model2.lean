/-! the model's search and learning -/
theorem ad_t {c : Prop} [Decidable c] (h : c) (n : Nat) : nI n + 1 = nI (n + if c then 1 else 0) := by
  rw [if_pos h]; exact nI_1 n
theorem ad_f {c : Prop} [Decidable c] (h : ¬ c) (n : Nat) : nI n + 0 = nI (n + if c then 1 else 0) := by
  rw [if_neg h]; exact Int32.add_zero _
theorem upd_u {f : Fn} {q : Nat} {x y : Int32} : upd (upd f q x) q y = upd f q y := by
  funext j
  unfold upd
  split <;> rfl
theorem cx_dn {P : Fn} {lo : Int32} {i q p : Nat} (hq : q < 8) (hi : i < q) (h1 : P i = 1) (h2 : ¬ nI i = lo) (h3 : cxN P lo q = p) : nI (p - cxN P lo i) + Int32.ofInt (-1) = nI (p - cxN P lo (i + 1)) := by
  have a := cxN_s hi h1 h2
  rw [cxN, if_pos ⟨h1, h2⟩, show p - cxN P lo i = (p - (cxN P lo i + 1)) + 1 by omega]
  exact (show nI (p - (cxN P lo i + 1) + 1) + -1 = nI (p - (cxN P lo i + 1)) from (Int32.sub_eq_add_neg _ _).symm.trans (nI_pred _))
theorem cx_n0 {P : Fn} {lo : Int32} {i q p : Nat} (hq : q < 8) (hi : i < q) (h1 : P i = 1) (h2 : ¬ nI i = lo) (h3 : cxN P lo q = p) : ¬ nI (p - cxN P lo i) = 0 := by
  have a := cxN_s hi h1 h2
  have b := cxN_le (P := P) (lo := lo) q
  exact nI_ne0 (by omega) (by omega)
theorem cx_m6 {P : Fn} : ∀ n, n ≤ 8 → cxN P (-6) n = cxN P (-1) n
  | 0, _ => rfl
  | n + 1, h => by
    have a : ¬ nI n = -6 := nI_ne6 (by omega)
    have b : ¬ nI n = -1 := nI_m1 n (by omega)
    rw [cxN, cxN, cx_m6 n (by omega)]
    simp only [a, b]
theorem mcg {E : xEnv} {σ : Sg} {M : Nat} {U U2 : Vs} {kp hh tx sc : Fn} (h : U = U2) : mput E σ M U kp hh tx sc = mput E σ M U2 kp hh tx sc := by rw [h]
/-- a word is preferred, one weight after the other -/
def psL (V : Vs) (k m w : Nat) (a x : Int32) (i : Nat) : Vs := fun r j => if r = k ∧ 14 * m ≤ j ∧ j < 14 * m + i then (if j = 14 * m + w then clS (V r j + a) else clS (V r j + -x)) else V r j
theorem psL_0 {V : Vs} {k m w : Nat} {a x : Int32} : psL V k m w a x 0 = V := by
  funext r j
  unfold psL
  rw [if_neg (by omega)]
theorem psL_r {V : Vs} {k m w i r : Nat} {a x : Int32} (h : r ≠ k) : psL V k m w a x i r = V r := by
  funext j
  unfold psL
  rw [if_neg (fun z => h z.1)]
theorem psL_s {V : Vs} {k m w i : Nat} {a x d : Int32} (h : clS (V k (14 * m + i) + d) = (if i = w then clS (V k (14 * m + i) + a) else clS (V k (14 * m + i) + -x))) : chS (psL V k m w a x i) k m i d = psL V k m w a x (i + 1) := by
  have e : psL V k m w a x i k (14 * m + i) = V k (14 * m + i) := by
    unfold psL
    rw [if_neg (by omega)]
  funext r j
  unfold chS
  rw [e]
  by_cases h1 : r = k ∧ j = 14 * m + i
  · obtain ⟨rfl, rfl⟩ := h1
    rw [up2_s, h]
    unfold psL
    rw [if_pos (show r = r ∧ 14 * m ≤ 14 * m + i ∧ 14 * m + i < 14 * m + (i + 1) by omega)]
    by_cases h2 : i = w
    · rw [if_pos h2, if_pos (show 14 * m + i = 14 * m + w by omega)]
    · rw [if_neg h2, if_neg (show ¬ 14 * m + i = 14 * m + w by omega)]
  · rw [up2_n h1]
    unfold psL
    by_cases h2 : r = k ∧ 14 * m ≤ j ∧ j < 14 * m + i
    · rw [if_pos h2, if_pos (show r = k ∧ 14 * m ≤ j ∧ j < 14 * m + (i + 1) by omega)]
    · rw [if_neg h2, if_neg (show ¬ (r = k ∧ 14 * m ≤ j ∧ j < 14 * m + (i + 1)) by omega)]
theorem psL_t {V : Vs} {k m w i : Nat} {a x : Int32} (h : i = w) : chS (psL V k m w a x i) k m i a = psL V k m w a x (i + 1) := psL_s (if_pos h).symm
theorem psL_f {V : Vs} {k m w i : Nat} {a x : Int32} (h : ¬ i = w) : chS (psL V k m w a x i) k m i (-x) = psL V k m w a x (i + 1) := psL_s (if_neg h).symm
theorem psL_e {V : Vs} {k m w : Nat} {a x : Int32} (hw : w < 14) : psL V k m w a x 14 = prS V k m w a x := by
  funext r j
  unfold psL prS prL
  by_cases h1 : r = k ∧ j = 14 * m + w
  · rw [if_pos (show r = k ∧ 14 * m ≤ j ∧ j < 14 * m + 14 by omega), if_pos h1.2, if_pos h1]
  · rw [if_neg h1]
    by_cases h2 : r = k ∧ 14 * m ≤ j ∧ j < 14 * m + 14
    · rw [if_pos h2, if_pos h2, if_neg (fun z => h1 ⟨h2.1, z⟩)]
    · rw [if_neg h2, if_neg h2]
theorem fl_loss {U : Vs} : flat U 6 = U 8 1 := fl_8 (j := 1) (by decide)
theorem fl_gain {U : Vs} : flat U 5 = U 8 0 := fl_8 (j := 0) (by decide)
theorem fl_life {U : Vs} : flat U 7 = U 8 2 := fl_8 (j := 2) (by decide)
theorem fl_share {U : Vs} : flat U 8 = U 8 3 := fl_8 (j := 3) (by decide)
set_option maxRecDepth 100000 in
set_option maxHeartbeats 1000000 in
theorem c_X5_speakers {l : Launch} {E : xEnv} {B N : Nat} {σ : Sg} {M : Nat} {U : Vs} {kp ho tx sc : Fn} : xM l yX5_speakers cX5_speakers 3 (some .int) 2 43 0 0 E B [.ref M] N (mput E σ M U kp ho tx sc) N (mput E σ M U kp ho tx sc) (some (.int (nI (cnN (U 10) 8)))) := by
  refine xM_of [some (.ref _), none, none] (by decide +kernel) (Nat.le_of_ble_eq_true rfl) rfl (fun k0 C Z => ?_)
  have hl : ∀ i, i ≤ 8 → xX k0 N 0 0 (mput E σ M U kp ho tx sc) 4 [some (.ref M), some (.int (nI (cnN (U 10) i))), some (.int (nI i))] [] := by
    refine x_for 8 ?_ ?_
    · refine x_iload_n C dX5_speakers_4 rfl ?_
      refine x_bipush (v := 8) C dX5_speakers_5 (by decide) ?_
      refine x_ic_ge C 32 dX5_speakers_7 (by decide) (fun _ => ?_) (fun h => absurd (nI_le (a := 8) (Nat.le_refl _) (by omega)) h)
      refine x_iload_n C dX5_speakers_32 rfl ?_
      exact x_zret C Z dX5_speakers_33 rfl (Nat.le_of_ble_eq_true rfl) (Nat.le_of_ble_eq_true rfl) rfl rfl rfl
    · intro i hi ih
      refine x_iload_n C dX5_speakers_4 rfl ?_
      refine x_bipush (v := 8) C dX5_speakers_5 (by decide) ?_
      refine x_ic_ge C 32 dX5_speakers_7 (by decide) (fun h => absurd h (nI_ge (b := 8) hi (by omega))) (fun _ => ?_)
      refine x_iload_n C dX5_speakers_10 rfl ?_
      refine x_aload_n C dX5_speakers_11 rfl ?_
      refine x_iload_n C dX5_speakers_12 rfl ?_
      refine x_callV C (c_X5_isSpeaker_k hi) kv_X5_isSpeaker kl_X5_45 dX5_speakers_13 mput_0 rfl rfl rfl rfl (Nat.le_of_ble_eq_true rfl) (Nat.le_of_ble_eq_true rfl) (Nat.le_of_ble_eq_true rfl) (Nat.le_of_ble_eq_true rfl) (Nat.le_of_ble_eq_true rfl) ?_
      refine x_beq C 23 dX5_speakers_16 (by decide) (fun h16 => ?_) (fun h16 => ?_)
      · refine x_iconst (v := 0) C dX5_speakers_23 (by decide) ?_
        refine x_iadd C dX5_speakers_24 ?_
        refine x_istore_n C dX5_speakers_25 (by decide) rfl ?_
        refine x_iinc C dX5_speakers_26 rfl (nI_inc _) (by decide) rfl ?_
        refine x_goto C 4 dX5_speakers_29 (by decide) ?_
        refine xX.cl ih rfl (And.intro rfl (And.intro (congrArg (fun z => some (some (Value.int z))) (ad_f h16 _)) (And.intro rfl trivial))) rfl
      · refine x_iconst (v := 1) C dX5_speakers_19 (by decide) ?_
        refine x_goto C 24 dX5_speakers_20 (by decide) ?_
        refine x_iadd C dX5_speakers_24 ?_
        refine x_istore_n C dX5_speakers_25 (by decide) rfl ?_
        refine x_iinc C dX5_speakers_26 rfl (nI_inc _) (by decide) rfl ?_
        refine x_goto C 4 dX5_speakers_29 (by decide) ?_
        refine xX.cl ih rfl (And.intro rfl (And.intro (congrArg (fun z => some (some (Value.int z))) (ad_t h16 _)) (And.intro rfl trivial))) rfl
  refine x_iconst (v := 0) C dX5_speakers_0 (by decide) ?_
  refine x_istore_n C dX5_speakers_1 (by decide) rfl ?_
  refine x_iconst (v := 0) C dX5_speakers_2 (by decide) ?_
  refine x_istore_n C dX5_speakers_3 (by decide) rfl ?_
  refine xX.cl (hl 0 (by omega)) rfl (And.intro rfl (And.intro rfl (And.intro rfl trivial))) rfl
set_option maxRecDepth 100000 in
set_option maxHeartbeats 1000000 in
theorem c_X5_wordFor {l : Launch} {E : xEnv} {B N : Nat} {σ : Sg} {M : Nat} {U : Vs} {kp ho tx sc : Fn} {s m : Nat} (hs : s < 8) (hm : m < 6) : xM l yX5_wordFor cX5_wordFor 7 (some .int) 2 45 0 0 E B [.ref M, .int (nI s), .int (nI m)] N (mput E σ M U kp ho tx sc) N (mput E σ M U kp ho tx sc) (some (.int (oI (wfS (U s) m)))) := by
  refine xM_of [some (.ref _), some (.int _), some (.int _), none, none, none, none] (by decide +kernel) (Nat.le_of_ble_eq_true rfl) rfl (fun k0 C Z => ?_)
  have hl : ∀ i, i ≤ 14 → xX k0 N 0 0 (mput E σ M U kp ho tx sc) 9 [some (.ref M), some (.int (nI s)), some (.int (nI m)), some (.int (oI (wfL (fun w => U s (14 * m + w)) i).1)), some (.int (wfL (fun w => U s (14 * m + w)) i).2), some (.int (nI i)), none] [] := by
    refine x_for 14 ?_ ?_
    · refine x_iload C dX5_wordFor_9 rfl ?_
      refine x_bipush (v := 14) C dX5_wordFor_11 (by decide) ?_
      refine x_ic_ge C 62 dX5_wordFor_13 (by decide) (fun _ => ?_) (fun h => absurd (nI_le (a := 14) (Nat.le_refl _) (by omega)) h)
      refine x_iload_n C dX5_wordFor_62 rfl ?_
      exact x_zret C Z dX5_wordFor_63 rfl (Nat.le_of_ble_eq_true rfl) (Nat.le_of_ble_eq_true rfl) rfl rfl rfl
    · intro i hi ih
      refine x_iload C dX5_wordFor_9 rfl ?_
      refine x_bipush (v := 14) C dX5_wordFor_11 (by decide) ?_
      refine x_ic_ge C 62 dX5_wordFor_13 (by decide) (fun h => absurd h (nI_ge (b := 14) hi (by omega))) (fun _ => ?_)
      refine x_aload_n C dX5_wordFor_16 rfl ?_
      refine x_iload_n C dX5_wordFor_17 rfl ?_
      refine x_iload_n C dX5_wordFor_18 rfl ?_
      refine x_iload C dX5_wordFor_19 rfl ?_
      refine x_callV C (c_X5_weightOf hs hm hi) kv_X5_weightOf kl_X5_42 dX5_wordFor_21 mput_0 rfl rfl rfl rfl (Nat.le_of_ble_eq_true rfl) (Nat.le_of_ble_eq_true rfl) (Nat.le_of_ble_eq_true rfl) (Nat.le_of_ble_eq_true rfl) (Nat.le_of_ble_eq_true rfl) ?_
      by_cases hv : (fun w => U s (14 * m + w)) i ≤ (wfL (fun w => U s (14 * m + w)) i).2
      · have hv2 := hv
        refine x_istore C dX5_wordFor_24 (by decide) rfl ?_
        refine x_iload C dX5_wordFor_26 rfl ?_
        refine x_iload C dX5_wordFor_28 rfl ?_
        refine x_ic_le C 38 dX5_wordFor_30 (by decide) (fun _ => ?_) (fun h => absurd hv h)
        refine x_iload_n C dX5_wordFor_38 rfl ?_
        refine x_istore_n C dX5_wordFor_39 (by decide) rfl ?_
        refine x_iload C dX5_wordFor_40 rfl ?_
        refine x_iload C dX5_wordFor_42 rfl ?_
        refine x_ic_le C 52 dX5_wordFor_44 (by decide) (fun _ => ?_) (fun h => absurd hv h)
        refine x_iload C dX5_wordFor_52 rfl ?_
        refine x_istore C dX5_wordFor_54 (by decide) rfl ?_
        refine x_iinc C dX5_wordFor_56 rfl (nI_inc _) (by decide) rfl ?_
        refine x_goto C 9 dX5_wordFor_59 (by decide) ?_
        refine xX.cl ih rfl (And.intro rfl (And.intro rfl (And.intro rfl (And.intro ?_ (And.intro ?_ (And.intro rfl trivial)))))) rfl
        all_goals (rw [wfL, if_pos hv]; rfl)
      · have hv2 := hv
        refine x_istore C dX5_wordFor_24 (by decide) rfl ?_
        refine x_iload C dX5_wordFor_26 rfl ?_
        refine x_iload C dX5_wordFor_28 rfl ?_
        refine x_ic_le C 38 dX5_wordFor_30 (by decide) (fun h => absurd h hv) (fun _ => ?_)
        refine x_iload C dX5_wordFor_33 rfl ?_
        refine x_goto C 39 dX5_wordFor_35 (by decide) ?_
        refine x_istore_n C dX5_wordFor_39 (by decide) rfl ?_
        refine x_iload C dX5_wordFor_40 rfl ?_
        refine x_iload C dX5_wordFor_42 rfl ?_
        refine x_ic_le C 52 dX5_wordFor_44 (by decide) (fun h => absurd h hv) (fun _ => ?_)
        refine x_iload C dX5_wordFor_47 rfl ?_
        refine x_goto C 54 dX5_wordFor_49 (by decide) ?_
        refine x_istore C dX5_wordFor_54 (by decide) rfl ?_
        refine x_iinc C dX5_wordFor_56 rfl (nI_inc _) (by decide) rfl ?_
        refine x_goto C 9 dX5_wordFor_59 (by decide) ?_
        refine xX.cl ih rfl (And.intro rfl (And.intro rfl (And.intro rfl (And.intro ?_ (And.intro ?_ (And.intro rfl trivial)))))) rfl
        all_goals (rw [wfL, if_neg hv]; rfl)
  refine x_bipush (v := (-6)) C dX5_wordFor_0 (by decide) ?_
  refine x_istore_n C dX5_wordFor_2 (by decide) rfl ?_
  refine x_iconst (v := 0) C dX5_wordFor_3 (by decide) ?_
  refine x_istore C dX5_wordFor_4 (by decide) rfl ?_
  refine x_iconst (v := 0) C dX5_wordFor_6 (by decide) ?_
  refine x_istore C dX5_wordFor_7 (by decide) rfl ?_
  refine xX.cl (hl 0 (by omega)) rfl (And.intro rfl (And.intro rfl (And.intro rfl (And.intro rfl (And.intro rfl (And.intro rfl trivial)))))) rfl
set_option maxRecDepth 100000 in
set_option maxHeartbeats 1000000 in
theorem c_X5_heardAs {l : Launch} {E : xEnv} {B N : Nat} {σ : Sg} {M : Nat} {U : Vs} {kp ho tx sc : Fn} {s w : Nat} (hs : s < 8) (hw : w < 14) : xM l yX5_heardAs cX5_heardAs 7 (some .int) 2 45 0 0 E B [.ref M, .int (nI s), .int (nI w)] N (mput E σ M U kp ho tx sc) N (mput E σ M U kp ho tx sc) (some (.int (oI (haS (U s) w)))) := by
  refine xM_of [some (.ref _), some (.int _), some (.int _), none, none, none, none] (by decide +kernel) (Nat.le_of_ble_eq_true rfl) rfl (fun k0 C Z => ?_)
  have hl : ∀ i, i ≤ 6 → xX k0 N 0 0 (mput E σ M U kp ho tx sc) 9 [some (.ref M), some (.int (nI s)), some (.int (nI w)), some (.int (oI (wfL (fun m => U s (14 * m + w)) i).1)), some (.int (wfL (fun m => U s (14 * m + w)) i).2), some (.int (nI i)), none] [] := by
    refine x_for 6 ?_ ?_
    · refine x_iload C dX5_heardAs_9 rfl ?_
      refine x_bipush (v := 6) C dX5_heardAs_11 (by decide) ?_
      refine x_ic_ge C 62 dX5_heardAs_13 (by decide) (fun _ => ?_) (fun h => absurd (nI_le (a := 6) (Nat.le_refl _) (by omega)) h)
      refine x_iload_n C dX5_heardAs_62 rfl ?_
      exact x_zret C Z dX5_heardAs_63 rfl (Nat.le_of_ble_eq_true rfl) (Nat.le_of_ble_eq_true rfl) rfl rfl rfl
    · intro i hi ih
      refine x_iload C dX5_heardAs_9 rfl ?_
      refine x_bipush (v := 6) C dX5_heardAs_11 (by decide) ?_
      refine x_ic_ge C 62 dX5_heardAs_13 (by decide) (fun h => absurd h (nI_ge (b := 6) hi (by omega))) (fun _ => ?_)
      refine x_aload_n C dX5_heardAs_16 rfl ?_
      refine x_iload_n C dX5_heardAs_17 rfl ?_
      refine x_iload C dX5_heardAs_18 rfl ?_
      refine x_iload_n C dX5_heardAs_20 rfl ?_
      refine x_callV C (c_X5_weightOf hs hi hw) kv_X5_weightOf kl_X5_42 dX5_heardAs_21 mput_0 rfl rfl rfl rfl (Nat.le_of_ble_eq_true rfl) (Nat.le_of_ble_eq_true rfl) (Nat.le_of_ble_eq_true rfl) (Nat.le_of_ble_eq_true rfl) (Nat.le_of_ble_eq_true rfl) ?_
      by_cases hv : (fun m => U s (14 * m + w)) i ≤ (wfL (fun m => U s (14 * m + w)) i).2
      · have hv2 := hv
        refine x_istore C dX5_heardAs_24 (by decide) rfl ?_
        refine x_iload C dX5_heardAs_26 rfl ?_
        refine x_iload C dX5_heardAs_28 rfl ?_
        refine x_ic_le C 38 dX5_heardAs_30 (by decide) (fun _ => ?_) (fun h => absurd hv h)
        refine x_iload_n C dX5_heardAs_38 rfl ?_
        refine x_istore_n C dX5_heardAs_39 (by decide) rfl ?_
        refine x_iload C dX5_heardAs_40 rfl ?_
        refine x_iload C dX5_heardAs_42 rfl ?_
        refine x_ic_le C 52 dX5_heardAs_44 (by decide) (fun _ => ?_) (fun h => absurd hv h)
        refine x_iload C dX5_heardAs_52 rfl ?_
        refine x_istore C dX5_heardAs_54 (by decide) rfl ?_
        refine x_iinc C dX5_heardAs_56 rfl (nI_inc _) (by decide) rfl ?_
        refine x_goto C 9 dX5_heardAs_59 (by decide) ?_
        refine xX.cl ih rfl (And.intro rfl (And.intro rfl (And.intro rfl (And.intro ?_ (And.intro ?_ (And.intro rfl trivial)))))) rfl
        all_goals (rw [wfL, if_pos hv]; rfl)
      · have hv2 := hv
        refine x_istore C dX5_heardAs_24 (by decide) rfl ?_
        refine x_iload C dX5_heardAs_26 rfl ?_
        refine x_iload C dX5_heardAs_28 rfl ?_
        refine x_ic_le C 38 dX5_heardAs_30 (by decide) (fun h => absurd h hv) (fun _ => ?_)
        refine x_iload C dX5_heardAs_33 rfl ?_
        refine x_goto C 39 dX5_heardAs_35 (by decide) ?_
        refine x_istore_n C dX5_heardAs_39 (by decide) rfl ?_
        refine x_iload C dX5_heardAs_40 rfl ?_
        refine x_iload C dX5_heardAs_42 rfl ?_
        refine x_ic_le C 52 dX5_heardAs_44 (by decide) (fun h => absurd h hv) (fun _ => ?_)
        refine x_iload C dX5_heardAs_47 rfl ?_
        refine x_goto C 54 dX5_heardAs_49 (by decide) ?_
        refine x_istore C dX5_heardAs_54 (by decide) rfl ?_
        refine x_iinc C dX5_heardAs_56 rfl (nI_inc _) (by decide) rfl ?_
        refine x_goto C 9 dX5_heardAs_59 (by decide) ?_
        refine xX.cl ih rfl (And.intro rfl (And.intro rfl (And.intro rfl (And.intro ?_ (And.intro ?_ (And.intro rfl trivial)))))) rfl
        all_goals (rw [wfL, if_neg hv]; rfl)
  refine x_bipush (v := (-6)) C dX5_heardAs_0 (by decide) ?_
  refine x_istore_n C dX5_heardAs_2 (by decide) rfl ?_
  refine x_iconst (v := 0) C dX5_heardAs_3 (by decide) ?_
  refine x_istore C dX5_heardAs_4 (by decide) rfl ?_
  refine x_iconst (v := 0) C dX5_heardAs_6 (by decide) ?_
  refine x_istore C dX5_heardAs_7 (by decide) rfl ?_
  refine xX.cl (hl 0 (by omega)) rfl (And.intro rfl (And.intro rfl (And.intro rfl (And.intro rfl (And.intro rfl (And.intro rfl trivial)))))) rfl
set_option maxRecDepth 100000 in
set_option maxHeartbeats 1000000 in
theorem c_X5_speakerAt {l : Launch} {E : xEnv} {B N : Nat} {σ : Sg} {M : Nat} {U : Vs} {kp ho tx sc : Fn} {q p : Nat} {lo : Int32} (hq : q < 8) (h1 : U 10 q = 1) (h2 : ¬ nI q = lo) (h3 : cxN (U 10) lo q = p) : xM l yX5_speakerAt cX5_speakerAt 6 (some .int) 2 43 0 0 E B [.ref M, .int (nI p), .int lo] N (mput E σ M U kp ho tx sc) N (mput E σ M U kp ho tx sc) (some (.int (nI q))) := by
  refine xM_of [some (.ref _), some (.int _), some (.int _), none, none, none] (by decide +kernel) (Nat.le_of_ble_eq_true rfl) rfl (fun k0 C Z => ?_)
  have hl : ∀ i, i ≤ q → xX k0 N 0 0 (mput E σ M U kp ho tx sc) 9 [some (.ref M), some (.int (nI p)), some (.int lo), some (.int (-6)), some (.int (nI (p - cxN (U 10) lo i))), some (.int (nI i))] [] := by
    refine x_for q ?_ ?_
    · refine x_iload C dX5_speakerAt_9 rfl ?_
      refine x_bipush (v := 8) C dX5_speakerAt_11 (by decide) ?_
      refine x_ic_ge C 59 dX5_speakerAt_13 (by decide) (fun h => absurd h (nI_ge (b := 8) hq (by omega))) (fun _ => ?_)
      refine x_iload_n C dX5_speakerAt_16 rfl ?_
      refine x_bipush (v := (-6)) C dX5_speakerAt_17 (by decide) ?_
      refine x_ic_ne C 59 dX5_speakerAt_19 (by decide) (fun h => absurd rfl h) (fun _ => ?_)
      refine x_aload_n C dX5_speakerAt_22 rfl ?_
      refine x_iload C dX5_speakerAt_23 rfl ?_
      refine x_callV C (c_X5_isSpeaker_k hq) kv_X5_isSpeaker kl_X5_45 dX5_speakerAt_25 mput_0 rfl rfl rfl rfl (Nat.le_of_ble_eq_true rfl) (Nat.le_of_ble_eq_true rfl) (Nat.le_of_ble_eq_true rfl) (Nat.le_of_ble_eq_true rfl) (Nat.le_of_ble_eq_true rfl) ?_
      refine x_beq C 53 dX5_speakerAt_28 (by decide) (fun h => absurd h1 h) (fun _ => ?_)
      refine x_iload C dX5_speakerAt_31 rfl ?_
      refine x_iload_n C dX5_speakerAt_33 rfl ?_
      refine x_ic_eq C 53 dX5_speakerAt_34 (by decide) (fun h => absurd h h2) (fun _ => ?_)
      refine x_iload C dX5_speakerAt_37 rfl ?_
      refine x_if_ne C 47 dX5_speakerAt_39 (by decide) (fun h => absurd (by rw [h3, Nat.sub_self]; rfl) h) (fun _ => ?_)
      refine x_iload C dX5_speakerAt_42 rfl ?_
      refine x_goto C 49 dX5_speakerAt_44 (by decide) ?_
      refine x_istore_n C dX5_speakerAt_49 (by decide) rfl ?_
      refine x_iinc C dX5_speakerAt_50 rfl rfl (by decide) rfl ?_
      refine x_iinc C dX5_speakerAt_53 rfl (nI_inc _) (by decide) rfl ?_
      refine x_goto C 9 dX5_speakerAt_56 (by decide) ?_
      refine x_iload C dX5_speakerAt_9 rfl ?_
      refine x_bipush (v := 8) C dX5_speakerAt_11 (by decide) ?_
      refine x_ic_ge C 59 dX5_speakerAt_13 (by decide) (fun h13 => ?_) (fun h13 => ?_)
      · refine x_iload_n C dX5_speakerAt_59 rfl ?_
        exact x_zret C Z dX5_speakerAt_60 rfl (Nat.le_of_ble_eq_true rfl) (Nat.le_of_ble_eq_true rfl) rfl rfl rfl
      · refine x_iload_n C dX5_speakerAt_16 rfl ?_
        refine x_bipush (v := (-6)) C dX5_speakerAt_17 (by decide) ?_
        refine x_ic_ne C 59 dX5_speakerAt_19 (by decide) (fun _ => ?_) (fun h => absurd h (nI_ne6 (by omega)))
        refine x_iload_n C dX5_speakerAt_59 rfl ?_
        exact x_zret C Z dX5_speakerAt_60 rfl (Nat.le_of_ble_eq_true rfl) (Nat.le_of_ble_eq_true rfl) rfl rfl rfl
    · intro i hi ih
      refine x_iload C dX5_speakerAt_9 rfl ?_
      refine x_bipush (v := 8) C dX5_speakerAt_11 (by decide) ?_
      refine x_ic_ge C 59 dX5_speakerAt_13 (by decide) (fun h => absurd h (nI_ge (b := 8) (show i < 8 by omega) (by omega))) (fun _ => ?_)
      refine x_iload_n C dX5_speakerAt_16 rfl ?_
      refine x_bipush (v := (-6)) C dX5_speakerAt_17 (by decide) ?_
      refine x_ic_ne C 59 dX5_speakerAt_19 (by decide) (fun h => absurd rfl h) (fun _ => ?_)
      refine x_aload_n C dX5_speakerAt_22 rfl ?_
      refine x_iload C dX5_speakerAt_23 rfl ?_
      refine x_callV C (c_X5_isSpeaker_k (show i < 8 by omega)) kv_X5_isSpeaker kl_X5_45 dX5_speakerAt_25 mput_0 rfl rfl rfl rfl (Nat.le_of_ble_eq_true rfl) (Nat.le_of_ble_eq_true rfl) (Nat.le_of_ble_eq_true rfl) (Nat.le_of_ble_eq_true rfl) (Nat.le_of_ble_eq_true rfl) ?_
      refine x_beq C 53 dX5_speakerAt_28 (by decide) (fun h28 => ?_) (fun h28 => ?_)
      · refine x_iinc C dX5_speakerAt_53 rfl (nI_inc _) (by decide) rfl ?_
        refine x_goto C 9 dX5_speakerAt_56 (by decide) ?_
        refine xX.cl ih rfl (And.intro rfl (And.intro rfl (And.intro rfl (And.intro rfl (And.intro ?_ (And.intro rfl trivial)))))) rfl
        rw [cxN, if_neg (fun z => h28 z.1)]; rfl
      · refine x_iload C dX5_speakerAt_31 rfl ?_
        refine x_iload_n C dX5_speakerAt_33 rfl ?_
        refine x_ic_eq C 53 dX5_speakerAt_34 (by decide) (fun h34 => ?_) (fun h34 => ?_)
        · refine x_iinc C dX5_speakerAt_53 rfl (nI_inc _) (by decide) rfl ?_
          refine x_goto C 9 dX5_speakerAt_56 (by decide) ?_
          refine xX.cl ih rfl (And.intro rfl (And.intro rfl (And.intro rfl (And.intro rfl (And.intro ?_ (And.intro rfl trivial)))))) rfl
          rw [cxN, if_neg (fun z => z.2 h34)]; rfl
        · refine x_iload C dX5_speakerAt_37 rfl ?_
          refine x_if_ne C 47 dX5_speakerAt_39 (by decide) (fun _ => ?_) (fun h => absurd h (cx_n0 hq hi h28 h34 h3))
          refine x_bipush (v := (-6)) C dX5_speakerAt_47 (by decide) ?_
          refine x_istore_n C dX5_speakerAt_49 (by decide) rfl ?_
          refine x_iinc C dX5_speakerAt_50 rfl (cx_dn hq hi h28 h34 h3) (by decide) rfl ?_
          refine x_iinc C dX5_speakerAt_53 rfl (nI_inc _) (by decide) rfl ?_
          refine x_goto C 9 dX5_speakerAt_56 (by decide) ?_
          refine xX.cl ih rfl (And.intro rfl (And.intro rfl (And.intro rfl (And.intro rfl (And.intro ?_ (And.intro rfl trivial)))))) rfl
          rfl
  refine x_bipush (v := (-6)) C dX5_speakerAt_0 (by decide) ?_
  refine x_istore_n C dX5_speakerAt_2 (by decide) rfl ?_
  refine x_iload_n C dX5_speakerAt_3 rfl ?_
  refine x_istore C dX5_speakerAt_4 (by decide) rfl ?_
  refine x_iconst (v := 0) C dX5_speakerAt_6 (by decide) ?_
  refine x_istore C dX5_speakerAt_7 (by decide) rfl ?_
  refine xX.cl (hl 0 (by omega)) rfl (And.intro rfl (And.intro rfl (And.intro rfl (And.intro rfl (And.intro rfl (And.intro rfl trivial)))))) rfl
set_option maxRecDepth 100000 in
set_option maxHeartbeats 1000000 in
theorem c_X5_strengthens {l : Launch} {E : xEnv} {B N : Nat} {σ : Sg} {M : Nat} {U : Vs} {kp ho tx sc : Fn} {s m w : Nat} (hs : s < 8) (hm : m < 6) (hw : w < 14) : xM l yX5_strengthens cX5_strengthens 5 none 3 70 0 0 E B [.ref M, .int (nI s), .int (nI m), .int (nI w)] N (mput E σ M U kp ho tx sc) N (mput E σ M (prS U s m w (lnS (U 11 s) (U 8 0)) (U 8 1)) kp ho tx sc) none := by
  refine xM_of [some (.ref _), some (.int _), some (.int _), some (.int _), none] (by decide +kernel) (Nat.le_of_ble_eq_true rfl) rfl (fun k0 C Z => ?_)
  have hl : ∀ i, i ≤ 14 → xX k0 N 0 0 (mput E σ M (psL U s m w (lnS (U 11 s) (U 8 0)) (U 8 1) i) kp ho tx sc) 3 [some (.ref M), some (.int (nI s)), some (.int (nI m)), some (.int (nI w)), some (.int (nI i))] [] := by
    refine x_for 14 ?_ ?_
    · refine x_iload C dX5_strengthens_3 rfl ?_
      refine x_bipush (v := 14) C dX5_strengthens_5 (by decide) ?_
      refine x_ic_ge C 46 dX5_strengthens_7 (by decide) (fun _ => ?_) (fun h => absurd (nI_le (a := 14) (Nat.le_refl _) (by omega)) h)
      exact x_vret C Z dX5_strengthens_46 (Nat.le_of_ble_eq_true rfl) (Nat.le_of_ble_eq_true rfl) rfl (by rw [psL_e hw])
    · intro i hi ih
      refine x_iload C dX5_strengthens_3 rfl ?_
      refine x_bipush (v := 14) C dX5_strengthens_5 (by decide) ?_
      refine x_ic_ge C 46 dX5_strengthens_7 (by decide) (fun h => absurd h (nI_ge (b := 14) hi (by omega))) (fun _ => ?_)
      refine x_aload_n C dX5_strengthens_10 rfl ?_
      refine x_iload_n C dX5_strengthens_11 rfl ?_
      refine x_iload_n C dX5_strengthens_12 rfl ?_
      refine x_iload C dX5_strengthens_13 rfl ?_
      refine x_iload C dX5_strengthens_15 rfl ?_
      refine x_iload_n C dX5_strengthens_17 rfl ?_
      refine x_ic_ne C 29 dX5_strengthens_18 (by decide) (fun h18 => ?_) (fun h18 => ?_)
      · refine x_aload_n C dX5_strengthens_29 rfl ?_
        refine x_get C kf_X5_7 mput_0 rfl dX5_strengthens_30 ?_
        refine x_bipush (v := 6) C dX5_strengthens_33 (by decide) ?_
        refine x_iald2 C mput_1 rfl (by decide) (by decide) dX5_strengthens_35 ?_
        rw [fl_loss, psL_r (show 8 ≠ s by omega)]
        refine x_ineg C dX5_strengthens_36 ?_
        refine x_callV C (c_X5_changes hs hm hi _) kv_X5_changes kl_X5_54 dX5_strengthens_37 mput_0 rfl rfl rfl rfl (Nat.le_of_ble_eq_true rfl) (Nat.le_of_ble_eq_true rfl) (Nat.le_of_ble_eq_true rfl) (Nat.le_of_ble_eq_true rfl) (Nat.le_of_ble_eq_true rfl) ?_
        refine x_iinc C dX5_strengthens_40 rfl (nI_inc _) (by decide) rfl ?_
        refine x_goto C 3 dX5_strengthens_43 (by decide) ?_
        refine xX.cl ih (mcg (psL_f (fun z => h18 (congrArg nI z)))) (And.intro rfl (And.intro rfl (And.intro rfl (And.intro rfl (And.intro rfl trivial))))) rfl
      · refine x_aload_n C dX5_strengthens_21 rfl ?_
        refine x_iload_n C dX5_strengthens_22 rfl ?_
        refine x_callV C (c_X5_learns hs) kv_X5_learns kl_X5_50 dX5_strengthens_23 mput_0 rfl rfl rfl rfl (Nat.le_of_ble_eq_true rfl) (Nat.le_of_ble_eq_true rfl) (Nat.le_of_ble_eq_true rfl) (Nat.le_of_ble_eq_true rfl) (Nat.le_of_ble_eq_true rfl) ?_
        rw [psL_r (show 11 ≠ s by omega), psL_r (show 8 ≠ s by omega)]
        refine x_goto C 37 dX5_strengthens_26 (by decide) ?_
        refine x_callV C (c_X5_changes hs hm hi _) kv_X5_changes kl_X5_54 dX5_strengthens_37 mput_0 rfl rfl rfl rfl (Nat.le_of_ble_eq_true rfl) (Nat.le_of_ble_eq_true rfl) (Nat.le_of_ble_eq_true rfl) (Nat.le_of_ble_eq_true rfl) (Nat.le_of_ble_eq_true rfl) ?_
        refine x_iinc C dX5_strengthens_40 rfl (nI_inc _) (by decide) rfl ?_
        refine x_goto C 3 dX5_strengthens_43 (by decide) ?_
        refine xX.cl ih (mcg (psL_t ((nI_eq (by omega) (by omega)).mp h18))) (And.intro rfl (And.intro rfl (And.intro rfl (And.intro rfl (And.intro rfl trivial))))) rfl
  refine x_iconst (v := 0) C dX5_strengthens_0 (by decide) ?_
  refine x_istore C dX5_strengthens_1 (by decide) rfl ?_
  refine xX.cl (hl 0 (by omega)) (mcg psL_0.symm) (And.intro rfl (And.intro rfl (And.intro rfl (And.intro rfl (And.intro rfl trivial))))) rfl
