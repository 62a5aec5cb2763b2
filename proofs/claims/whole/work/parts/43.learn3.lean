/-! the model's findError and learn -/
theorem ex_st {st : Nat} {s : Int32} (h : st = 9 ∨ st = 10) (h2 : st = 9 → ¬ digP s) : exS st s = aenS s := by
  rcases h with rfl | rfl
  · exact ex_9.trans (if_neg (h2 rfl))
  · exact ex_10
theorem fe_loop {l : Launch} {E : xEnv} {B : Nat} {M : Nat} {kp ho tx : Fn} {n : Nat} (hn : n ≤ 80) {U : Vs} : ∀ (d a : Nat) (sc : Fn), n - a ≤ d → sc 1 = nI n → sc 4 = nI a → gd tx n a 0 → ∃ sc2 : Fn, sc2 0 = sc 0 ∧ sc2 1 = sc 1 ∧ ∀ (N : Nat) (σ : Sg) k0, xC k0 l E B cX5_findError 1 (some .int) yX5_findError.cls yX5_findError.name 4 84 0 0 → xZ k0 0 0 N (mput E σ M U kp ho tx sc2) (some (.int (feS tx n))) → xX k0 N 0 0 (mput E σ M U kp ho tx sc) 5 [some (.ref M)] [] := by
  intro d
  induction d with
  | zero =>
    intro a sc hd h1 h4 hg
    rcases rh_cases (l := l) (E := E) (B := B) (M := M) (U := U) (kp := kp) (ho := ho) hn h1 h4 hg with ⟨sc2, q, HR, q0, q1, q4, hfe, hq⟩ | ⟨sc2, e, k, m, w, v, st, HR, q0, q1, q4, q5, q6, q7, q8, H, ge, hst, hdg⟩
    · refine ⟨sc2, q0, q1, fun N σ k0 C Z => ?_⟩
      refine x_aload_n C dX5_findError_5 rfl ?_
      refine x_callV C (HR _ _) kv_X5_readsHabit kl_X5_180 dX5_findError_6 mput_0 rfl rfl rfl rfl (Nat.le_of_ble_eq_true rfl) (Nat.le_of_ble_eq_true rfl) (Nat.le_of_ble_eq_true rfl) (Nat.le_of_ble_eq_true rfl) (Nat.le_of_ble_eq_true rfl) ?_
      refine x_if_ne C 17 dX5_findError_9 (by decide) (fun h => absurd rfl h) (fun _ => ?_)
      refine x_aload_n C dX5_findError_12 rfl ?_
      refine x_get C kf_X5_149 mput_0 rfl dX5_findError_13 ?_
      exact x_zret C Z dX5_findError_16 rfl (Nat.le_of_ble_eq_true rfl) (Nat.le_of_ble_eq_true rfl) rfl rfl (q4.trans hfe.symm)
    · exact absurd hd (by have := H.h1; have := H.h2; omega)
  | succ d ih =>
    intro a sc hd h1 h4 hg
    rcases rh_cases (l := l) (E := E) (B := B) (M := M) (U := U) (kp := kp) (ho := ho) hn h1 h4 hg with ⟨sc2, q, HR, q0, q1, q4, hfe, hq⟩ | ⟨sc2, e, k, m, w, v, st, HR, q0, q1, q4, q5, q6, q7, q8, H, ge, hst, hdg⟩
    · refine ⟨sc2, q0, q1, fun N σ k0 C Z => ?_⟩
      refine x_aload_n C dX5_findError_5 rfl ?_
      refine x_callV C (HR _ _) kv_X5_readsHabit kl_X5_180 dX5_findError_6 mput_0 rfl rfl rfl rfl (Nat.le_of_ble_eq_true rfl) (Nat.le_of_ble_eq_true rfl) (Nat.le_of_ble_eq_true rfl) (Nat.le_of_ble_eq_true rfl) (Nat.le_of_ble_eq_true rfl) ?_
      refine x_if_ne C 17 dX5_findError_9 (by decide) (fun h => absurd rfl h) (fun _ => ?_)
      refine x_aload_n C dX5_findError_12 rfl ?_
      refine x_get C kf_X5_149 mput_0 rfl dX5_findError_13 ?_
      exact x_zret C Z dX5_findError_16 rfl (Nat.le_of_ble_eq_true rfl) (Nat.le_of_ble_eq_true rfl) rfl rfl (q4.trans hfe.symm)
    · rw [h1] at q1
      by_cases hen : e = n
      · subst hen
        refine ⟨sc2, q0, by rw [q1, h1], fun N σ k0 C Z => ?_⟩
        refine x_aload_n C dX5_findError_5 rfl ?_
        refine x_callV C (HR _ _) kv_X5_readsHabit kl_X5_180 dX5_findError_6 mput_0 rfl rfl rfl rfl (Nat.le_of_ble_eq_true rfl) (Nat.le_of_ble_eq_true rfl) (Nat.le_of_ble_eq_true rfl) (Nat.le_of_ble_eq_true rfl) (Nat.le_of_ble_eq_true rfl) ?_
        refine x_if_ne C 17 dX5_findError_9 (by decide) (fun _ => ?_) (fun h => absurd h (by decide))
        refine x_aload_n C dX5_findError_17 rfl ?_
        refine x_get C kf_X5_149 mput_0 rfl dX5_findError_18 ?_
        refine x_aload_n C dX5_findError_21 rfl ?_
        refine x_get C kf_X5_146 mput_0 rfl dX5_findError_22 ?_
        rw [q4, q1]
        refine x_ic_ne C 31 dX5_findError_25 (by decide) (fun h => absurd rfl h) (fun _ => ?_)
        refine x_bipush (v := (-6)) C dX5_findError_28 (by decide) ?_
        exact x_zret C Z dX5_findError_30 rfl (Nat.le_of_ble_eq_true rfl) (Nat.le_of_ble_eq_true rfl) rfl rfl (fe_ok ge hst).symm
      · have hlt : e < n := by have := H.h2; omega
        by_cases cs : chM n tx e = 59
        · obtain ⟨sc3, r0, r1, hr⟩ := ih (e + 1) (upd sc2 4 (nI (e + 1))) (by have := H.h1; omega) ((pk_un (by decide)).trans q1) pk_us (gd_s ge hlt ((ex_st hst (hdg hlt)).trans (by rw [chM_in hlt] at cs; rw [cs]; decide)) (by decide))
          refine ⟨sc3, r0.trans ((pk_un (by decide)).trans q0), (r1.trans ((pk_un (by decide)).trans q1)).trans h1.symm, fun N σ k0 C Z => ?_⟩
          refine x_aload_n C dX5_findError_5 rfl ?_
          refine x_callV C (HR _ _) kv_X5_readsHabit kl_X5_180 dX5_findError_6 mput_0 rfl rfl rfl rfl (Nat.le_of_ble_eq_true rfl) (Nat.le_of_ble_eq_true rfl) (Nat.le_of_ble_eq_true rfl) (Nat.le_of_ble_eq_true rfl) (Nat.le_of_ble_eq_true rfl) ?_
          refine x_if_ne C 17 dX5_findError_9 (by decide) (fun _ => ?_) (fun h => absurd h (by decide))
          refine x_aload_n C dX5_findError_17 rfl ?_
          refine x_get C kf_X5_149 mput_0 rfl dX5_findError_18 ?_
          refine x_aload_n C dX5_findError_21 rfl ?_
          refine x_get C kf_X5_146 mput_0 rfl dX5_findError_22 ?_
          rw [q4, q1]
          refine x_ic_ne C 31 dX5_findError_25 (by decide) (fun _ => ?_) (fun h => absurd h (nI_neL (by omega) (by omega) hen))
          refine x_aload_n C dX5_findError_31 rfl ?_
          refine x_bipush (v := 59) C dX5_findError_32 (by decide) ?_
          refine x_callV C (c_X5_isNext_t hn q1 (by omega) q4 cs) kv_X5_isNext kl_X5_171 dX5_findError_34 mput_0 rfl rfl rfl rfl (Nat.le_of_ble_eq_true rfl) (Nat.le_of_ble_eq_true rfl) (Nat.le_of_ble_eq_true rfl) (Nat.le_of_ble_eq_true rfl) (Nat.le_of_ble_eq_true rfl) ?_
          refine x_if_ne C 5 dX5_findError_37 (by decide) (fun _ => ?_) (fun h => absurd h (by decide))
          exact hr _ _ k0 C Z
        · refine ⟨sc2, q0, by rw [q1, h1], fun N σ k0 C Z => ?_⟩
          refine x_aload_n C dX5_findError_5 rfl ?_
          refine x_callV C (HR _ _) kv_X5_readsHabit kl_X5_180 dX5_findError_6 mput_0 rfl rfl rfl rfl (Nat.le_of_ble_eq_true rfl) (Nat.le_of_ble_eq_true rfl) (Nat.le_of_ble_eq_true rfl) (Nat.le_of_ble_eq_true rfl) (Nat.le_of_ble_eq_true rfl) ?_
          refine x_if_ne C 17 dX5_findError_9 (by decide) (fun _ => ?_) (fun h => absurd h (by decide))
          refine x_aload_n C dX5_findError_17 rfl ?_
          refine x_get C kf_X5_149 mput_0 rfl dX5_findError_18 ?_
          refine x_aload_n C dX5_findError_21 rfl ?_
          refine x_get C kf_X5_146 mput_0 rfl dX5_findError_22 ?_
          rw [q4, q1]
          refine x_ic_ne C 31 dX5_findError_25 (by decide) (fun _ => ?_) (fun h => absurd h (nI_neL (by omega) (by omega) hen))
          refine x_aload_n C dX5_findError_31 rfl ?_
          refine x_bipush (v := 59) C dX5_findError_32 (by decide) ?_
          refine x_callV C (c_X5_isNext_f hn q1 (by omega) q4 cs) kv_X5_isNext kl_X5_171 dX5_findError_34 mput_0 rfl rfl rfl rfl (Nat.le_of_ble_eq_true rfl) (Nat.le_of_ble_eq_true rfl) (Nat.le_of_ble_eq_true rfl) (Nat.le_of_ble_eq_true rfl) (Nat.le_of_ble_eq_true rfl) ?_
          refine x_if_ne C 5 dX5_findError_37 (by decide) (fun h => absurd rfl h) (fun _ => ?_)
          refine x_aload_n C dX5_findError_40 rfl ?_
          refine x_get C kf_X5_149 mput_0 rfl dX5_findError_41 ?_
          exact x_zret C Z dX5_findError_44 rfl (Nat.le_of_ble_eq_true rfl) (Nat.le_of_ble_eq_true rfl) rfl rfl (q4.trans (fe_bad ge (fun hj => (ex_st hst (hdg hj)).trans (if_neg (fun z => cs ((chM_in hj).trans z)))) (Or.inl hlt)).symm)
theorem c_X5_findError {l : Launch} {E : xEnv} {B : Nat} {M : Nat} {kp ho tx : Fn} {n : Nat} (hn : n ≤ 80) {U : Vs} {sc : Fn} (h1 : sc 1 = nI n) : ∃ sc2 : Fn, sc2 0 = sc 0 ∧ sc2 1 = sc 1 ∧ ∀ (N : Nat) (σ : Sg), xM l yX5_findError cX5_findError 1 (some .int) 4 84 0 0 E B [.ref M] N (mput E σ M U kp ho tx sc) N (mput E σ M U kp ho tx sc2) (some (.int (feS tx n))) := by
  obtain ⟨sc2, q0, q1, h⟩ := fe_loop (l := l) (E := E) (B := B) (M := M) (U := U) (kp := kp) (ho := ho) hn n 0 (upd sc 4 0) (by omega) ((pk_un (by decide)).trans h1) pk_us gd_0
  refine ⟨sc2, q0.trans (pk_un (by decide)), q1.trans (pk_un (by decide)), fun N σ => ?_⟩
  refine xM_of [some (.ref _)] (by decide +kernel) (Nat.le_of_ble_eq_true rfl) rfl (fun k0 C Z => ?_)
  refine x_aload_n C dX5_findError_0 rfl ?_
  refine x_iconst (v := 0) C dX5_findError_1 (by decide) ?_
  refine x_put (ty := .int) C kf_X5_149 mput_0 rfl (by decide +kernel) rfl rfl (Nat.le_of_ble_eq_true rfl) (mput_s4 _) dX5_findError_2 ?_
  exact h _ _ k0 C Z
theorem c_X5_syntaxError {l : Launch} {E : xEnv} {B : Nat} {M : Nat} {kp ho tx : Fn} {n : Nat} (hn : n ≤ 80) {U : Vs} {sc : Fn} (h1 : sc 1 = nI n) : ∃ sc2 : Fn, sc2 0 = sc 0 ∧ sc2 1 = sc 1 ∧ ∀ (N : Nat) (σ : Sg), xM l yX5_syntaxError cX5_syntaxError 1 (some .int) 5 104 0 0 E B [.ref M] N (mput E σ M U kp ho tx sc) N (mput E σ M U kp ho tx sc2) (some (.int (feS tx n))) := by
  obtain ⟨sc2, q0, q1, h⟩ := c_X5_findError (l := l) (E := E) (B := B) (M := M) (U := U) (kp := kp) (ho := ho) hn h1
  refine ⟨sc2, q0, q1, fun N σ => ?_⟩
  refine xM_of [some (.ref _)] (by decide +kernel) (Nat.le_of_ble_eq_true rfl) rfl (fun k0 C Z => ?_)
  refine x_aload_n C dX5_syntaxError_0 rfl ?_
  refine x_callV C (h _ _) kv_X5_findError kl_X5_183 dX5_syntaxError_1 mput_0 rfl rfl rfl rfl (Nat.le_of_ble_eq_true rfl) (Nat.le_of_ble_eq_true rfl) (Nat.le_of_ble_eq_true rfl) (Nat.le_of_ble_eq_true rfl) (Nat.le_of_ble_eq_true rfl) ?_
  exact x_zret C Z dX5_syntaxError_4 rfl (Nat.le_of_ble_eq_true rfl) (Nat.le_of_ble_eq_true rfl) rfl rfl rfl
theorem le_loop {l : Launch} {E : xEnv} {B : Nat} {M : Nat} {kp ho tx : Fn} {n : Nat} (hn : n ≤ 80) (hfe : feS tx n = -6) : ∀ (d a : Nat) (sc : Fn) (W : Vs) (g : Nat), n - a ≤ d → sc 1 = nI n → sc 4 = nI a → gd tx n a 0 → ∃ (L : List (Nat × Nat × Nat × Int32)) (sc2 : Fn), HL n tx L a ∧ sc2 0 = sc 0 ∧ ∀ (N : Nat) (σ : Sg) k0, xC k0 l E B cX5_learn 3 (some .int) yX5_learn.cls yX5_learn.name 5 104 0 0 → xZ k0 0 0 N (mput E σ M (gvS W L).1 kp ho tx (upd sc2 1 0)) (some (.int (nI (g + (gvS W L).2)))) → xX k0 N 0 0 (mput E σ M W kp ho tx sc) 25 [some (.ref M), some (.int (nI g)), some (.int 1)] [] := by
  intro d
  induction d with
  | zero =>
    intro a sc W g hd h1 h4 hg
    rcases rh_cases (l := l) (E := E) (B := B) (M := M) (U := W) (kp := kp) (ho := ho) hn h1 h4 hg with ⟨sc2, q, HR, q0, q1, q4, hf2, hq⟩ | ⟨sc2, e, k, m, w, v, st, HR, q0, q1, q4, q5, q6, q7, q8, H, ge, hst, hdg⟩
    · exact absurd (hf2.symm.trans hfe) (nI_ne6 (by omega))
    · exact absurd hd (by have := H.h1; have := H.h2; omega)
  | succ d ih =>
    intro a sc W g hd h1 h4 hg
    rcases rh_cases (l := l) (E := E) (B := B) (M := M) (U := W) (kp := kp) (ho := ho) hn h1 h4 hg with ⟨sc2, q, HR, q0, q1, q4, hf2, hq⟩ | ⟨sc2, e, k, m, w, v, st, HR, q0, q1, q4, q5, q6, q7, q8, H, ge, hst, hdg⟩
    · exact absurd (hf2.symm.trans hfe) (nI_ne6 (by omega))
    · rw [h1] at q1
      have han : a < n := by have := H.h1; have := H.h2; omega
      have h514 : 14 * m + w < 84 := by have := H.h5; have := H.h7; omega
      by_cases hen : e = n
      · subst hen
        have cs : ¬ chM e tx e = 59 := by
          rw [show chM e tx e = -1 from if_neg (Nat.lt_irrefl e)]
          decide
        by_cases hp : W 10 k = 1
        · refine ⟨[(k, m, w, v)], sc2, ⟨e, H, Or.inl ⟨rfl, rfl⟩⟩, q0, fun N σ k0 C Z => ?_⟩
          rw [gvS_t hp] at Z
          refine x_iload_n C dX5_learn_25 rfl ?_
          refine x_if_eq C 95 dX5_learn_26 (by decide) (fun h => absurd h (by decide)) (fun _ => ?_)
          refine x_aload_n C dX5_learn_29 rfl ?_
          refine x_get C kf_X5_149 mput_0 rfl dX5_learn_30 ?_
          refine x_aload_n C dX5_learn_33 rfl ?_
          refine x_get C kf_X5_146 mput_0 rfl dX5_learn_34 ?_
          first | rw [h4, h1] | rw [q4, q1]
          refine x_ic_ge C 95 dX5_learn_37 (by decide) (fun h => absurd h (nI_ge han (by omega))) (fun _ => ?_)
          refine x_aload_n C dX5_learn_40 rfl ?_
          refine x_callV C (HR _ _) kv_X5_readsHabit kl_X5_180 dX5_learn_41 mput_0 rfl rfl rfl rfl (Nat.le_of_ble_eq_true rfl) (Nat.le_of_ble_eq_true rfl) (Nat.le_of_ble_eq_true rfl) (Nat.le_of_ble_eq_true rfl) (Nat.le_of_ble_eq_true rfl) ?_
          refine x_pop C dX5_learn_44 rfl ?_
          refine x_aload_n C dX5_learn_45 rfl ?_
          refine x_bipush (v := 59) C dX5_learn_46 (by decide) ?_
          refine x_callV C (c_X5_isNext_f hn q1 (by omega) q4 cs) kv_X5_isNext kl_X5_171 dX5_learn_48 mput_0 rfl rfl rfl rfl (Nat.le_of_ble_eq_true rfl) (Nat.le_of_ble_eq_true rfl) (Nat.le_of_ble_eq_true rfl) (Nat.le_of_ble_eq_true rfl) (Nat.le_of_ble_eq_true rfl) ?_
          refine x_pop C dX5_learn_51 rfl ?_
          refine x_aload_n C dX5_learn_52 rfl ?_
          refine x_aload_n C dX5_learn_53 rfl ?_
          refine x_get C kf_X5_168 mput_0 rfl dX5_learn_54 ?_
          rw [q6]
          refine x_callV C (c_X5_isSpeaker_k H.h3) kv_X5_isSpeaker kl_X5_45 dX5_learn_57 mput_0 rfl rfl rfl rfl (Nat.le_of_ble_eq_true rfl) (Nat.le_of_ble_eq_true rfl) (Nat.le_of_ble_eq_true rfl) (Nat.le_of_ble_eq_true rfl) (Nat.le_of_ble_eq_true rfl) ?_
          rw [b_t hp]
          refine x_istore_n C dX5_learn_60 (by decide) rfl ?_
          refine x_iload_n C dX5_learn_61 rfl ?_
          refine x_if_eq C 25 dX5_learn_62 (by decide) (fun h => absurd h (by decide)) (fun _ => ?_)
          refine x_aload_n C dX5_learn_65 rfl ?_
          refine x_get C kf_X5_7 mput_0 rfl dX5_learn_66 ?_
          refine x_aload_n C dX5_learn_69 rfl ?_
          refine x_get C kf_X5_168 mput_0 rfl dX5_learn_70 ?_
          refine x_aload_n C dX5_learn_73 rfl ?_
          refine x_get C kf_X5_174 mput_0 rfl dX5_learn_74 ?_
          refine x_aload_n C dX5_learn_77 rfl ?_
          refine x_get C kf_X5_162 mput_0 rfl dX5_learn_78 ?_
          rw [q6, q7, q8]
          refine x_callS C (c_X5_weightAt k m w) ks_X5_weightAt kl_X5_38 dX5_learn_81 rfl rfl rfl rfl (Nat.le_of_ble_eq_true rfl) (Nat.le_of_ble_eq_true rfl) (Nat.le_of_ble_eq_true rfl) (Nat.le_of_ble_eq_true rfl) (Nat.le_of_ble_eq_true rfl) ?_
          refine x_aload_n C dX5_learn_84 rfl ?_
          refine x_get C kf_X5_155 mput_0 rfl dX5_learn_85 ?_
          rw [q5]
          refine x_iast2 C mput_1 rfl (by have := H.h3; omega) (by decide) (flu_w H.h3 h514 _) (mput_st _) dX5_learn_88 ?_
          refine x_iinc C dX5_learn_89 rfl (nI_inc _) (by decide) rfl ?_
          refine x_goto C 25 dX5_learn_92 (by decide) ?_
          refine x_iload_n C dX5_learn_25 rfl ?_
          refine x_if_eq C 95 dX5_learn_26 (by decide) (fun h => absurd h (by decide)) (fun _ => ?_)
          refine x_aload_n C dX5_learn_29 rfl ?_
          refine x_get C kf_X5_149 mput_0 rfl dX5_learn_30 ?_
          refine x_aload_n C dX5_learn_33 rfl ?_
          refine x_get C kf_X5_146 mput_0 rfl dX5_learn_34 ?_
          first | rw [h4, h1] | rw [q4, q1]
          refine x_ic_ge C 95 dX5_learn_37 (by decide) (fun _ => ?_) (fun h => absurd (Int32.le_refl _) h)
          refine x_aload_n C dX5_learn_95 rfl ?_
          refine x_iconst (v := 0) C dX5_learn_96 (by decide) ?_
          refine x_put (ty := .int) C kf_X5_146 mput_0 rfl (by decide +kernel) rfl rfl (Nat.le_of_ble_eq_true rfl) (mput_s1 _) dX5_learn_97 ?_
          refine x_iload_n C dX5_learn_100 rfl ?_
          exact x_zret C Z dX5_learn_101 rfl (Nat.le_of_ble_eq_true rfl) (Nat.le_of_ble_eq_true rfl) rfl rfl rfl
        · refine ⟨[(k, m, w, v)], sc2, ⟨e, H, Or.inl ⟨rfl, rfl⟩⟩, q0, fun N σ k0 C Z => ?_⟩
          rw [gvS_f hp] at Z
          refine x_iload_n C dX5_learn_25 rfl ?_
          refine x_if_eq C 95 dX5_learn_26 (by decide) (fun h => absurd h (by decide)) (fun _ => ?_)
          refine x_aload_n C dX5_learn_29 rfl ?_
          refine x_get C kf_X5_149 mput_0 rfl dX5_learn_30 ?_
          refine x_aload_n C dX5_learn_33 rfl ?_
          refine x_get C kf_X5_146 mput_0 rfl dX5_learn_34 ?_
          first | rw [h4, h1] | rw [q4, q1]
          refine x_ic_ge C 95 dX5_learn_37 (by decide) (fun h => absurd h (nI_ge han (by omega))) (fun _ => ?_)
          refine x_aload_n C dX5_learn_40 rfl ?_
          refine x_callV C (HR _ _) kv_X5_readsHabit kl_X5_180 dX5_learn_41 mput_0 rfl rfl rfl rfl (Nat.le_of_ble_eq_true rfl) (Nat.le_of_ble_eq_true rfl) (Nat.le_of_ble_eq_true rfl) (Nat.le_of_ble_eq_true rfl) (Nat.le_of_ble_eq_true rfl) ?_
          refine x_pop C dX5_learn_44 rfl ?_
          refine x_aload_n C dX5_learn_45 rfl ?_
          refine x_bipush (v := 59) C dX5_learn_46 (by decide) ?_
          refine x_callV C (c_X5_isNext_f hn q1 (by omega) q4 cs) kv_X5_isNext kl_X5_171 dX5_learn_48 mput_0 rfl rfl rfl rfl (Nat.le_of_ble_eq_true rfl) (Nat.le_of_ble_eq_true rfl) (Nat.le_of_ble_eq_true rfl) (Nat.le_of_ble_eq_true rfl) (Nat.le_of_ble_eq_true rfl) ?_
          refine x_pop C dX5_learn_51 rfl ?_
          refine x_aload_n C dX5_learn_52 rfl ?_
          refine x_aload_n C dX5_learn_53 rfl ?_
          refine x_get C kf_X5_168 mput_0 rfl dX5_learn_54 ?_
          rw [q6]
          refine x_callV C (c_X5_isSpeaker_k H.h3) kv_X5_isSpeaker kl_X5_45 dX5_learn_57 mput_0 rfl rfl rfl rfl (Nat.le_of_ble_eq_true rfl) (Nat.le_of_ble_eq_true rfl) (Nat.le_of_ble_eq_true rfl) (Nat.le_of_ble_eq_true rfl) (Nat.le_of_ble_eq_true rfl) ?_
          rw [b_f hp]
          refine x_istore_n C dX5_learn_60 (by decide) rfl ?_
          refine x_iload_n C dX5_learn_61 rfl ?_
          refine x_if_eq C 25 dX5_learn_62 (by decide) (fun _ => ?_) (fun h => absurd rfl h)
          refine x_iload_n C dX5_learn_25 rfl ?_
          refine x_if_eq C 95 dX5_learn_26 (by decide) (fun _ => ?_) (fun h => absurd rfl h)
          refine x_aload_n C dX5_learn_95 rfl ?_
          refine x_iconst (v := 0) C dX5_learn_96 (by decide) ?_
          refine x_put (ty := .int) C kf_X5_146 mput_0 rfl (by decide +kernel) rfl rfl (Nat.le_of_ble_eq_true rfl) (mput_s1 _) dX5_learn_97 ?_
          refine x_iload_n C dX5_learn_100 rfl ?_
          exact x_zret C Z dX5_learn_101 rfl (Nat.le_of_ble_eq_true rfl) (Nat.le_of_ble_eq_true rfl) rfl rfl rfl
      · have hlt : e < n := by have := H.h2; omega
        have cs : chM n tx e = 59 := by
          by_cases cs : chM n tx e = 59
          · exact cs
          · exact absurd ((fe_bad ge (fun hj => (ex_st hst (hdg hj)).trans (if_neg (fun z => cs ((chM_in hj).trans z)))) (Or.inl hlt)).symm.trans hfe) (nI_ne6 (by omega))
        have t9 : tx e = 59 := (chM_in hlt).symm.trans cs
        have g9 : gd tx n (e + 1) 0 := gd_s ge hlt ((ex_st hst (hdg hlt)).trans (by rw [t9]; decide)) (by decide)
        have r5 : upd sc2 4 (nI (e + 1)) 5 = v := (pk_un (by decide)).trans q5
        have r6 : upd sc2 4 (nI (e + 1)) 6 = nI k := (pk_un (by decide)).trans q6
        have r7 : upd sc2 4 (nI (e + 1)) 7 = nI m := (pk_un (by decide)).trans q7
        have r8 : upd sc2 4 (nI (e + 1)) 8 = nI w := (pk_un (by decide)).trans q8
        by_cases hp : W 10 k = 1
        · obtain ⟨L, sc3, hL, r0, hr⟩ := ih (e + 1) (upd sc2 4 (nI (e + 1))) (up2 W k (14 * m + w) v) (g + 1) (by have := H.h1; omega) ((pk_un (by decide)).trans q1) pk_us g9
          refine ⟨(k, m, w, v) :: L, sc3, ⟨e, H, Or.inr ⟨hlt, t9, hL⟩⟩, r0.trans ((pk_un (by decide)).trans q0), fun N σ k0 C Z => ?_⟩
          rw [gvS_t hp] at Z
          dsimp only at Z
          rw [show g + ((gvS (up2 W k (14 * m + w) v) L).2 + 1) = g + 1 + (gvS (up2 W k (14 * m + w) v) L).2 by omega] at Z
          refine x_iload_n C dX5_learn_25 rfl ?_
          refine x_if_eq C 95 dX5_learn_26 (by decide) (fun h => absurd h (by decide)) (fun _ => ?_)
          refine x_aload_n C dX5_learn_29 rfl ?_
          refine x_get C kf_X5_149 mput_0 rfl dX5_learn_30 ?_
          refine x_aload_n C dX5_learn_33 rfl ?_
          refine x_get C kf_X5_146 mput_0 rfl dX5_learn_34 ?_
          first | rw [h4, h1] | rw [q4, q1]
          refine x_ic_ge C 95 dX5_learn_37 (by decide) (fun h => absurd h (nI_ge han (by omega))) (fun _ => ?_)
          refine x_aload_n C dX5_learn_40 rfl ?_
          refine x_callV C (HR _ _) kv_X5_readsHabit kl_X5_180 dX5_learn_41 mput_0 rfl rfl rfl rfl (Nat.le_of_ble_eq_true rfl) (Nat.le_of_ble_eq_true rfl) (Nat.le_of_ble_eq_true rfl) (Nat.le_of_ble_eq_true rfl) (Nat.le_of_ble_eq_true rfl) ?_
          refine x_pop C dX5_learn_44 rfl ?_
          refine x_aload_n C dX5_learn_45 rfl ?_
          refine x_bipush (v := 59) C dX5_learn_46 (by decide) ?_
          refine x_callV C (c_X5_isNext_t hn q1 (by omega) q4 cs) kv_X5_isNext kl_X5_171 dX5_learn_48 mput_0 rfl rfl rfl rfl (Nat.le_of_ble_eq_true rfl) (Nat.le_of_ble_eq_true rfl) (Nat.le_of_ble_eq_true rfl) (Nat.le_of_ble_eq_true rfl) (Nat.le_of_ble_eq_true rfl) ?_
          refine x_pop C dX5_learn_51 rfl ?_
          refine x_aload_n C dX5_learn_52 rfl ?_
          refine x_aload_n C dX5_learn_53 rfl ?_
          refine x_get C kf_X5_168 mput_0 rfl dX5_learn_54 ?_
          rw [r6]
          refine x_callV C (c_X5_isSpeaker_k H.h3) kv_X5_isSpeaker kl_X5_45 dX5_learn_57 mput_0 rfl rfl rfl rfl (Nat.le_of_ble_eq_true rfl) (Nat.le_of_ble_eq_true rfl) (Nat.le_of_ble_eq_true rfl) (Nat.le_of_ble_eq_true rfl) (Nat.le_of_ble_eq_true rfl) ?_
          rw [b_t hp]
          refine x_istore_n C dX5_learn_60 (by decide) rfl ?_
          refine x_iload_n C dX5_learn_61 rfl ?_
          refine x_if_eq C 25 dX5_learn_62 (by decide) (fun h => absurd h (by decide)) (fun _ => ?_)
          refine x_aload_n C dX5_learn_65 rfl ?_
          refine x_get C kf_X5_7 mput_0 rfl dX5_learn_66 ?_
          refine x_aload_n C dX5_learn_69 rfl ?_
          refine x_get C kf_X5_168 mput_0 rfl dX5_learn_70 ?_
          refine x_aload_n C dX5_learn_73 rfl ?_
          refine x_get C kf_X5_174 mput_0 rfl dX5_learn_74 ?_
          refine x_aload_n C dX5_learn_77 rfl ?_
          refine x_get C kf_X5_162 mput_0 rfl dX5_learn_78 ?_
          rw [r6, r7, r8]
          refine x_callS C (c_X5_weightAt k m w) ks_X5_weightAt kl_X5_38 dX5_learn_81 rfl rfl rfl rfl (Nat.le_of_ble_eq_true rfl) (Nat.le_of_ble_eq_true rfl) (Nat.le_of_ble_eq_true rfl) (Nat.le_of_ble_eq_true rfl) (Nat.le_of_ble_eq_true rfl) ?_
          refine x_aload_n C dX5_learn_84 rfl ?_
          refine x_get C kf_X5_155 mput_0 rfl dX5_learn_85 ?_
          rw [r5]
          refine x_iast2 C mput_1 rfl (by have := H.h3; omega) (by decide) (flu_w H.h3 h514 _) (mput_st _) dX5_learn_88 ?_
          refine x_iinc C dX5_learn_89 rfl (nI_inc _) (by decide) rfl ?_
          refine x_goto C 25 dX5_learn_92 (by decide) ?_
          exact hr _ _ k0 C Z
        · obtain ⟨L, sc3, hL, r0, hr⟩ := ih (e + 1) (upd sc2 4 (nI (e + 1))) W g (by have := H.h1; omega) ((pk_un (by decide)).trans q1) pk_us g9
          refine ⟨(k, m, w, v) :: L, upd sc2 4 (nI (e + 1)), ⟨e, H, Or.inr ⟨hlt, t9, hL⟩⟩, (pk_un (by decide)).trans q0, fun N σ k0 C Z => ?_⟩
          rw [gvS_f hp] at Z
          refine x_iload_n C dX5_learn_25 rfl ?_
          refine x_if_eq C 95 dX5_learn_26 (by decide) (fun h => absurd h (by decide)) (fun _ => ?_)
          refine x_aload_n C dX5_learn_29 rfl ?_
          refine x_get C kf_X5_149 mput_0 rfl dX5_learn_30 ?_
          refine x_aload_n C dX5_learn_33 rfl ?_
          refine x_get C kf_X5_146 mput_0 rfl dX5_learn_34 ?_
          first | rw [h4, h1] | rw [q4, q1]
          refine x_ic_ge C 95 dX5_learn_37 (by decide) (fun h => absurd h (nI_ge han (by omega))) (fun _ => ?_)
          refine x_aload_n C dX5_learn_40 rfl ?_
          refine x_callV C (HR _ _) kv_X5_readsHabit kl_X5_180 dX5_learn_41 mput_0 rfl rfl rfl rfl (Nat.le_of_ble_eq_true rfl) (Nat.le_of_ble_eq_true rfl) (Nat.le_of_ble_eq_true rfl) (Nat.le_of_ble_eq_true rfl) (Nat.le_of_ble_eq_true rfl) ?_
          refine x_pop C dX5_learn_44 rfl ?_
          refine x_aload_n C dX5_learn_45 rfl ?_
          refine x_bipush (v := 59) C dX5_learn_46 (by decide) ?_
          refine x_callV C (c_X5_isNext_t hn q1 (by omega) q4 cs) kv_X5_isNext kl_X5_171 dX5_learn_48 mput_0 rfl rfl rfl rfl (Nat.le_of_ble_eq_true rfl) (Nat.le_of_ble_eq_true rfl) (Nat.le_of_ble_eq_true rfl) (Nat.le_of_ble_eq_true rfl) (Nat.le_of_ble_eq_true rfl) ?_
          refine x_pop C dX5_learn_51 rfl ?_
          refine x_aload_n C dX5_learn_52 rfl ?_
          refine x_aload_n C dX5_learn_53 rfl ?_
          refine x_get C kf_X5_168 mput_0 rfl dX5_learn_54 ?_
          rw [r6]
          refine x_callV C (c_X5_isSpeaker_k H.h3) kv_X5_isSpeaker kl_X5_45 dX5_learn_57 mput_0 rfl rfl rfl rfl (Nat.le_of_ble_eq_true rfl) (Nat.le_of_ble_eq_true rfl) (Nat.le_of_ble_eq_true rfl) (Nat.le_of_ble_eq_true rfl) (Nat.le_of_ble_eq_true rfl) ?_
          rw [b_f hp]
          refine x_istore_n C dX5_learn_60 (by decide) rfl ?_
          refine x_iload_n C dX5_learn_61 rfl ?_
          refine x_if_eq C 25 dX5_learn_62 (by decide) (fun _ => ?_) (fun h => absurd rfl h)
          refine x_iload_n C dX5_learn_25 rfl ?_
          refine x_if_eq C 95 dX5_learn_26 (by decide) (fun _ => ?_) (fun h => absurd rfl h)
          refine x_aload_n C dX5_learn_95 rfl ?_
          refine x_iconst (v := 0) C dX5_learn_96 (by decide) ?_
          refine x_put (ty := .int) C kf_X5_146 mput_0 rfl (by decide +kernel) rfl rfl (Nat.le_of_ble_eq_true rfl) (mput_s1 _) dX5_learn_97 ?_
          refine x_iload_n C dX5_learn_100 rfl ?_
          exact x_zret C Z dX5_learn_101 rfl (Nat.le_of_ble_eq_true rfl) (Nat.le_of_ble_eq_true rfl) rfl rfl rfl
theorem c_X5_learn_bad {l : Launch} {E : xEnv} {B : Nat} {M : Nat} {kp ho tx : Fn} {n : Nat} (hn : n ≤ 80) {U : Vs} {sc : Fn} (h1 : sc 1 = nI n) (hb : ¬ feS tx n = -6) : ∃ sc2 : Fn, sc2 0 = sc 0 ∧ sc2 1 = sc 1 ∧ ∀ (N : Nat) (σ : Sg), xM l yX5_learn cX5_learn 3 (some .int) 5 104 0 0 E B [.ref M] N (mput E σ M U kp ho tx sc) N (mput E σ M U kp ho tx sc2) (some (.int (-5))) := by
  obtain ⟨sc2, q0, q1, h⟩ := c_X5_findError (l := l) (E := E) (B := B) (M := M) (U := U) (kp := kp) (ho := ho) hn h1
  refine ⟨sc2, q0, q1, fun N σ => ?_⟩
  refine xM_of [some (.ref _), none, none] (by decide +kernel) (Nat.le_of_ble_eq_true rfl) rfl (fun k0 C Z => ?_)
  refine x_aload_n C dX5_learn_0 rfl ?_
  refine x_callV C (h _ _) kv_X5_findError kl_X5_183 dX5_learn_1 mput_0 rfl rfl rfl rfl (Nat.le_of_ble_eq_true rfl) (Nat.le_of_ble_eq_true rfl) (Nat.le_of_ble_eq_true rfl) (Nat.le_of_ble_eq_true rfl) (Nat.le_of_ble_eq_true rfl) ?_
  refine x_bipush (v := (-6)) C dX5_learn_4 (by decide) ?_
  refine x_ic_eq C 12 dX5_learn_6 (by decide) (fun h => absurd h hb) (fun _ => ?_)
  refine x_bipush (v := (-5)) C dX5_learn_9 (by decide) ?_
  exact x_zret C Z dX5_learn_11 rfl (Nat.le_of_ble_eq_true rfl) (Nat.le_of_ble_eq_true rfl) rfl rfl rfl
theorem c_X5_learn_ok {l : Launch} {E : xEnv} {B : Nat} {M : Nat} {kp ho tx : Fn} {n : Nat} (hn : n ≤ 80) {U : Vs} {sc : Fn} (h1 : sc 1 = nI n) {z : Nat} (hz : z ≤ 6) (h0 : sc 0 = nI z) (hb : feS tx n = -6) : ∃ (L : List (Nat × Nat × Nat × Int32)) (sc2 : Fn), HL n tx L 0 ∧ sc2 0 = nI (min 6 (z + 1)) ∧ sc2 1 = 0 ∧ ∀ (N : Nat) (σ : Sg), xM l yX5_learn cX5_learn 3 (some .int) 5 104 0 0 E B [.ref M] N (mput E σ M U kp ho tx sc) N (mput E σ M (gvS U L).1 kp (rcH ho U z) tx sc2) (some (.int (nI (gvS U L).2))) := by
  obtain ⟨sc2, q0, q1, h⟩ := c_X5_findError (l := l) (E := E) (B := B) (M := M) (U := U) (kp := kp) (ho := ho) hn h1
  obtain ⟨L, sc3, hL, r0, hr⟩ := le_loop (l := l) (E := E) (B := B) (M := M) (kp := kp) (ho := rcH ho U z) hn hb n 0 (upd (upd sc2 0 (nI (min 6 (z + 1)))) 4 0) U 0 (by omega) ((pk_un (by decide)).trans ((pk_un (by decide)).trans (q1.trans h1))) pk_us gd_0
  refine ⟨L, upd sc3 1 0, hL, (pk_un (by decide)).trans (r0.trans ((pk_un (by decide)).trans pk_us)), pk_us, fun N σ => ?_⟩
  refine xM_of [some (.ref _), none, none] (by decide +kernel) (Nat.le_of_ble_eq_true rfl) rfl (fun k0 C Z => ?_)
  rw [← Nat.zero_add (gvS U L).2] at Z
  refine x_aload_n C dX5_learn_0 rfl ?_
  refine x_callV C (h _ _) kv_X5_findError kl_X5_183 dX5_learn_1 mput_0 rfl rfl rfl rfl (Nat.le_of_ble_eq_true rfl) (Nat.le_of_ble_eq_true rfl) (Nat.le_of_ble_eq_true rfl) (Nat.le_of_ble_eq_true rfl) (Nat.le_of_ble_eq_true rfl) ?_
  refine x_bipush (v := (-6)) C dX5_learn_4 (by decide) ?_
  refine x_ic_eq C 12 dX5_learn_6 (by decide) (fun _ => ?_) (fun h => absurd hb h)
  refine x_aload_n C dX5_learn_12 rfl ?_
  refine x_callV C (c_X5_record hz (q0.trans h0)) kv_X5_record kl_X5_86 dX5_learn_13 mput_0 rfl rfl rfl rfl (Nat.le_of_ble_eq_true rfl) (Nat.le_of_ble_eq_true rfl) (Nat.le_of_ble_eq_true rfl) (Nat.le_of_ble_eq_true rfl) (Nat.le_of_ble_eq_true rfl) ?_
  refine x_iconst (v := 0) C dX5_learn_16 (by decide) ?_
  refine x_istore_n C dX5_learn_17 (by decide) rfl ?_
  refine x_aload_n C dX5_learn_18 rfl ?_
  refine x_iconst (v := 0) C dX5_learn_19 (by decide) ?_
  refine x_put (ty := .int) C kf_X5_149 mput_0 rfl (by decide +kernel) rfl rfl (Nat.le_of_ble_eq_true rfl) (mput_s4 _) dX5_learn_20 ?_
  refine x_iconst (v := 1) C dX5_learn_23 (by decide) ?_
  refine x_istore_n C dX5_learn_24 (by decide) rfl ?_
  exact hr _ _ k0 C Z
