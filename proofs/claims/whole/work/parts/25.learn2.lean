set_option maxRecDepth 100000 in
set_option maxHeartbeats 1000000 in
theorem c_X0_giveHabits {l : Launch} {E : xEnv} {B N : Nat} {σ : Sg} {VV : Cs} {p z n : Nat} {tx : Fn} {L : List (Nat × Nat × Nat × Int32)} (hn : n ≤ 80) (hL : HL n tx L 0) : xM l yX0_giveHabits cX0_giveHabits 6 (some .int) 4 90 0 0 E B [.ref (B + 163), .ref (B + 1)] N (cput E σ B VV (nI p) (nI z) (nI n) tx) N (cput E σ B (upV VV 0 (gvS (VV 0) L).1) (nI p) (nI z) (nI n) tx) (some (.int (nI (gvS (VV 0) L).2))) := by
  refine xM_of [some (.ref _), some (.ref _), none, none, none, none] (by decide +kernel) (Nat.le_of_ble_eq_true rfl) rfl (fun k0 C Z => ?_)
  have hit : ∀ (a e k m w : Nat) (v : Int32) (g : Nat) (W : Vs), Hab n tx a e k m w v → (W 10 k = 1 → xX k0 N 0 0 (cput E σ B (upV VV 0 (up2 W k (14 * m + w) v)) (nI p) (nI z) (nI n) tx) 7 [some (.ref (B + 163)), some (.ref (B + 1)), some (.int (nI (g + 1))), some (.int (nI (e + 1))), some (.int (nI (e + 1))), none] []) → (¬ W 10 k = 1 → g = (gvS (VV 0) L).2 ∧ W = (gvS (VV 0) L).1) → xX k0 N 0 0 (cput E σ B (upV VV 0 W) (nI p) (nI z) (nI n) tx) 39 [some (.ref (B + 163)), some (.ref (B + 1)), some (.int (nI g)), some (.int (nI a)), some (.int (nI e)), none] [] := by
    intro a e k m w v g W H hy hn1
    refine x_aload_n C dX0_giveHabits_39 rfl ?_
    refine x_aload_n C dX0_giveHabits_40 rfl ?_
    refine x_iload_n C dX0_giveHabits_41 rfl ?_
    refine x_callV C (c_X0_digitAt (by have := H.h1; have := H.h2; omega) hn) kv_X0_digitAt kl_X0_44 dX0_giveHabits_42 cput_163 cput_tt.symm cput_tt rfl rfl (Nat.le_of_ble_eq_true rfl) (Nat.le_of_ble_eq_true rfl) (Nat.le_of_ble_eq_true rfl) (Nat.le_of_ble_eq_true rfl) (Nat.le_of_ble_eq_true rfl) ?_
    by_cases hp1 : W 10 k = 1
    · skip
      rw [sg_in (show a < n by have := H.h1; have := H.h2; omega), H.h4]
      refine x_callV C (c_X3_find_some H.h3 hp1) kv_X3_find kl_X0_47 dX0_giveHabits_45 cput_h0 (cput_is0 upV_s) (cput_is0 upV_s).symm rfl rfl (Nat.le_of_ble_eq_true rfl) (Nat.le_of_ble_eq_true rfl) (Nat.le_of_ble_eq_true rfl) (Nat.le_of_ble_eq_true rfl) (Nat.le_of_ble_eq_true rfl) ?_
      refine x_astore C dX0_giveHabits_48 (by decide) rfl ?_
      refine x_aload C dX0_giveHabits_50 rfl ?_
      refine x_ifnn C 57 dX0_giveHabits_52 (by decide) ?_
      refine x_aload_n C dX0_giveHabits_57 rfl ?_
      refine x_aload C dX0_giveHabits_58 rfl ?_
      refine x_iload_n C dX0_giveHabits_60 rfl ?_
      refine x_iload C dX0_giveHabits_61 rfl ?_
      refine x_callV C (c_X0_giveHabit hn H) kv_X0_giveHabit kl_X0_53 dX0_giveHabits_63 cput_163 rfl rfl rfl rfl (Nat.le_of_ble_eq_true rfl) (Nat.le_of_ble_eq_true rfl) (Nat.le_of_ble_eq_true rfl) (Nat.le_of_ble_eq_true rfl) (Nat.le_of_ble_eq_true rfl) ?_
      rw [upV_u, upV_s]
      refine x_iinc C dX0_giveHabits_66 rfl (nI_inc _) (by decide) rfl ?_
      refine x_iload C dX0_giveHabits_69 rfl ?_
      refine x_iconst (v := 1) C dX0_giveHabits_71 (by decide) ?_
      refine x_iadd C dX0_giveHabits_72 ?_
      refine x_istore_n C dX0_giveHabits_73 (by decide) rfl ?_
      refine x_iinc C dX0_giveHabits_74 rfl (nI_inc _) (by decide) rfl ?_
      refine x_goto C 7 dX0_giveHabits_77 (by decide) ?_
      refine xX.cl (hy hp1) rfl (And.intro rfl (And.intro rfl (And.intro rfl (And.intro (congrArg (fun z => some (some (Value.int z))) (nI_1 e)) (And.intro rfl trivial))))) rfl
    · skip
      rw [sg_in (show a < n by have := H.h1; have := H.h2; omega), H.h4]
      obtain ⟨rfl, rfl⟩ := hn1 hp1
      refine x_callV C (c_X3_find_none (no_f H.h3 hp1)) kv_X3_find kl_X0_47 dX0_giveHabits_45 cput_h0 (cput_is0 upV_s) (cput_is0 upV_s).symm rfl rfl (Nat.le_of_ble_eq_true rfl) (Nat.le_of_ble_eq_true rfl) (Nat.le_of_ble_eq_true rfl) (Nat.le_of_ble_eq_true rfl) (Nat.le_of_ble_eq_true rfl) ?_
      refine x_astoreN C dX0_giveHabits_48 (by decide) rfl ?_
      refine x_aloadN C dX0_giveHabits_50 rfl ?_
      refine x_ifnnN C dX0_giveHabits_52 ?_
      refine x_iload_n C dX0_giveHabits_55 rfl ?_
      exact x_zret C Z dX0_giveHabits_56 rfl (Nat.le_of_ble_eq_true rfl) (Nat.le_of_ble_eq_true rfl) rfl rfl rfl
  have sk : ∀ (a e k m w : Nat) (v : Int32) (g : Nat) (W : Vs), Hab n tx a e k m w v → (e = n ∨ (e < n ∧ tx e = 59)) → xX k0 N 0 0 (cput E σ B (upV VV 0 W) (nI p) (nI z) (nI n) tx) 39 [some (.ref (B + 163)), some (.ref (B + 1)), some (.int (nI g)), some (.int (nI a)), some (.int (nI e)), none] [] → ∀ t, t ≤ e - a → xX k0 N 0 0 (cput E σ B (upV VV 0 W) (nI p) (nI z) (nI n) tx) 7 [some (.ref (B + 163)), some (.ref (B + 1)), some (.int (nI g)), some (.int (nI a)), some (.int (nI (a + t))), none] [] := by
    intro a e k m w v g W H he hy
    refine x_for (e - a) ?_ ?_
    · rw [show a + (e - a) = e by have := H.h1; omega]
      rcases he with rfl | ⟨he, h59⟩
      · refine x_iload C dX0_giveHabits_7 rfl ?_
        refine x_aload_n C dX0_giveHabits_9 rfl ?_
        refine x_get C kf_X0_15 cput_163 rfl dX0_giveHabits_10 ?_
        refine x_ic_gt C 80 dX0_giveHabits_13 (by decide) (fun h => absurd h (fun z => absurd z (Int32.not_lt.mpr (Int32.le_refl _)))) (fun _ => ?_)
        refine x_iload C dX0_giveHabits_16 rfl ?_
        refine x_aload_n C dX0_giveHabits_18 rfl ?_
        refine x_get C kf_X0_15 cput_163 rfl dX0_giveHabits_19 ?_
        refine x_ic_ge C 39 dX0_giveHabits_22 (by decide) (fun _ => ?_) (fun h => absurd (Int32.le_refl _) h)
        refine xX.cl hy rfl (And.intro rfl (And.intro rfl (And.intro rfl (And.intro rfl (And.intro rfl trivial))))) rfl
      · refine x_iload C dX0_giveHabits_7 rfl ?_
        refine x_aload_n C dX0_giveHabits_9 rfl ?_
        refine x_get C kf_X0_15 cput_163 rfl dX0_giveHabits_10 ?_
        refine x_ic_gt C 80 dX0_giveHabits_13 (by decide) (fun h => absurd h (nI_nlt (by omega) (by omega))) (fun _ => ?_)
        refine x_iload C dX0_giveHabits_16 rfl ?_
        refine x_aload_n C dX0_giveHabits_18 rfl ?_
        refine x_get C kf_X0_15 cput_163 rfl dX0_giveHabits_19 ?_
        refine x_ic_ge C 39 dX0_giveHabits_22 (by decide) (fun h => absurd h (nI_ge he (by omega))) (fun _ => ?_)
        refine x_aload_n C dX0_giveHabits_25 rfl ?_
        refine x_iload C dX0_giveHabits_26 rfl ?_
        refine x_callV C (c_X0_signAt (by have := H.h1; have := H.h2; omega) hn) kv_X0_signAt kl_X0_23 dX0_giveHabits_28 cput_163 cput_tt.symm cput_tt rfl rfl (Nat.le_of_ble_eq_true rfl) (Nat.le_of_ble_eq_true rfl) (Nat.le_of_ble_eq_true rfl) (Nat.le_of_ble_eq_true rfl) (Nat.le_of_ble_eq_true rfl) ?_
        rw [sg_in he]
        refine x_bipush (v := 59) C dX0_giveHabits_31 (by decide) ?_
        refine x_ic_eq C 39 dX0_giveHabits_33 (by decide) (fun _ => ?_) (fun h => absurd h59 h)
        refine xX.cl hy rfl (And.intro rfl (And.intro rfl (And.intro rfl (And.intro rfl (And.intro rfl trivial))))) rfl
    · intro t ht ih
      refine x_iload C dX0_giveHabits_7 rfl ?_
      refine x_aload_n C dX0_giveHabits_9 rfl ?_
      refine x_get C kf_X0_15 cput_163 rfl dX0_giveHabits_10 ?_
      refine x_ic_gt C 80 dX0_giveHabits_13 (by decide) (fun h => absurd h (nI_nlt (by have := H.h2; omega) (by omega))) (fun _ => ?_)
      refine x_iload C dX0_giveHabits_16 rfl ?_
      refine x_aload_n C dX0_giveHabits_18 rfl ?_
      refine x_get C kf_X0_15 cput_163 rfl dX0_giveHabits_19 ?_
      refine x_ic_ge C 39 dX0_giveHabits_22 (by decide) (fun h => absurd h (nI_ge (show a + t < n by have := H.h2; omega) (by omega))) (fun _ => ?_)
      refine x_aload_n C dX0_giveHabits_25 rfl ?_
      refine x_iload C dX0_giveHabits_26 rfl ?_
      refine x_callV C (c_X0_signAt (by have := H.h1; have := H.h2; omega) hn) kv_X0_signAt kl_X0_23 dX0_giveHabits_28 cput_163 cput_tt.symm cput_tt rfl rfl (Nat.le_of_ble_eq_true rfl) (Nat.le_of_ble_eq_true rfl) (Nat.le_of_ble_eq_true rfl) (Nat.le_of_ble_eq_true rfl) (Nat.le_of_ble_eq_true rfl) ?_
      rw [sg_in (show a + t < n by have := H.h2; omega)]
      refine x_bipush (v := 59) C dX0_giveHabits_31 (by decide) ?_
      refine x_ic_eq C 39 dX0_giveHabits_33 (by decide) (fun h => absurd h (H.h10 (a + t) (by omega) (by omega))) (fun _ => ?_)
      refine x_goto C 74 dX0_giveHabits_36 (by decide) ?_
      refine x_iinc C dX0_giveHabits_74 rfl (nI_inc _) (by decide) rfl ?_
      refine x_goto C 7 dX0_giveHabits_77 (by decide) ?_
      refine xX.cl ih rfl (And.intro rfl (And.intro rfl (And.intro rfl (And.intro rfl (And.intro rfl trivial))))) rfl
  have key : ∀ (M : List (Nat × Nat × Nat × Int32)) (a g : Nat) (W : Vs), HL n tx M a → g + (gvS W M).2 = (gvS (VV 0) L).2 → (gvS W M).1 = (gvS (VV 0) L).1 → xX k0 N 0 0 (cput E σ B (upV VV 0 W) (nI p) (nI z) (nI n) tx) 7 [some (.ref (B + 163)), some (.ref (B + 1)), some (.int (nI g)), some (.int (nI a)), some (.int (nI a)), none] [] := by
    intro M
    induction M with
    | nil => intro a g W h; exact h.elim
    | cons q M ih =>
      obtain ⟨k, m, w, v⟩ := q
      intro a g W h hg hW
      obtain ⟨e, H, hc⟩ := h
      have ho : e = n ∨ (e < n ∧ tx e = 59) := hc.elim (fun z => Or.inl z.1) (fun z => Or.inr ⟨z.1, z.2.1⟩)
      refine sk a e k m w v g W H ho (hit a e k m w v g W H (fun hp1 => ?_) (fun hp1 => ?_)) 0 (Nat.zero_le _)
      · rw [gvS_t hp1] at hg hW
        rcases hc with ⟨rfl, rfl⟩ | ⟨h1, h2, h3⟩
        · have hg2 : g + 1 = (gvS (VV 0) L).2 := hg
          have hW2 : up2 W k (14 * m + w) v = (gvS (VV 0) L).1 := hW
          rw [hW2, hg2]
          refine x_iload C dX0_giveHabits_7 rfl ?_
          refine x_aload_n C dX0_giveHabits_9 rfl ?_
          refine x_get C kf_X0_15 cput_163 rfl dX0_giveHabits_10 ?_
          refine x_ic_gt C 80 dX0_giveHabits_13 (by decide) (fun _ => ?_) (fun h => absurd (nI_lt (Nat.lt_succ_self _) (by omega)) h)
          refine x_iload_n C dX0_giveHabits_80 rfl ?_
          exact x_zret C Z dX0_giveHabits_81 rfl (Nat.le_of_ble_eq_true rfl) (Nat.le_of_ble_eq_true rfl) rfl rfl rfl
        · exact ih (e + 1) (g + 1) _ h3 (by rw [← hg]; dsimp only; omega) hW
      · rw [gvS_f hp1] at hg hW
        exact ⟨hg, hW⟩
  refine xX.sg (congrArg (fun q => cput E σ B q (nI p) (nI z) (nI n) tx) (upV_e (VV := VV) (i := 0)).symm) ?_
  refine x_iconst (v := 0) C dX0_giveHabits_0 (by decide) ?_
  refine x_istore_n C dX0_giveHabits_1 (by decide) rfl ?_
  refine x_iconst (v := 0) C dX0_giveHabits_2 (by decide) ?_
  refine x_istore_n C dX0_giveHabits_3 (by decide) rfl ?_
  refine x_iconst (v := 0) C dX0_giveHabits_4 (by decide) ?_
  refine x_istore C dX0_giveHabits_5 (by decide) rfl ?_
  refine xX.cl (key L 0 0 (VV 0) hL (Nat.zero_add _) rfl) rfl (And.intro rfl (And.intro rfl (And.intro rfl (And.intro rfl (And.intro rfl trivial))))) rfl
set_option maxRecDepth 100000 in
set_option maxHeartbeats 1000000 in
theorem c_X4_learn_bad {l : Launch} {E : xEnv} {B N : Nat} {σ : Sg} {VV : Cs} {p z n : Nat} {tx : Fn} (hn : n ≤ 80) (hb : ¬ feS tx n = -6) : xM l yX4_learn cX4_learn 2 (some .int) 5 115 0 0 E B [.ref B] N (cput E σ B VV (nI p) (nI z) (nI n) tx) N (cput E σ B VV (nI p) (nI z) (nI n) tx) (some (.int (-5))) := by
  refine xM_of [some (.ref _), none] (by decide +kernel) (Nat.le_of_ble_eq_true rfl) rfl (fun k0 C Z => ?_)
  refine x_aload_n C dX4_learn_0 rfl ?_
  refine x_get C kf_X4_29 cput_0 rfl dX4_learn_1 ?_
  refine x_callV C (c_X0_firstError hn) kv_X0_firstError kl_X4_153 dX4_learn_4 cput_163 cput_tt.symm cput_tt rfl rfl (Nat.le_of_ble_eq_true rfl) (Nat.le_of_ble_eq_true rfl) (Nat.le_of_ble_eq_true rfl) (Nat.le_of_ble_eq_true rfl) (Nat.le_of_ble_eq_true rfl) ?_
  refine x_bipush (v := (-6)) C dX4_learn_7 (by decide) ?_
  refine x_ic_eq C 15 dX4_learn_9 (by decide) (fun h => absurd h hb) (fun _ => ?_)
  refine x_bipush (v := (-5)) C dX4_learn_12 (by decide) ?_
  exact x_zret C Z dX4_learn_14 rfl (Nat.le_of_ble_eq_true rfl) (Nat.le_of_ble_eq_true rfl) rfl rfl rfl
set_option maxRecDepth 100000 in
set_option maxHeartbeats 1000000 in
theorem c_X4_learn_ok {l : Launch} {E : xEnv} {B N : Nat} {σ : Sg} {VV : Cs} {p z n : Nat} {tx : Fn} (hp : p < 6) (hz : z ≤ 6) {L : List (Nat × Nat × Nat × Int32)} (hn : n ≤ 80) (hb : feS tx n = -6) (hL : HL n tx L 0) : xM l yX4_learn cX4_learn 2 (some .int) 5 115 0 0 E B [.ref B] N (cput E σ B VV (nI p) (nI z) (nI n) tx) N (cput E σ B (upV (kpV VV p) 0 (gvS (VV 0) L).1) (nI ((p + 1) % 6)) (nI (min 6 (z + 1))) (nI 0) tx) (some (.int (nI (gvS (VV 0) L).2))) := by
  refine xM_of [some (.ref _), none] (by decide +kernel) (Nat.le_of_ble_eq_true rfl) rfl (fun k0 C Z => ?_)
  refine x_aload_n C dX4_learn_0 rfl ?_
  refine x_get C kf_X4_29 cput_0 rfl dX4_learn_1 ?_
  refine x_callV C (c_X0_firstError hn) kv_X0_firstError kl_X4_153 dX4_learn_4 cput_163 cput_tt.symm cput_tt rfl rfl (Nat.le_of_ble_eq_true rfl) (Nat.le_of_ble_eq_true rfl) (Nat.le_of_ble_eq_true rfl) (Nat.le_of_ble_eq_true rfl) (Nat.le_of_ble_eq_true rfl) ?_
  refine x_bipush (v := (-6)) C dX4_learn_7 (by decide) ?_
  refine x_ic_eq C 15 dX4_learn_9 (by decide) (fun _ => ?_) (fun h => absurd hb h)
  refine x_aload_n C dX4_learn_15 rfl ?_
  refine x_get C kf_X4_22 cput_0 rfl dX4_learn_16 ?_
  refine x_aload_n C dX4_learn_19 rfl ?_
  refine x_get C kf_X4_10 cput_0 rfl dX4_learn_20 ?_
  refine x_callV C (c_X1_keep hp hz) kv_X1_keep kl_X4_37 dX4_learn_23 cput_41 rfl rfl rfl rfl (Nat.le_of_ble_eq_true rfl) (Nat.le_of_ble_eq_true rfl) (Nat.le_of_ble_eq_true rfl) (Nat.le_of_ble_eq_true rfl) (Nat.le_of_ble_eq_true rfl) ?_
  refine x_aload_n C dX4_learn_26 rfl ?_
  refine x_get C kf_X4_29 cput_0 rfl dX4_learn_27 ?_
  refine x_aload_n C dX4_learn_30 rfl ?_
  refine x_get C kf_X4_10 cput_0 rfl dX4_learn_31 ?_
  refine x_callV C (c_X0_giveHabits (VV := kpV VV p) hn hL) kv_X0_giveHabits kl_X4_156 dX4_learn_34 cput_163 rfl rfl rfl rfl (Nat.le_of_ble_eq_true rfl) (Nat.le_of_ble_eq_true rfl) (Nat.le_of_ble_eq_true rfl) (Nat.le_of_ble_eq_true rfl) (Nat.le_of_ble_eq_true rfl) ?_
  rw [kpV_0]
  refine x_istore_n C dX4_learn_37 (by decide) rfl ?_
  refine x_aload_n C dX4_learn_38 rfl ?_
  refine x_get C kf_X4_29 cput_0 rfl dX4_learn_39 ?_
  refine x_iconst (v := 0) C dX4_learn_42 (by decide) ?_
  refine x_put (ty := .int) C kf_X4_150 cput_163 rfl (by decide +kernel) rfl rfl (Nat.le_of_ble_eq_true rfl) (cput_l _) dX4_learn_43 ?_
  refine x_iload_n C dX4_learn_46 rfl ?_
  exact x_zret C Z dX4_learn_47 rfl (Nat.le_of_ble_eq_true rfl) (Nat.le_of_ble_eq_true rfl) rfl rfl rfl
