set_option maxRecDepth 100000 in
set_option maxHeartbeats 1000000 in
theorem c_X3_holdChats {l : Launch} {E : xEnv} {B N : Nat} {σ : Sg} {b : Nat} {V : Vs} {n c : Nat} (hn : n < 2 ^ 31) (hc : cnN (V 10) 8 = c) (h2 : 2 ≤ c) (hs : sok V) : xM l yX3_holdChats cX3_holdChats 10 (some .int) 5 118 0 0 E B [.ref b, .int (nI n)] N (vput E σ b V) N (vput E σ b (chL V c n)) (some (.int (chL V c n 9 2 - V 9 2))) := by
  refine xM_of [some (.ref _), some (.int _), none, none, none, none, none, none, none, none] (by decide +kernel) (Nat.le_of_ble_eq_true rfl) rfl (fun k0 C Z => ?_)
  have hc8 : c ≤ 8 := hc ▸ cnN_le 8
  have hl : ∀ i, i ≤ n → xX k0 N 0 0 (vput E σ b (chL V c i)) 13 [some (.ref b), some (.int (nI n)), some (.int (V 9 2)), some (.int (nI c)), some (.int (nI i)), none, none, none, none, none] [] := by
    refine x_for n ?_ ?_
    · refine x_iload C dX3_holdChats_13 rfl ?_
      refine x_iload_n C dX3_holdChats_15 rfl ?_
      refine x_ic_ge C 97 dX3_holdChats_16 (by decide) (fun _ => ?_) (fun h => absurd (nI_le (Nat.le_refl _) hn) h)
      refine x_aload_n C dX3_holdChats_97 rfl ?_
      refine x_get C kf_X3_42 vput_0 rfl dX3_holdChats_98 ?_
      refine x_iload_n C dX3_holdChats_101 rfl ?_
      refine x_isub C dX3_holdChats_102 ?_
      exact x_zret C Z dX3_holdChats_103 rfl (Nat.le_of_ble_eq_true rfl) (Nat.le_of_ble_eq_true rfl) rfl rfl rfl
    · intro i hi ih
      have ih2 : xX k0 N 0 0 (vput E σ b (chT (chL V c i) c)) 13 [some (.ref b), some (.int (nI n)), some (.int (V 9 2)), some (.int (nI c)), some (.int (nI (i + 1))), none, none, none, none, none] [] := ih
      obtain ⟨f1, f2⟩ := chL_f hc h2 hs i
      have hc2 : cnN (chL V c i 10) 8 = c := by rw [f2 10 (by decide) (by decide) (by decide)]; exact hc
      clear ih f2
      generalize chL V c i = W at f1 hc2 ih2 ⊢
      obtain ⟨⟨a1, a2, a3, a4⟩, ⟨b1, b2, b3, b4⟩, m1⟩ := ch_f hc2 h2
      refine x_iload C dX3_holdChats_13 rfl ?_
      refine x_iload_n C dX3_holdChats_15 rfl ?_
      refine x_ic_ge C 97 dX3_holdChats_16 (by decide) (fun h => absurd h (nI_ge hi hn)) (fun _ => ?_)
      refine x_aload_n C dX3_holdChats_19 rfl ?_
      refine x_aload_n C dX3_holdChats_20 rfl ?_
      refine x_iload_n C dX3_holdChats_21 rfl ?_
      refine x_callV C (c_X3_draw f1 (n := c) (by omega) (by omega)) kv_X3_draw kl_X3_67 dX3_holdChats_22 vput_0 rfl rfl rfl rfl (Nat.le_of_ble_eq_true rfl) (Nat.le_of_ble_eq_true rfl) (Nat.le_of_ble_eq_true rfl) (Nat.le_of_ble_eq_true rfl) (Nat.le_of_ble_eq_true rfl) ?_
      refine x_iconst (v := (-1)) C dX3_holdChats_25 (by decide) ?_
      refine x_callV C (c_X3_numberInOrder (V := drV W) a1 (by rw [drV_r (by decide)]; exact a2) a3 (by rw [drV_r (by decide)]; exact a4)) kv_X3_numberInOrder kl_X3_89 dX3_holdChats_26 vput_0 rfl rfl rfl rfl (Nat.le_of_ble_eq_true rfl) (Nat.le_of_ble_eq_true rfl) (Nat.le_of_ble_eq_true rfl) (Nat.le_of_ble_eq_true rfl) (Nat.le_of_ble_eq_true rfl) ?_
      refine x_istore C dX3_holdChats_29 (by decide) rfl ?_
      refine x_aload_n C dX3_holdChats_31 rfl ?_
      refine x_aload_n C dX3_holdChats_32 rfl ?_
      refine x_iload_n C dX3_holdChats_33 rfl ?_
      refine x_iconst (v := 1) C dX3_holdChats_34 (by decide) ?_
      refine x_isub C dX3_holdChats_35 ?_
      rw [show nI c - 1 = nI (c - 1) from pk_sub (b := 1) (by omega)]
      refine x_callV C (c_X3_draw drV_ok (n := c - 1) (by omega) (by omega)) kv_X3_draw kl_X3_67 dX3_holdChats_36 vput_0 rfl rfl rfl rfl (Nat.le_of_ble_eq_true rfl) (Nat.le_of_ble_eq_true rfl) (Nat.le_of_ble_eq_true rfl) (Nat.le_of_ble_eq_true rfl) (Nat.le_of_ble_eq_true rfl) ?_
      refine x_iload C dX3_holdChats_39 rfl ?_
      refine x_callV C (c_X3_numberInOrder (V := drV (drV W)) b1 (by rw [drV_r (by decide), drV_r (by decide)]; exact b2) b3 (by rw [drV_r (by decide), drV_r (by decide)]; exact b4)) kv_X3_numberInOrder kl_X3_89 dX3_holdChats_41 vput_0 rfl rfl rfl rfl (Nat.le_of_ble_eq_true rfl) (Nat.le_of_ble_eq_true rfl) (Nat.le_of_ble_eq_true rfl) (Nat.le_of_ble_eq_true rfl) (Nat.le_of_ble_eq_true rfl) ?_
      refine x_istore C dX3_holdChats_44 (by decide) rfl ?_
      refine x_aload_n C dX3_holdChats_46 rfl ?_
      refine x_bipush (v := 6) C dX3_holdChats_47 (by decide) ?_
      refine x_callV C (c_X3_draw drV_ok (n := 6) (by decide) (by decide)) kv_X3_draw kl_X3_67 dX3_holdChats_49 vput_0 rfl rfl rfl rfl (Nat.le_of_ble_eq_true rfl) (Nat.le_of_ble_eq_true rfl) (Nat.le_of_ble_eq_true rfl) (Nat.le_of_ble_eq_true rfl) (Nat.le_of_ble_eq_true rfl) ?_
      refine x_istore C dX3_holdChats_52 (by decide) rfl ?_
      refine x_aload_n C dX3_holdChats_54 rfl ?_
      refine x_iload C dX3_holdChats_55 rfl ?_
      refine x_callV C (c_X3_find_some (V := drV (drV (drV W))) a1 (by rw [drV_r (by decide), drV_r (by decide), drV_r (by decide)]; exact a2)) kv_X3_find kl_X3_93 dX3_holdChats_57 vput_0 rfl rfl rfl rfl (Nat.le_of_ble_eq_true rfl) (Nat.le_of_ble_eq_true rfl) (Nat.le_of_ble_eq_true rfl) (Nat.le_of_ble_eq_true rfl) (Nat.le_of_ble_eq_true rfl) ?_
      refine x_astore C dX3_holdChats_60 (by decide) rfl ?_
      refine x_aload_n C dX3_holdChats_62 rfl ?_
      refine x_iload C dX3_holdChats_63 rfl ?_
      refine x_callV C (c_X3_find_some (V := drV (drV (drV W))) b1 (by rw [drV_r (by decide), drV_r (by decide), drV_r (by decide)]; exact b2)) kv_X3_find kl_X3_93 dX3_holdChats_65 vput_0 rfl rfl rfl rfl (Nat.le_of_ble_eq_true rfl) (Nat.le_of_ble_eq_true rfl) (Nat.le_of_ble_eq_true rfl) (Nat.le_of_ble_eq_true rfl) (Nat.le_of_ble_eq_true rfl) ?_
      refine x_astore C dX3_holdChats_68 (by decide) rfl ?_
      refine x_aload C dX3_holdChats_70 rfl ?_
      refine x_ifnull C dX3_holdChats_72 ?_
      refine x_aload C dX3_holdChats_75 rfl ?_
      refine x_ifnull C dX3_holdChats_77 ?_
      refine x_aload_n C dX3_holdChats_80 rfl ?_
      refine x_aload C dX3_holdChats_81 rfl ?_
      refine x_aload C dX3_holdChats_83 rfl ?_
      refine x_iload C dX3_holdChats_85 rfl ?_
      refine x_callV C (c_X3_holdMeeting a1 b1 m1 drV_ok) kv_X3_holdMeeting kl_X3_97 dX3_holdChats_87 vput_0 rfl rfl rfl rfl (Nat.le_of_ble_eq_true rfl) (Nat.le_of_ble_eq_true rfl) (Nat.le_of_ble_eq_true rfl) (Nat.le_of_ble_eq_true rfl) (Nat.le_of_ble_eq_true rfl) ?_
      refine x_pop C dX3_holdChats_90 rfl ?_
      refine x_iinc C dX3_holdChats_91 rfl (nI_inc _) (by decide) rfl ?_
      refine x_goto C 13 dX3_holdChats_94 (by decide) ?_
      refine xX.cl ih2 rfl (And.intro rfl (And.intro rfl (And.intro rfl (And.intro rfl (And.intro rfl trivial))))) rfl
  refine x_aload_n C dX3_holdChats_0 rfl ?_
  refine x_get C kf_X3_42 vput_0 rfl dX3_holdChats_1 ?_
  refine x_istore_n C dX3_holdChats_4 (by decide) rfl ?_
  refine x_aload_n C dX3_holdChats_5 rfl ?_
  refine x_callV C c_X3_countSpeakers kv_X3_countSpeakers kl_X3_85 dX3_holdChats_6 vput_0 rfl rfl rfl rfl (Nat.le_of_ble_eq_true rfl) (Nat.le_of_ble_eq_true rfl) (Nat.le_of_ble_eq_true rfl) (Nat.le_of_ble_eq_true rfl) (Nat.le_of_ble_eq_true rfl) ?_
  refine x_istore_n C dX3_holdChats_9 (by decide) rfl ?_
  refine x_iconst (v := 0) C dX3_holdChats_10 (by decide) ?_
  refine x_istore C dX3_holdChats_11 (by decide) rfl ?_
  refine xX.cl (hl 0 (by omega)) rfl (And.intro rfl (And.intro rfl (And.intro rfl (And.intro (congrArg (fun z => some (some (Value.int z))) (congrArg nI hc)) (And.intro rfl trivial))))) rfl
set_option maxRecDepth 100000 in
set_option maxHeartbeats 1000000 in
theorem c_X3_copyFrom {l : Launch} {E : xEnv} {B N : Nat} {σ : Sg} {b c : Nat} {V W : Vs} (hd : b + 20 ≤ c ∨ c + 20 ≤ b) : xM l yX3_copyFrom cX3_copyFrom 3 none 2 53 0 0 E B [.ref b, .ref c] N (vput E (vput E σ b V) c W) N (vput E (vput E σ b (cpV V W)) c W) none := by
  refine xM_of [some (.ref _), some (.ref _), none] (by decide +kernel) (Nat.le_of_ble_eq_true rfl) rfl (fun k0 C Z => ?_)
  have hl : ∀ i, i ≤ 8 → xX k0 N 0 0 (vput E (vput E σ b (cpL V W i)) c W) 2 [some (.ref b), some (.ref c), some (.int (nI i))] [] := by
    refine x_for 8 ?_ ?_
    · refine x_iload_n C dX3_copyFrom_2 rfl ?_
      refine x_bipush (v := 8) C dX3_copyFrom_3 (by decide) ?_
      refine x_ic_ge C 29 dX3_copyFrom_5 (by decide) (fun _ => ?_) (fun h => absurd (nI_le (a := 8) (Nat.le_refl _) (by omega)) h)
      refine x_aload_n C dX3_copyFrom_29 rfl ?_
      refine x_get C kf_X3_18 vput_0 rfl dX3_copyFrom_30 ?_
      refine x_iconst (v := 0) C dX3_copyFrom_33 (by decide) ?_
      refine x_aload_n C dX3_copyFrom_34 rfl ?_
      refine x_get C kf_X3_18 (by rw [vput_out (by omega)]; exact vput_0) rfl dX3_copyFrom_35 ?_
      refine x_iconst (v := 0) C dX3_copyFrom_38 (by decide) ?_
      refine x_iconst (v := 4) C dX3_copyFrom_39 (by decide) ?_
      refine x_copy C kl_X3_33 kz_native kz_static ki_sys vput_18 (by rw [vput_out (by omega)]; exact vput_18) (by omega) (by decide) (by decide) (by decide) (by decide) (by decide) (g2 := W 8) cpy4 (Nat.le_of_ble_eq_true rfl) (Nat.le_of_ble_eq_true rfl) (by rw [xup_o (by omega), vput_row8]) dX3_copyFrom_40 ?_
      refine x_aload_n C dX3_copyFrom_43 rfl ?_
      refine x_aload_n C dX3_copyFrom_44 rfl ?_
      refine x_get C kf_X3_25 vput_0 rfl dX3_copyFrom_45 ?_
      refine x_put (ty := .int) C kf_X3_25 (by rw [vput_out (by omega)]; exact vput_0) rfl (by decide +kernel) rfl rfl (Nat.le_of_ble_eq_true rfl) (by rw [xup_o (by omega), vput_v0]) dX3_copyFrom_48 ?_
      refine x_aload_n C dX3_copyFrom_51 rfl ?_
      refine x_aload_n C dX3_copyFrom_52 rfl ?_
      refine x_get C kf_X3_39 vput_0 rfl dX3_copyFrom_53 ?_
      refine x_put (ty := .int) C kf_X3_39 (by rw [vput_out (by omega)]; exact vput_0) rfl (by decide +kernel) rfl rfl (Nat.le_of_ble_eq_true rfl) (by rw [xup_o (by omega), vput_v1]) dX3_copyFrom_56 ?_
      refine x_aload_n C dX3_copyFrom_59 rfl ?_
      refine x_aload_n C dX3_copyFrom_60 rfl ?_
      refine x_get C kf_X3_42 vput_0 rfl dX3_copyFrom_61 ?_
      refine x_put (ty := .int) C kf_X3_42 (by rw [vput_out (by omega)]; exact vput_0) rfl (by decide +kernel) rfl rfl (Nat.le_of_ble_eq_true rfl) (by rw [xup_o (by omega), vput_v2]) dX3_copyFrom_64 ?_
      refine x_aload_n C dX3_copyFrom_67 rfl ?_
      refine x_aload_n C dX3_copyFrom_68 rfl ?_
      refine x_get C kf_X3_45 vput_0 rfl dX3_copyFrom_69 ?_
      refine x_put (ty := .int) C kf_X3_45 (by rw [vput_out (by omega)]; exact vput_0) rfl (by decide +kernel) rfl rfl (Nat.le_of_ble_eq_true rfl) (by rw [xup_o (by omega), vput_v3]) dX3_copyFrom_72 ?_
      refine x_aload_n C dX3_copyFrom_75 rfl ?_
      refine x_aload_n C dX3_copyFrom_76 rfl ?_
      refine x_get C kf_X3_48 vput_0 rfl dX3_copyFrom_77 ?_
      refine x_put (ty := .int) C kf_X3_48 (by rw [vput_out (by omega)]; exact vput_0) rfl (by decide +kernel) rfl rfl (Nat.le_of_ble_eq_true rfl) (by rw [xup_o (by omega), vput_v4]) dX3_copyFrom_80 ?_
      exact x_vret C Z dX3_copyFrom_83 (Nat.le_of_ble_eq_true rfl) (Nat.le_of_ble_eq_true rfl) rfl rfl
    · intro i hi ih
      refine x_iload_n C dX3_copyFrom_2 rfl ?_
      refine x_bipush (v := 8) C dX3_copyFrom_3 (by decide) ?_
      refine x_ic_ge C 29 dX3_copyFrom_5 (by decide) (fun h => absurd h (nI_ge (b := 8) hi (by omega))) (fun _ => ?_)
      refine x_aload_n C dX3_copyFrom_8 rfl ?_
      refine x_get C kf_X3_11 (by rw [vput_out (by omega)]; exact vput_0) rfl dX3_copyFrom_9 ?_
      refine x_iload_n C dX3_copyFrom_12 rfl ?_
      refine x_aald2 (t0 := 2) C (by rw [vput_out (by omega)]; exact vput_1) rfl rfl hi (by decide) dX3_copyFrom_13 ?_
      refine x_aload_n C dX3_copyFrom_14 rfl ?_
      refine x_get C kf_X3_11 vput_0 rfl dX3_copyFrom_15 ?_
      refine x_iload_n C dX3_copyFrom_18 rfl ?_
      refine x_aald2 (t0 := 2) C vput_1 rfl rfl hi (by decide) dX3_copyFrom_19 ?_
      refine x_callV C (c_X2_copyFrom (V := cpL V W i) (W := W) hi hd) kv_X2_copyFrom kl_X3_29 dX3_copyFrom_20 (by rw [vput_out (by omega)]; exact (vput_s hi)) rfl rfl rfl rfl (Nat.le_of_ble_eq_true rfl) (Nat.le_of_ble_eq_true rfl) (Nat.le_of_ble_eq_true rfl) (Nat.le_of_ble_eq_true rfl) (Nat.le_of_ble_eq_true rfl) ?_
      refine x_iinc C dX3_copyFrom_23 rfl (nI_inc _) (by decide) rfl ?_
      refine x_goto C 2 dX3_copyFrom_26 (by decide) ?_
      refine xX.cl ih (congrArg (fun z => vput E (vput E σ b z) c W) (cpL_s hi)) (And.intro rfl (And.intro rfl (And.intro rfl trivial))) rfl
  refine x_iconst (v := 0) C dX3_copyFrom_0 (by decide) ?_
  refine x_istore_n C dX3_copyFrom_1 (by decide) rfl ?_
  refine xX.cl (hl 0 (by omega)) (congrArg (fun z => vput E (vput E σ b z) c W) cpL_0.symm) (And.intro rfl (And.intro rfl (And.intro rfl trivial))) rfl
