set_option maxRecDepth 100000 in
set_option maxHeartbeats 1000000 in
theorem c_X3_copyFrom {l : Launch} {E : xEnv} {B N : Nat} {σ : Sg} {b c : Nat} {V W : Vs} (hd : b + 20 ≤ c ∨ c + 20 ≤ b) : xM l yX3_copyFrom cX3_copyFrom 3 none 2 53 0 0 E B [.ref b, .ref c] N (vput E (vput E σ b V) c W) N (vput E (vput E σ b (cpV V W)) c W) none := by
  refine xM_of [some (.ref _), some (.ref _), none] (by decide +kernel) (Nat.le_of_ble_eq_true rfl) rfl (fun k0 C Z => ?_)
  have hl : ∀ i, i ≤ 8 → xX k0 N 0 0 (vput E (vput E σ b (cpL V W i)) c W) 2 [some (.ref b), some (.ref c), some (.int (nI i))] [] := by
    refine x_for 8 ?_ ?_
    · refine x_iload_n C dX3_copyFrom_2 rfl ?_
      refine x_bipush (v := 8) C dX3_copyFrom_3 (by decide) ?_
      refine x_ic_ge C 29 dX3_copyFrom_5 (by decide) (fun _ => ?_) (fun h => absurd (nI_le (a := 8) (Nat.le_refl _) (by omega)) h)
      refine x_aload_n C dX3_copyFrom_29 rfl ?_
      refine x_get C kf_X3_18 vput_0 rfl dX3_copyFrom_30 ?_
      refine x_iconst (v := 0) C dX3_copyFrom_33 (by decide) ?_
      refine x_aload_n C dX3_copyFrom_34 rfl ?_
      refine x_get C kf_X3_18 (by rw [vput_out (by omega)]; exact vput_0) rfl dX3_copyFrom_35 ?_
      refine x_iconst (v := 0) C dX3_copyFrom_38 (by decide) ?_
      refine x_iconst (v := 4) C dX3_copyFrom_39 (by decide) ?_
      refine x_copy C kl_X3_33 kz_native kz_static ki_sys vput_18 (by rw [vput_out (by omega)]; exact vput_18) (by omega) (by decide) (by decide) (by decide) (by decide) (by decide) (g2 := W 8) cpy4 (Nat.le_of_ble_eq_true rfl) (Nat.le_of_ble_eq_true rfl) (by rw [xup_o (by omega), vput_row8]) dX3_copyFrom_40 ?_
      refine x_aload_n C dX3_copyFrom_43 rfl ?_
      refine x_aload_n C dX3_copyFrom_44 rfl ?_
      refine x_get C kf_X3_25 vput_0 rfl dX3_copyFrom_45 ?_
      refine x_put (ty := .int) C kf_X3_25 (by rw [vput_out (by omega)]; exact vput_0) rfl (by decide +kernel) rfl rfl (Nat.le_of_ble_eq_true rfl) (by rw [xup_o (by omega), vput_v0]) dX3_copyFrom_48 ?_
      refine x_aload_n C dX3_copyFrom_51 rfl ?_
      refine x_aload_n C dX3_copyFrom_52 rfl ?_
      refine x_get C kf_X3_39 vput_0 rfl dX3_copyFrom_53 ?_
      refine x_put (ty := .int) C kf_X3_39 (by rw [vput_out (by omega)]; exact vput_0) rfl (by decide +kernel) rfl rfl (Nat.le_of_ble_eq_true rfl) (by rw [xup_o (by omega), vput_v1]) dX3_copyFrom_56 ?_
      refine x_aload_n C dX3_copyFrom_59 rfl ?_
      refine x_aload_n C dX3_copyFrom_60 rfl ?_
      refine x_get C kf_X3_42 vput_0 rfl dX3_copyFrom_61 ?_
      refine x_put (ty := .int) C kf_X3_42 (by rw [vput_out (by omega)]; exact vput_0) rfl (by decide +kernel) rfl rfl (Nat.le_of_ble_eq_true rfl) (by rw [xup_o (by omega), vput_v2]) dX3_copyFrom_64 ?_
      refine x_aload_n C dX3_copyFrom_67 rfl ?_
      refine x_aload_n C dX3_copyFrom_68 rfl ?_
      refine x_get C kf_X3_45 vput_0 rfl dX3_copyFrom_69 ?_
      refine x_put (ty := .int) C kf_X3_45 (by rw [vput_out (by omega)]; exact vput_0) rfl (by decide +kernel) rfl rfl (Nat.le_of_ble_eq_true rfl) (by rw [xup_o (by omega), vput_v3]) dX3_copyFrom_72 ?_
      refine x_aload_n C dX3_copyFrom_75 rfl ?_
      refine x_aload_n C dX3_copyFrom_76 rfl ?_
      refine x_get C kf_X3_48 vput_0 rfl dX3_copyFrom_77 ?_
      refine x_put (ty := .int) C kf_X3_48 (by rw [vput_out (by omega)]; exact vput_0) rfl (by decide +kernel) rfl rfl (Nat.le_of_ble_eq_true rfl) (by rw [xup_o (by omega), vput_v4]) dX3_copyFrom_80 ?_
      exact x_vret C Z dX3_copyFrom_83 (Nat.le_of_ble_eq_true rfl) (Nat.le_of_ble_eq_true rfl) rfl rfl
    · intro i hi ih
      refine x_iload_n C dX3_copyFrom_2 rfl ?_
      refine x_bipush (v := 8) C dX3_copyFrom_3 (by decide) ?_
      refine x_ic_ge C 29 dX3_copyFrom_5 (by decide) (fun h => absurd h (nI_ge (b := 8) hi (by omega))) (fun _ => ?_)
      refine x_aload_n C dX3_copyFrom_8 rfl ?_
      refine x_get C kf_X3_11 (by rw [vput_out (by omega)]; exact vput_0) rfl dX3_copyFrom_9 ?_
      refine x_iload_n C dX3_copyFrom_12 rfl ?_
      refine x_aald2 (t0 := 2) C (by rw [vput_out (by omega)]; exact vput_1) rfl rfl hi (by decide) dX3_copyFrom_13 ?_
      refine x_aload_n C dX3_copyFrom_14 rfl ?_
      refine x_get C kf_X3_11 vput_0 rfl dX3_copyFrom_15 ?_
      refine x_iload_n C dX3_copyFrom_18 rfl ?_
      refine x_aald2 (t0 := 2) C vput_1 rfl rfl hi (by decide) dX3_copyFrom_19 ?_
      refine x_callV C (c_X2_copyFrom (V := cpL V W i) (W := W) hi hd) kv_X2_copyFrom kl_X3_29 dX3_copyFrom_20 (by rw [vput_out (by omega)]; exact (vput_s hi)) rfl rfl rfl rfl (Nat.le_of_ble_eq_true rfl) (Nat.le_of_ble_eq_true rfl) (Nat.le_of_ble_eq_true rfl) (Nat.le_of_ble_eq_true rfl) (Nat.le_of_ble_eq_true rfl) ?_
      refine x_iinc C dX3_copyFrom_23 rfl (nI_inc _) (by decide) rfl ?_
      refine x_goto C 2 dX3_copyFrom_26 (by decide) ?_
      refine xX.cl ih (congrArg (fun z => vput E (vput E σ b z) c W) (cpL_s hi)) (And.intro rfl (And.intro rfl (And.intro rfl trivial))) rfl
  refine x_iconst (v := 0) C dX3_copyFrom_0 (by decide) ?_
  refine x_istore_n C dX3_copyFrom_1 (by decide) rfl ?_
  refine xX.cl (hl 0 (by omega)) (congrArg (fun z => vput E (vput E σ b z) c W) cpL_0.symm) (And.intro rfl (And.intro rfl (And.intro rfl trivial))) rfl

