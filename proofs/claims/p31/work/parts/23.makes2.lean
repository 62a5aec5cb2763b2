set_option maxRecDepth 100000 in
set_option maxHeartbeats 1000000 in
theorem c_X2_init {l : Launch} {E : xEnv} {B : Nat} {N h : Nat} {σ : Sg} (hn : h ≠ N) (h0 : σ h = some (.inr (2, bl_X2))) : xM l yX2_init cX2_init 1 none 1 20 1 84 E B [.ref h] N σ (N + 1) (xup (xup σ N (.inl (xI E, 84, .inl (fun _ => 0)))) h (.inr (2, [.ref N, .int 0, .int 0, .int 0]))) none := by
  refine xM_of [some (.ref _)] (by decide +kernel) (Nat.le_of_ble_eq_true rfl) rfl (fun k0 C Z => ?_)
  refine x_aload_n C dX2_init_0 rfl ?_
  refine x_obj C kl_X2_3 kz_oi kz_oc dX2_init_1 (Nat.le_of_ble_eq_true rfl) (Nat.le_of_ble_eq_true rfl) ?_
  refine x_aload_n C dX2_init_4 rfl ?_
  refine x_bipush (v := 84) C dX2_init_5 (by decide) ?_
  refine x_newi (n2 := 84) C ka_int (by decide) rfl (Nat.le_of_ble_eq_true rfl) (Nat.le_of_ble_eq_true rfl) (Nat.le_of_ble_eq_true rfl) rfl dX2_init_7 ?_
  refine x_putF (ty := (.array .int)) C rfl kf_X2_9 (by rw [xup_n hn]; exact h0) rfl rfl kfw_X2_9 (by decide +kernel) rfl rfl (Nat.le_of_ble_eq_true rfl) rfl dX2_init_9 ?_
  exact x_vret C Z dX2_init_12 (Nat.le_of_ble_eq_true rfl) (Nat.le_of_ble_eq_true rfl) rfl rfl
set_option maxRecDepth 100000 in
set_option maxHeartbeats 1000000 in
theorem c_X0_init {l : Launch} {E : xEnv} {B : Nat} {h : Nat} {σ : Sg} (h0 : σ h = some (.inr (0, bl_X0))) : xM l yX0_init cX0_init 1 none 1 20 1 80 E B [.ref h] (h + 1) σ (h + 2) (xup (xup σ (h + 1) (.inl (xCh E, 80, .inl (fun _ => 0)))) h (.inr (0, [.ref (h + 1), .int 0]))) none := by
  refine xM_of [some (.ref _)] (by decide +kernel) (Nat.le_of_ble_eq_true rfl) rfl (fun k0 C Z => ?_)
  refine x_aload_n C dX0_init_0 rfl ?_
  refine x_obj C kl_X0_3 kz_oi kz_oc dX0_init_1 (Nat.le_of_ble_eq_true rfl) (Nat.le_of_ble_eq_true rfl) ?_
  refine x_aload_n C dX0_init_4 rfl ?_
  refine x_bipush (v := 80) C dX0_init_5 (by decide) ?_
  refine x_newc (n2 := 80) C ka_char (by decide) rfl (Nat.le_of_ble_eq_true rfl) (Nat.le_of_ble_eq_true rfl) (Nat.le_of_ble_eq_true rfl) rfl dX0_init_7 ?_
  refine x_putF (ty := (.array .char)) C rfl kf_X0_9 (by rw [xup_n (by omega)]; exact h0) rfl rfl kfw_X0_9 (by decide +kernel) rfl rfl (Nat.le_of_ble_eq_true rfl) rfl dX0_init_9 ?_
  exact x_vret C Z dX0_init_12 (Nat.le_of_ble_eq_true rfl) (Nat.le_of_ble_eq_true rfl) rfl rfl
set_option maxRecDepth 100000 in
set_option maxHeartbeats 1000000 in
theorem c_X3_init {l : Launch} {E : xEnv} {B : Nat} {b : Nat} {σ : Sg} (h0 : σ b = some (.inr (3, bl_X3))) : xM l yX3_init cX3_init 2 none 2 40 19 730 E B [.ref b] (b + 1) σ (b + 20) (vput E σ b V0) none := by
  refine xM_of [some (.ref _), none] (by decide +kernel) (Nat.le_of_ble_eq_true rfl) rfl (fun k0 C Z => ?_)
  have hl : ∀ i, i ≤ 8 → xX k0 (b + 2 + 2 * i) (1 + 2 * i) (8 + 88 * i) (vgr E σ b i (bl_X3.set 0 (.ref (b + 1))) (σ (b + 18)) (σ (b + 19))) 15 [some (.ref b), some (.int (nI i))] [] := by
    refine x_for 8 ?_ ?_
    · refine x_iload_n C dX3_init_15 rfl ?_
      refine x_bipush (v := 8) C dX3_init_16 (by decide) ?_
      refine x_ic_ge C 40 dX3_init_18 (by decide) (fun _ => ?_) (fun h => absurd (nI_le (a := 8) (Nat.le_refl _) (by omega)) h)
      refine xX.nn ?_ (show b + 2 + 2 * 8 = b + 18 from by omega) (Nat.le_refl _) (Nat.le_refl _)
      refine x_aload_n C dX3_init_40 rfl ?_
      refine x_iconst (v := 4) C dX3_init_41 (by decide) ?_
      refine x_newi (n2 := 4) C ka_int (by decide) rfl (Nat.le_of_ble_eq_true rfl) (by omega) (by omega) (vgr_o18 (by decide)) dX3_init_42 ?_
      refine x_putF (ty := (.array .int)) C rfl kf_X3_18 vgr_b rfl rfl kfw_X3_18 (by decide +kernel) rfl rfl (Nat.le_of_ble_eq_true rfl) vgr_fs dX3_init_44 ?_
      refine xX.nn ?_ (show b + 18 + 1 = b + 19 from rfl) (Nat.le_refl _) (Nat.le_refl _)
      refine x_aload_n C dX3_init_47 rfl ?_
      refine x_bipush (v := 14) C dX3_init_48 (by decide) ?_
      refine x_newi (n2 := 14) C ka_int (by decide) rfl (Nat.le_of_ble_eq_true rfl) (by omega) (by omega) (vgr_o19 (by decide)) dX3_init_50 ?_
      refine x_putF (ty := (.array .int)) C rfl kf_X3_22 vgr_b rfl rfl kfw_X3_22 (by decide +kernel) rfl rfl (Nat.le_of_ble_eq_true rfl) vgr_fs dX3_init_52 ?_
      refine x_aload_n C dX3_init_55 rfl ?_
      refine x_get C kf_X3_18 vgr_b rfl dX3_init_56 ?_
      refine x_iconst (v := 0) C dX3_init_59 (by decide) ?_
      refine x_iconst (v := 4) C dX3_init_60 (by decide) ?_
      refine x_iast2 C (vgr_18 (by decide)) (show (0 : Int32) = nI 0 from rfl) (by decide) (by decide) (fun _ _ => rfl) (vgr_o18 (by decide)) dX3_init_61 ?_
      refine x_aload_n C dX3_init_62 rfl ?_
      refine x_get C kf_X3_18 vgr_b rfl dX3_init_63 ?_
      refine x_iconst (v := 1) C dX3_init_66 (by decide) ?_
      refine x_iconst (v := 1) C dX3_init_67 (by decide) ?_
      refine x_iast2 C (vgr_18 (by decide)) (show (1 : Int32) = nI 1 from rfl) (by decide) (by decide) (fun _ _ => rfl) (vgr_o18 (by decide)) dX3_init_68 ?_
      refine x_aload_n C dX3_init_69 rfl ?_
      refine x_get C kf_X3_18 vgr_b rfl dX3_init_70 ?_
      refine x_iconst (v := 2) C dX3_init_73 (by decide) ?_
      refine x_bipush (v := 60) C dX3_init_74 (by decide) ?_
      refine x_iast2 C (vgr_18 (by decide)) (show (2 : Int32) = nI 2 from rfl) (by decide) (by decide) (fun _ _ => rfl) (vgr_o18 (by decide)) dX3_init_76 ?_
      refine x_aload_n C dX3_init_77 rfl ?_
      refine x_get C kf_X3_18 vgr_b rfl dX3_init_78 ?_
      refine x_iconst (v := 3) C dX3_init_81 (by decide) ?_
      refine x_bipush (v := 50) C dX3_init_82 (by decide) ?_
      refine x_iast2 C (vgr_18 (by decide)) (show (3 : Int32) = nI 3 from rfl) (by decide) (by decide) (fun _ _ => rfl) (vgr_o18 (by decide)) dX3_init_84 ?_
      refine x_aload_n C dX3_init_85 rfl ?_
      refine x_iconst (v := 1) C dX3_init_86 (by decide) ?_
      refine x_put (ty := .int) C kf_X3_25 vgr_b rfl (by decide +kernel) rfl rfl (Nat.le_of_ble_eq_true rfl) vgr_fs dX3_init_87 ?_
      rw [st_V0]
      refine x_contq vgr_1 (fun j hj => if_pos hj) vgr_e ?_
      refine xX.nn ?_ (show b + 19 + 1 = b + 20 from rfl) (Nat.le_refl _) (Nat.le_refl _)
      exact x_vret C Z dX3_init_90 (Nat.le_of_ble_eq_true rfl) (Nat.le_of_ble_eq_true rfl) rfl rfl
    · intro i hi ih
      refine x_iload_n C dX3_init_15 rfl ?_
      refine x_bipush (v := 8) C dX3_init_16 (by decide) ?_
      refine x_ic_ge C 40 dX3_init_18 (by decide) (fun h => absurd h (nI_ge (b := 8) hi (by omega))) (fun _ => ?_)
      refine x_aload_n C dX3_init_21 rfl ?_
      refine x_get C kf_X3_11 vgr_b rfl dX3_init_22 ?_
      refine x_iload_n C dX3_init_25 rfl ?_
      refine x_new (ci := 2) (q := (RX2, TX2, 4)) (fs := bl_X2) C rfl kc_X2 tyX2 tyX2_ok kcl_X3_9 kn_X2 ki_X2 bl_X2_ok (by omega) (by dsimp only; omega) rfl dX3_init_26 ?_
      refine xX.nn (b2 := _ + 4) ?_ rfl (Nat.le_refl _) (Nat.le_refl _)
      refine x_dup C dX3_init_29 rfl ?_
      refine x_callI C (c_X2_init (by omega) xup_s) kj_X2_init kl_X3_17 dX3_init_30 rfl rfl rfl rfl (Nat.le_of_ble_eq_true rfl) (Nat.le_of_ble_eq_true rfl) (Nat.le_of_ble_eq_true rfl) (by omega) (by omega) ?_
      refine x_aast2 (t0 := 2) C (by rw [xup_n (by omega), xup_n (by omega), xup_n (by omega)]; exact vgr_1) rfl xup_s rfl rfl hi (by decide) (va_grow (fun k => b + 2 + 2 * k)) (vgr_s hi) dX3_init_33 ?_
      refine x_iinc C dX3_init_34 rfl (nI_inc _) (by decide) rfl ?_
      refine x_goto C 15 dX3_init_37 (by decide) ?_
      refine xX.cl2 ih (by omega) (by omega) (by omega) rfl (And.intro rfl (And.intro rfl trivial)) rfl
  refine x_aload_n C dX3_init_0 rfl ?_
  refine x_obj C kl_X3_3 kz_oi kz_oc dX3_init_1 (Nat.le_of_ble_eq_true rfl) (Nat.le_of_ble_eq_true rfl) ?_
  refine x_aload_n C dX3_init_4 rfl ?_
  refine x_bipush (v := 8) C dX3_init_5 (by decide) ?_
  refine x_newq (n2 := 8) (t0 := 2) (Cn := RX2) C kcl_X3_9 ka_X2 rfl (by decide) rfl (Nat.le_of_ble_eq_true rfl) (Nat.le_of_ble_eq_true rfl) (Nat.le_of_ble_eq_true rfl) (vgr_0 h0) dX3_init_7 ?_
  refine x_putF (ty := (.array (.object "GesturePidgin$Speaker"))) C rfl kf_X3_11 vgr_b rfl rfl kfw_X3_11 (by decide +kernel) rfl rfl (Nat.le_of_ble_eq_true rfl) vgr_fs dX3_init_10 ?_
  refine x_iconst (v := 0) C dX3_init_13 (by decide) ?_
  refine x_istore_n C dX3_init_14 (by decide) rfl ?_
  refine xX.cl2 (hl 0 (by omega)) (by omega) (by omega) (by omega) rfl (And.intro rfl (And.intro rfl trivial)) rfl
set_option maxRecDepth 100000 in
set_option maxHeartbeats 1000000 in
theorem c_X1_init {l : Launch} {E : xEnv} {B : Nat} {h : Nat} {σ : Sg} (h0 : σ h = some (.inr (1, bl_X1))) : xM l yX1_init cX1_init 2 none 3 61 121 4434 E B [.ref h] (h + 1) σ (h + 122) (spt E σ h) none := by
  refine xM_of [some (.ref _), none] (by decide +kernel) (Nat.le_of_ble_eq_true rfl) rfl (fun k0 C Z => ?_)
  have hl : ∀ i, i ≤ 6 → xX k0 (h + 2 + 20 * i) (1 + 20 * i) (6 + 738 * i) (sgr E σ h i (bl_X1.set 0 (.ref (h + 1)))) 15 [some (.ref h), some (.int (nI i))] [] := by
    refine x_for 6 ?_ ?_
    · refine x_iload_n C dX1_init_15 rfl ?_
      refine x_bipush (v := 6) C dX1_init_16 (by decide) ?_
      refine x_ic_ge C 40 dX1_init_18 (by decide) (fun _ => ?_) (fun h => absurd (nI_le (a := 6) (Nat.le_refl _) (by omega)) h)
      refine x_contq sgr_1 (fun j hj => if_pos hj) rfl ?_
      refine xX.nn ?_ (show h + 2 + 20 * 6 = h + 122 from by omega) (Nat.le_refl _) (Nat.le_refl _)
      exact x_vret C Z dX1_init_40 (Nat.le_of_ble_eq_true rfl) (Nat.le_of_ble_eq_true rfl) rfl rfl
    · intro i hi ih
      refine x_iload_n C dX1_init_15 rfl ?_
      refine x_bipush (v := 6) C dX1_init_16 (by decide) ?_
      refine x_ic_ge C 40 dX1_init_18 (by decide) (fun h => absurd h (nI_ge (b := 6) hi (by omega))) (fun _ => ?_)
      refine x_aload_n C dX1_init_21 rfl ?_
      refine x_get C kf_X1_11 sgr_h rfl dX1_init_22 ?_
      refine x_iload_n C dX1_init_25 rfl ?_
      refine x_new (ci := 3) (q := (RX3, TX3, 8)) (fs := bl_X3) C rfl kc_X3 tyX3 tyX3_ok kcl_X1_9 kn_X3 ki_X3 bl_X3_ok (by omega) (by dsimp only; omega) rfl dX1_init_26 ?_
      refine xX.nn (b2 := _ + 8) ?_ rfl (Nat.le_refl _) (Nat.le_refl _)
      refine x_dup C dX1_init_29 rfl ?_
      refine x_callI C (c_X3_init xup_s) kj_X3_init kl_X1_17 dX1_init_30 rfl rfl rfl rfl (Nat.le_of_ble_eq_true rfl) (Nat.le_of_ble_eq_true rfl) (Nat.le_of_ble_eq_true rfl) (by omega) (by omega) ?_
      refine x_aast2 (t0 := 3) C (by rw [vput_out (by omega), xup_n (by omega)]; exact sgr_1) rfl vput_0 rfl rfl hi (by decide) (va_grow (fun k => h + 2 + 20 * k)) sgr_s dX1_init_33 ?_
      refine x_iinc C dX1_init_34 rfl (nI_inc _) (by decide) rfl ?_
      refine x_goto C 15 dX1_init_37 (by decide) ?_
      refine xX.cl2 ih (by omega) (by omega) (by omega) rfl (And.intro rfl (And.intro rfl trivial)) rfl
  refine x_aload_n C dX1_init_0 rfl ?_
  refine x_obj C kl_X1_3 kz_oi kz_oc dX1_init_1 (Nat.le_of_ble_eq_true rfl) (Nat.le_of_ble_eq_true rfl) ?_
  refine x_aload_n C dX1_init_4 rfl ?_
  refine x_bipush (v := 6) C dX1_init_5 (by decide) ?_
  refine x_newq (n2 := 6) (t0 := 3) (Cn := RX3) C kcl_X1_9 ka_X3 rfl (by decide) rfl (Nat.le_of_ble_eq_true rfl) (Nat.le_of_ble_eq_true rfl) (Nat.le_of_ble_eq_true rfl) (sgr_0 h0) dX1_init_7 ?_
  refine x_putF (ty := (.array (.object "GesturePidgin$Village"))) C rfl kf_X1_11 sgr_h rfl rfl kfw_X1_11 (by decide +kernel) rfl rfl (Nat.le_of_ble_eq_true rfl) sgr_fs dX1_init_10 ?_
  refine x_iconst (v := 0) C dX1_init_13 (by decide) ?_
  refine x_istore_n C dX1_init_14 (by decide) rfl ?_
  refine xX.cl2 (hl 0 (by omega)) (by omega) (by omega) (by omega) rfl (And.intro rfl (And.intro rfl trivial)) rfl
set_option maxRecDepth 100000 in
set_option maxHeartbeats 1000000 in
theorem c_X4_init {l : Launch} {E : xEnv} {B : Nat} {σ : Sg} : xM l yX4_init cX4_init 1 none 4 82 164 5995 E B [.ref B] (B + 1) (xup σ B (.inr (4, bl_X4))) (B + 165) (cput E σ B (fun _ => V0) (nI 0) (nI 0) (nI 0) (fun _ => 0)) none := by
  refine xM_of [some (.ref _)] (by decide +kernel) (Nat.le_of_ble_eq_true rfl) rfl (fun k0 C Z => ?_)
  refine x_aload_n C dX4_init_0 rfl ?_
  refine x_obj C kl_X4_1 kz_oi kz_oc dX4_init_1 (Nat.le_of_ble_eq_true rfl) (Nat.le_of_ble_eq_true rfl) ?_
  refine x_aload_n C dX4_init_4 rfl ?_
  refine x_new (ci := 3) (q := (RX3, TX3, 8)) (fs := bl_X3) C rfl kc_X3 tyX3 tyX3_ok kcl_X4_7 kn_X3 ki_X3 bl_X3_ok (Nat.le_of_ble_eq_true rfl) (Nat.le_of_ble_eq_true rfl) rfl dX4_init_5 ?_
  refine x_dup C dX4_init_8 rfl ?_
  refine x_callI C (c_X3_init xup_s) kj_X3_init kl_X4_9 dX4_init_9 rfl rfl rfl rfl (Nat.le_of_ble_eq_true rfl) (Nat.le_of_ble_eq_true rfl) (Nat.le_of_ble_eq_true rfl) (Nat.le_of_ble_eq_true rfl) (Nat.le_of_ble_eq_true rfl) ?_
  refine x_putF (ty := (.object "GesturePidgin$Village")) C rfl kf_X4_10 (by rw [vput_out (by omega), xup_n (by omega)]; exact xup_s) rfl rfl kfw_X4_10 (by decide +kernel) rfl rfl (Nat.le_of_ble_eq_true rfl) rfl dX4_init_12 ?_
  refine x_aload_n C dX4_init_15 rfl ?_
  refine xX.nn ?_ (show B + 1 + 20 = B + 21 from rfl) (Nat.le_refl _) (Nat.le_refl _)
  refine x_new (ci := 3) (q := (RX3, TX3, 8)) (fs := bl_X3) C rfl kc_X3 tyX3 tyX3_ok kcl_X4_7 kn_X3 ki_X3 bl_X3_ok (Nat.le_of_ble_eq_true rfl) (Nat.le_of_ble_eq_true rfl) rfl dX4_init_16 ?_
  refine x_dup C dX4_init_19 rfl ?_
  refine x_callI C (c_X3_init xup_s) kj_X3_init kl_X4_9 dX4_init_20 rfl rfl rfl rfl (Nat.le_of_ble_eq_true rfl) (Nat.le_of_ble_eq_true rfl) (Nat.le_of_ble_eq_true rfl) (Nat.le_of_ble_eq_true rfl) (Nat.le_of_ble_eq_true rfl) ?_
  refine x_putF (ty := (.object "GesturePidgin$Village")) C rfl kf_X4_16 (by rw [vput_out (by omega), xup_n (by omega)]; exact xup_s) rfl rfl kfw_X4_16 (by decide +kernel) rfl rfl (Nat.le_of_ble_eq_true rfl) rfl dX4_init_23 ?_
  refine x_aload_n C dX4_init_26 rfl ?_
  refine xX.nn ?_ (show B + 21 + 20 = B + 41 from rfl) (Nat.le_refl _) (Nat.le_refl _)
  refine x_new (ci := 1) (q := (RX1, TX1, 3)) (fs := bl_X1) C rfl kc_X1 tyX1 tyX1_ok kcl_X4_19 kn_X1 ki_X1 bl_X1_ok (Nat.le_of_ble_eq_true rfl) (Nat.le_of_ble_eq_true rfl) rfl dX4_init_27 ?_
  refine x_dup C dX4_init_30 rfl ?_
  refine x_callI C (c_X1_init xup_s) kj_X1_init kl_X4_21 dX4_init_31 rfl rfl rfl rfl (Nat.le_of_ble_eq_true rfl) (Nat.le_of_ble_eq_true rfl) (Nat.le_of_ble_eq_true rfl) (Nat.le_of_ble_eq_true rfl) (Nat.le_of_ble_eq_true rfl) ?_
  refine x_putF (ty := (.object "GesturePidgin$SavedStates")) C rfl kf_X4_22 (by rw [spt_out (by omega), xup_n (by omega)]; exact xup_s) rfl rfl kfw_X4_22 (by decide +kernel) rfl rfl (Nat.le_of_ble_eq_true rfl) rfl dX4_init_34 ?_
  refine x_aload_n C dX4_init_37 rfl ?_
  refine xX.nn ?_ (show B + 41 + 122 = B + 163 from rfl) (Nat.le_refl _) (Nat.le_refl _)
  refine x_new (ci := 0) (q := (RX0, TX0, 2)) (fs := bl_X0) C rfl kc_X0 tyX0 tyX0_ok kcl_X4_26 kn_X0 ki_X0 bl_X0_ok (Nat.le_of_ble_eq_true rfl) (Nat.le_of_ble_eq_true rfl) rfl dX4_init_38 ?_
  refine x_dup C dX4_init_41 rfl ?_
  refine x_callI C (c_X0_init xup_s) kj_X0_init kl_X4_28 dX4_init_42 rfl rfl rfl rfl (Nat.le_of_ble_eq_true rfl) (Nat.le_of_ble_eq_true rfl) (Nat.le_of_ble_eq_true rfl) (Nat.le_of_ble_eq_true rfl) (Nat.le_of_ble_eq_true rfl) ?_
  refine x_putF (ty := (.object "GesturePidgin$HabitText")) C rfl kf_X4_29 (by rw [xup_n (by omega), xup_n (by omega), xup_n (by omega)]; exact xup_s) rfl rfl kfw_X4_29 (by decide +kernel) rfl rfl (Nat.le_of_ble_eq_true rfl) rfl dX4_init_45 ?_
  refine xX.nn ?_ (show B + 163 + 2 = B + 165 from rfl) (Nat.le_refl _) (Nat.le_refl _)
  exact x_vret C Z dX4_init_48 (Nat.le_of_ble_eq_true rfl) (Nat.le_of_ble_eq_true rfl) rfl cnew
