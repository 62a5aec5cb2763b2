/-! copies of the model's rows -/
theorem x_conti {k : xT} {E : xEnv} {N a b : Nat} {σ : Sg} {pc : Nat} {lv : List (Option Value)} {st : List Value} {a0 n : Nat} {f g : Nat → Int32} (he : σ a0 = some (.inl (xI E, n, .inl f))) (hg : ∀ j, j < n → f j = g j) {σ2 : Sg} (hs : xup σ a0 (.inl (xI E, n, .inl g)) = σ2) (kk : xX k N a b σ2 pc lv st) : xX k N a b σ pc lv st := by
  obtain ⟨p, l0, e, R, s, m, args, below, meth, c, Q, E0, B0, nL0⟩ := k
  subst hs
  intro H locs ls hh hS hl
  refine kk H locs ls (hh.put he rfl (fun _ _ => rfl) ?_) hS hl
  have h := (hh.2.2 a0 _ he).2
  have h2 : H[a0]? = some (vp_cell (xI E) (n, .inl f)) := h
  show H[a0]? = some (vp_cell (xI E) (n, .inl g))
  rw [h2, vp_cell_i, vp_cell_i]
  unfold arrV
  congr 2
  congr 1
  funext j
  show Value.int (f j.val) = Value.int (g j.val)
  rw [hg j.val j.isLt]
def cpA (g f : Fn) (t0 f0 i : Nat) : Fn := fun j => if t0 ≤ j ∧ j < t0 + i then f (f0 + (j - t0)) else g j
theorem cpA_0 {g f : Fn} {t0 f0 : Nat} : cpA g f t0 f0 0 = g := by
  funext j
  unfold cpA
  rw [if_neg (by omega)]
theorem cpA_s {g f : Fn} {t0 f0 i j : Nat} : upd (cpA g f t0 f0 i) (t0 + i) (f (f0 + i)) j = cpA g f t0 f0 (i + 1) j := by
  by_cases h : j = t0 + i
  · subst h
    rw [pk_us]
    unfold cpA
    rw [if_pos (by omega), Nat.add_sub_cancel_left]
  · rw [pk_un h]
    unfold cpA
    by_cases h2 : t0 ≤ j ∧ j < t0 + i
    · rw [if_pos h2, if_pos (by omega)]
    · rw [if_neg h2, if_neg (by omega)]
theorem xup_e {σ : Sg} {a : Nat} {e : va_E} (h : σ a = some e) : xup σ a e = σ := by
  funext q
  unfold xup
  split
  · rename_i h2; rw [h2, h]
  · rfl
def shL (g : Fn) (i : Nat) : Fn := fun j => if j < i then g (j + 705) else g j
theorem shL_0 {g : Fn} : shL g 0 = g := by
  funext j
  unfold shL
  rw [if_neg (by omega)]
theorem shL_s {g : Fn} {i j : Nat} : upd (shL g i) i (shL g i (i + 705)) j = shL g (i + 1) j := by
  have e : shL g i (i + 705) = g (i + 705) := by unfold shL; rw [if_neg (by omega)]
  rw [e]
  by_cases h : j = i
  · subst h
    rw [pk_us]
    unfold shL
    rw [if_pos (by omega)]
  · rw [pk_un h]
    unfold shL
    by_cases h2 : j < i
    · rw [if_pos h2, if_pos (by omega)]
    · rw [if_neg h2, if_neg (by omega)]
/-- the history, when a state is recorded behind z others -/
def rcH (ho : Fn) (U : Vs) (z : Nat) : Fn := if z = 6 then cpA (shL ho 3525) (flat U) 3525 0 705 else cpA ho (flat U) (z * 705) 0 705
set_option maxRecDepth 100000 in
set_option maxHeartbeats 1000000 in
theorem c_X5_copies {l : Launch} {E : xEnv} {B N : Nat} {σ σ9 : Sg} {a0 b0 n1 n2 f0 t0 : Nat} {f g g2 : Fn} (ha : σ a0 = some (.inl (xI E, n1, .inl f))) (hb : σ b0 = some (.inl (xI E, n2, .inl g))) (hab : a0 ≠ b0) (h1 : f0 + 705 ≤ n1) (h2 : t0 + 705 ≤ n2) (hn1 : n1 < 2 ^ 31) (hn2 : n2 < 2 ^ 31) (hg : ∀ j, j < n2 → cpA g f t0 f0 705 j = g2 j) (hs : xup σ b0 (.inl (xI E, n2, .inl g2)) = σ9) : xM l yX5_copies cX5_copies 5 none 0 0 0 0 E B [.ref a0, .int (nI f0), .ref b0, .int (nI t0)] N σ N σ9 none := by
  refine xM_of [some (.ref _), some (.int _), some (.ref _), some (.int _), none] (by decide +kernel) (Nat.le_of_ble_eq_true rfl) rfl (fun k0 C Z => ?_)
  have hl : ∀ i, i ≤ 705 → xX k0 N 0 0 (xup σ b0 (.inl (xI E, n2, .inl (cpA g f t0 f0 i)))) 3 [some (.ref a0), some (.int (nI f0)), some (.ref b0), some (.int (nI t0)), some (.int (nI i))] [] := by
    refine x_for 705 ?_ ?_
    · refine x_iload C dX5_copies_3 rfl ?_
      refine x_sipush (v := 705) C dX5_copies_5 (by decide) ?_
      refine x_ic_ge C 29 dX5_copies_8 (by decide) (fun _ => ?_) (fun h => absurd (nI_le (a := 705) (Nat.le_refl _) (by omega)) h)
      refine x_conti xup_s hg (xup_u.trans hs) ?_
      exact x_vret C Z dX5_copies_29 (Nat.le_of_ble_eq_true rfl) (Nat.le_of_ble_eq_true rfl) rfl rfl
    · intro i hi ih
      refine x_iload C dX5_copies_3 rfl ?_
      refine x_sipush (v := 705) C dX5_copies_5 (by decide) ?_
      refine x_ic_ge C 29 dX5_copies_8 (by decide) (fun h => absurd h (nI_ge (b := 705) hi (by omega))) (fun _ => ?_)
      refine x_aload_n C dX5_copies_11 rfl ?_
      refine x_iload_n C dX5_copies_12 rfl ?_
      refine x_iload C dX5_copies_13 rfl ?_
      refine x_iadd C dX5_copies_15 ?_
      refine x_aload_n C dX5_copies_16 rfl ?_
      refine x_iload_n C dX5_copies_17 rfl ?_
      refine x_iload C dX5_copies_18 rfl ?_
      refine x_iadd C dX5_copies_20 ?_
      refine x_iald2 C (by rw [xup_n hab]; exact ha) (nI_add _ _) (by omega) hn1 dX5_copies_21 ?_
      refine x_iast2 C xup_s (nI_add _ _) (by omega) hn2 (fun j _ => cpA_s) xup_u dX5_copies_22 ?_
      refine x_iinc C dX5_copies_23 rfl (nI_inc _) (by decide) rfl ?_
      refine x_goto C 3 dX5_copies_26 (by decide) ?_
      refine xX.cl ih rfl (And.intro rfl (And.intro rfl (And.intro rfl (And.intro rfl (And.intro rfl trivial))))) rfl
  refine x_iconst (v := 0) C dX5_copies_0 (by decide) ?_
  refine x_istore C dX5_copies_1 (by decide) rfl ?_
  refine xX.cl (hl 0 (by omega)) ((congrArg (fun q => xup σ b0 (.inl (xI E, n2, .inl q))) cpA_0).trans (xup_e hb)).symm (And.intro rfl (And.intro rfl (And.intro rfl (And.intro rfl (And.intro rfl trivial))))) rfl
set_option maxRecDepth 100000 in
set_option maxHeartbeats 1000000 in
theorem c_X5_record_lt {l : Launch} {E : xEnv} {B N : Nat} {σ : Sg} {M : Nat} {U : Vs} {kp ho tx sc : Fn} {z : Nat} (hz : z < 6) (h0 : sc 0 = nI z) : xM l yX5_record cX5_record 2 none 1 24 0 0 E B [.ref M] N (mput E σ M U kp ho tx sc) N (mput E σ M U kp (cpA ho (flat U) (z * 705) 0 705) tx (upd sc 0 (nI (z + 1)))) none := by
  refine xM_of [some (.ref _), none] (by decide +kernel) (Nat.le_of_ble_eq_true rfl) rfl (fun k0 C Z => ?_)
  refine x_aload_n C dX5_record_0 rfl ?_
  refine x_get C kf_X5_22 mput_0 rfl dX5_record_1 ?_
  rw [h0]
  refine x_bipush (v := 6) C dX5_record_4 (by decide) ?_
  refine x_ic_ne C 50 dX5_record_6 (by decide) (fun _ => ?_) (fun h => absurd h (nI_neL (b := 6) (by omega) (by decide) (by omega)))
  refine x_aload_n C dX5_record_50 rfl ?_
  refine x_get C kf_X5_7 mput_0 rfl dX5_record_51 ?_
  refine x_iconst (v := 0) C dX5_record_54 (by decide) ?_
  refine x_aload_n C dX5_record_55 rfl ?_
  refine x_get C kf_X5_16 mput_0 rfl dX5_record_56 ?_
  refine x_aload_n C dX5_record_59 rfl ?_
  refine x_get C kf_X5_22 mput_0 rfl dX5_record_60 ?_
  rw [h0]
  refine x_sipush (v := 705) C dX5_record_63 (by decide) ?_
  refine x_imul C dX5_record_66 ?_
  rw [show nI z * 705 = nI (z * 705) from pk_mul z 705]
  refine x_callS C (c_X5_copies (f0 := 0) (t0 := z * 705) mput_1 mput_3 (by omega) (by omega) (by omega) (by decide) (by decide) (fun _ _ => rfl) (mput_hi _)) ks_X5_copies kl_X5_26 dX5_record_67 rfl rfl rfl rfl (Nat.le_of_ble_eq_true rfl) (Nat.le_of_ble_eq_true rfl) (Nat.le_of_ble_eq_true rfl) (Nat.le_of_ble_eq_true rfl) (Nat.le_of_ble_eq_true rfl) ?_
  refine x_aload_n C dX5_record_70 rfl ?_
  refine x_dup C dX5_record_71 rfl ?_
  refine x_get C kf_X5_22 mput_0 rfl dX5_record_72 ?_
  rw [h0]
  refine x_iconst (v := 1) C dX5_record_75 (by decide) ?_
  refine x_iadd C dX5_record_76 ?_
  refine x_put (ty := .int) C kf_X5_22 mput_0 rfl (by decide +kernel) rfl rfl (Nat.le_of_ble_eq_true rfl) (mput_s0 _) dX5_record_77 ?_
  exact x_vret C Z dX5_record_80 (Nat.le_of_ble_eq_true rfl) (Nat.le_of_ble_eq_true rfl) rfl (by rw [nI_1])
set_option maxRecDepth 100000 in
set_option maxHeartbeats 1000000 in
theorem c_X5_record_six {l : Launch} {E : xEnv} {B N : Nat} {σ : Sg} {M : Nat} {U : Vs} {kp ho tx sc : Fn} (h0 : sc 0 = 6) : xM l yX5_record cX5_record 2 none 1 24 0 0 E B [.ref M] N (mput E σ M U kp ho tx sc) N (mput E σ M U kp (cpA (shL ho 3525) (flat U) 3525 0 705) tx (upd sc 0 (nI 6))) none := by
  refine xM_of [some (.ref _), none] (by decide +kernel) (Nat.le_of_ble_eq_true rfl) rfl (fun k0 C Z => ?_)
  have hl : ∀ i, i ≤ 3525 → xX k0 N 0 0 (mput E σ M U kp (shL ho i) tx sc) 11 [some (.ref M), some (.int (nI i))] [] := by
    refine x_for 3525 ?_ ?_
    · refine x_iload_n C dX5_record_11 rfl ?_
      refine x_sipush (v := 3525) C dX5_record_12 (by decide) ?_
      refine x_ic_ge C 40 dX5_record_15 (by decide) (fun _ => ?_) (fun h => absurd (nI_le (a := 3525) (Nat.le_refl _) (by omega)) h)
      refine x_aload_n C dX5_record_40 rfl ?_
      refine x_dup C dX5_record_41 rfl ?_
      refine x_get C kf_X5_22 mput_0 rfl dX5_record_42 ?_
      rw [h0]
      refine x_iconst (v := 1) C dX5_record_45 (by decide) ?_
      refine x_isub C dX5_record_46 ?_
      refine x_put (ty := .int) C kf_X5_22 mput_0 rfl (by decide +kernel) rfl rfl (Nat.le_of_ble_eq_true rfl) (mput_s0 _) dX5_record_47 ?_
      refine x_aload_n C dX5_record_50 rfl ?_
      refine x_get C kf_X5_7 mput_0 rfl dX5_record_51 ?_
      refine x_iconst (v := 0) C dX5_record_54 (by decide) ?_
      refine x_aload_n C dX5_record_55 rfl ?_
      refine x_get C kf_X5_16 mput_0 rfl dX5_record_56 ?_
      refine x_aload_n C dX5_record_59 rfl ?_
      refine x_get C kf_X5_22 mput_0 rfl dX5_record_60 ?_
      rw [pk_us]
      refine x_sipush (v := 705) C dX5_record_63 (by decide) ?_
      refine x_imul C dX5_record_66 ?_
      rw [show ((6 : Int32) - 1) * 705 = nI 3525 by decide]
      refine x_callS C (c_X5_copies (f0 := 0) (t0 := 3525) mput_1 mput_3 (by omega) (by omega) (by omega) (by decide) (by decide) (fun _ _ => rfl) (mput_hi _)) ks_X5_copies kl_X5_26 dX5_record_67 rfl rfl rfl rfl (Nat.le_of_ble_eq_true rfl) (Nat.le_of_ble_eq_true rfl) (Nat.le_of_ble_eq_true rfl) (Nat.le_of_ble_eq_true rfl) (Nat.le_of_ble_eq_true rfl) ?_
      refine x_aload_n C dX5_record_70 rfl ?_
      refine x_dup C dX5_record_71 rfl ?_
      refine x_get C kf_X5_22 mput_0 rfl dX5_record_72 ?_
      rw [pk_us]
      refine x_iconst (v := 1) C dX5_record_75 (by decide) ?_
      refine x_iadd C dX5_record_76 ?_
      refine x_put (ty := .int) C kf_X5_22 mput_0 rfl (by decide +kernel) rfl rfl (Nat.le_of_ble_eq_true rfl) (mput_s0 _) dX5_record_77 ?_
      exact x_vret C Z dX5_record_80 (Nat.le_of_ble_eq_true rfl) (Nat.le_of_ble_eq_true rfl) rfl (by rw [upd_u, show (6 : Int32) - 1 + 1 = nI 6 by decide])
    · intro i hi ih
      refine x_iload_n C dX5_record_11 rfl ?_
      refine x_sipush (v := 3525) C dX5_record_12 (by decide) ?_
      refine x_ic_ge C 40 dX5_record_15 (by decide) (fun h => absurd h (nI_ge (b := 3525) hi (by omega))) (fun _ => ?_)
      refine x_aload_n C dX5_record_18 rfl ?_
      refine x_get C kf_X5_16 mput_0 rfl dX5_record_19 ?_
      refine x_iload_n C dX5_record_22 rfl ?_
      refine x_aload_n C dX5_record_23 rfl ?_
      refine x_get C kf_X5_16 mput_0 rfl dX5_record_24 ?_
      refine x_iload_n C dX5_record_27 rfl ?_
      refine x_sipush (v := 705) C dX5_record_28 (by decide) ?_
      refine x_iadd C dX5_record_31 ?_
      refine x_iald2 C mput_3 (nI_add _ 705) (by omega) (by decide) dX5_record_32 ?_
      refine x_iast2 C mput_3 rfl (by omega) (by decide) (fun j _ => shL_s) (mput_hi _) dX5_record_33 ?_
      refine x_iinc C dX5_record_34 rfl (nI_inc _) (by decide) rfl ?_
      refine x_goto C 11 dX5_record_37 (by decide) ?_
      refine xX.cl ih rfl (And.intro rfl (And.intro rfl trivial)) rfl
  refine x_aload_n C dX5_record_0 rfl ?_
  refine x_get C kf_X5_22 mput_0 rfl dX5_record_1 ?_
  rw [h0]
  refine x_bipush (v := 6) C dX5_record_4 (by decide) ?_
  refine x_ic_ne C 50 dX5_record_6 (by decide) (fun h => absurd rfl h) (fun _ => ?_)
  refine x_iconst (v := 0) C dX5_record_9 (by decide) ?_
  refine x_istore_n C dX5_record_10 (by decide) rfl ?_
  refine xX.cl (hl 0 (by omega)) (congrArg (fun q => mput E σ M U kp q tx sc) shL_0.symm) (And.intro rfl (And.intro rfl trivial)) rfl
theorem c_X5_record {l : Launch} {E : xEnv} {B N : Nat} {σ : Sg} {M : Nat} {U : Vs} {kp ho tx sc : Fn} {z : Nat} (hz : z ≤ 6) (h0 : sc 0 = nI z) : xM l yX5_record cX5_record 2 none 1 24 0 0 E B [.ref M] N (mput E σ M U kp ho tx sc) N (mput E σ M U kp (rcH ho U z) tx (upd sc 0 (nI (min 6 (z + 1))))) none := by
  unfold rcH
  by_cases h : z = 6
  · subst h; rw [if_pos rfl]; exact c_X5_record_six h0
  · rw [if_neg h, Nat.min_eq_right (by omega)]; exact c_X5_record_lt (by omega) h0
set_option maxRecDepth 100000 in
set_option maxHeartbeats 1000000 in
theorem c_X5_undo_0 {l : Launch} {E : xEnv} {B N : Nat} {σ : Sg} {M : Nat} {U : Vs} {kp ho tx sc : Fn} (h0 : sc 0 = 0) : xM l yX5_undo cX5_undo 1 (some .int) 1 24 0 0 E B [.ref M] N (mput E σ M U kp ho tx sc) N (mput E σ M U kp ho tx sc) (some (.int (-3))) := by
  refine xM_of [some (.ref _)] (by decide +kernel) (Nat.le_of_ble_eq_true rfl) rfl (fun k0 C Z => ?_)
  refine x_aload_n C dX5_undo_0 rfl ?_
  refine x_get C kf_X5_22 mput_0 rfl dX5_undo_1 ?_
  refine x_if_ne C 10 dX5_undo_4 (by decide) (fun h => absurd h0 h) (fun _ => ?_)
  refine x_bipush (v := (-3)) C dX5_undo_7 (by decide) ?_
  exact x_zret C Z dX5_undo_9 rfl (Nat.le_of_ble_eq_true rfl) (Nat.le_of_ble_eq_true rfl) rfl rfl rfl
set_option maxRecDepth 100000 in
set_option maxHeartbeats 1000000 in
theorem c_X5_undo_s {l : Launch} {E : xEnv} {B N : Nat} {σ : Sg} {M : Nat} {U : Vs} {kp ho tx sc : Fn} {z : Nat} {W : Vs} (hz : z < 6) (h0 : sc 0 = nI (z + 1)) (hW : ∀ j, j < 705 → ho (z * 705 + j) = flat W j) : xM l yX5_undo cX5_undo 1 (some .int) 1 24 0 0 E B [.ref M] N (mput E σ M U kp ho tx sc) N (mput E σ M W kp ho tx (upd sc 0 (nI z))) (some (.int (nI z))) := by
  refine xM_of [some (.ref _)] (by decide +kernel) (Nat.le_of_ble_eq_true rfl) rfl (fun k0 C Z => ?_)
  refine x_aload_n C dX5_undo_0 rfl ?_
  refine x_get C kf_X5_22 mput_0 rfl dX5_undo_1 ?_
  refine x_if_ne C 10 dX5_undo_4 (by decide) (fun _ => ?_) (fun h => absurd h (by rw [h0]; exact nI_ne0 (by omega) (by omega)))
  refine x_aload_n C dX5_undo_10 rfl ?_
  refine x_dup C dX5_undo_11 rfl ?_
  refine x_get C kf_X5_22 mput_0 rfl dX5_undo_12 ?_
  rw [h0]
  refine x_iconst (v := 1) C dX5_undo_15 (by decide) ?_
  refine x_isub C dX5_undo_16 ?_
  rw [nI_pred]
  refine x_put (ty := .int) C kf_X5_22 mput_0 rfl (by decide +kernel) rfl rfl (Nat.le_of_ble_eq_true rfl) (mput_s0 _) dX5_undo_17 ?_
  refine x_aload_n C dX5_undo_20 rfl ?_
  refine x_get C kf_X5_16 mput_0 rfl dX5_undo_21 ?_
  refine x_aload_n C dX5_undo_24 rfl ?_
  refine x_get C kf_X5_22 mput_0 rfl dX5_undo_25 ?_
  rw [pk_us]
  refine x_sipush (v := 705) C dX5_undo_28 (by decide) ?_
  refine x_imul C dX5_undo_31 ?_
  rw [show nI z * 705 = nI (z * 705) from pk_mul z 705]
  refine x_aload_n C dX5_undo_32 rfl ?_
  refine x_get C kf_X5_7 mput_0 rfl dX5_undo_33 ?_
  refine x_iconst (v := 0) C dX5_undo_36 (by decide) ?_
  refine x_callS C (c_X5_copies (f0 := z * 705) (t0 := 0) mput_3 mput_1 (by omega) (by omega) (by omega) (by decide) (by decide) (fun j hj => (if_pos ⟨Nat.zero_le _, by omega⟩).trans (hW j hj)) (mput_st _)) ks_X5_copies kl_X5_26 dX5_undo_37 rfl rfl rfl rfl (Nat.le_of_ble_eq_true rfl) (Nat.le_of_ble_eq_true rfl) (Nat.le_of_ble_eq_true rfl) (Nat.le_of_ble_eq_true rfl) (Nat.le_of_ble_eq_true rfl) ?_
  refine x_aload_n C dX5_undo_40 rfl ?_
  refine x_get C kf_X5_22 mput_0 rfl dX5_undo_41 ?_
  rw [pk_us]
  exact x_zret C Z dX5_undo_44 rfl (Nat.le_of_ble_eq_true rfl) (Nat.le_of_ble_eq_true rfl) rfl rfl rfl
