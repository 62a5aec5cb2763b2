/-! a meeting of the model's -/
theorem cl_rg (x : Int32) : 0 ≤ clS x ∧ clS x ≤ 99 := by
  by_cases h : 0 ≤ x
  · by_cases h2 : x ≤ 99
    · rw [cl_mid h h2]; exact ⟨h, h2⟩
    · rw [cl_hi h2]; exact ⟨by decide, by decide⟩
  · rw [cl_lo h]; exact ⟨by decide, by decide⟩
theorem cl_cl (x : Int32) : clS (clS x) = clS x := cl_mid (cl_rg x).1 (cl_rg x).2
theorem prS_up {V : Vs} {r j k m w : Nat} {a x y : Int32} (hr : r ≠ k) : prS (up2 V r j y) k m w a x = up2 (prS V k m w a x) r j y := by
  funext p q
  by_cases hp : p = k
  · subst hp
    rw [up2_r (Ne.symm hr)]
    unfold prS prL
    simp only [up2_r (Ne.symm hr)]
  · rw [prS_r hp]
    by_cases h : p = r ∧ q = j
    · rw [h.1, h.2, up2_s, up2_s]
    · rw [up2_n h, up2_n h, prS_r hp]
theorem fmS_up {V : Vs} {r j k m w : Nat} {x y : Int32} (hr : r ≠ k) : fmS (up2 V r j y) k m w x = up2 (fmS V k m w x) r j y := by
  funext p q
  by_cases hp : p = k
  · subst hp
    rw [up2_r (Ne.symm hr)]
    unfold fmS fmL
    simp only [up2_r (Ne.symm hr)]
  · rw [fmS_r hp]
    by_cases h : p = r ∧ q = j
    · rw [h.1, h.2, up2_s, up2_s]
    · rw [up2_n h, up2_n h, fmS_r hp]
theorem up2_up {V : Vs} {r j p q : Nat} {x y : Int32} (h : r ≠ p ∨ j ≠ q) : up2 (up2 V r j x) p q y = up2 (up2 V p q y) r j x := by
  funext a b
  by_cases h1 : a = p ∧ b = q
  · obtain ⟨rfl, rfl⟩ := h1
    rw [up2_s, up2_n (by omega), up2_s]
  · rw [up2_n h1]
    by_cases h2 : a = r ∧ b = j
    · obtain ⟨rfl, rfl⟩ := h2
      rw [up2_s, up2_s]
    · rw [up2_n h2, up2_n h2, up2_n h1]
theorem mtG_q {V : Vs} {r : Nat} (h : r ≠ 9) : mtG V r = V r := up2_r h
theorem mtC_q {V : Vs} {k1 k2 r : Nat} (h : r ≠ 9) (h2 : r ≠ 12) : mtC V k1 k2 r = V r := by
  unfold mtC mck mc1
  rw [up2_r h2, up2_r h2, up2_r h]
theorem mtG_pr {V : Vs} {k m w : Nat} {a x : Int32} (hk : k < 8) : prS (mtG V) k m w a x = mtG (prS V k m w a x) := by
  unfold mtG
  rw [prS_up (show 9 ≠ k by omega), prS_r (show 9 ≠ k by omega)]
theorem mtG_fm {V : Vs} {k m w : Nat} {x : Int32} (hk : k < 8) : fmS (mtG V) k m w x = mtG (fmS V k m w x) := by
  unfold mtG
  rw [fmS_up (show 9 ≠ k by omega), fmS_r (show 9 ≠ k by omega)]
theorem mck_pr {V : Vs} {k m w s : Nat} {a x : Int32} (hk : k < 8) : prS (mck V s) k m w a x = mck (prS V k m w a x) s := by
  unfold mck
  rw [prS_up (show 12 ≠ k by omega), prS_r (show 12 ≠ k by omega)]
theorem mck_fm {V : Vs} {k m w s : Nat} {x : Int32} (hk : k < 8) : fmS (mck V s) k m w x = mck (fmS V k m w x) s := by
  unfold mck
  rw [fmS_up (show 12 ≠ k by omega), fmS_r (show 12 ≠ k by omega)]
theorem mc1_pr {V : Vs} {k m w : Nat} {a x : Int32} (hk : k < 8) : prS (mc1 V) k m w a x = mc1 (prS V k m w a x) := by
  unfold mc1
  rw [prS_up (show 9 ≠ k by omega), prS_r (show 9 ≠ k by omega)]
theorem mc1_fm {V : Vs} {k m w : Nat} {x : Int32} (hk : k < 8) : fmS (mc1 V) k m w x = mc1 (fmS V k m w x) := by
  unfold mc1
  rw [fmS_up (show 9 ≠ k by omega), fmS_r (show 9 ≠ k by omega)]
theorem mtC_pr {V : Vs} {k m w k1 k2 : Nat} {a x : Int32} (hk : k < 8) : prS (mtC V k1 k2) k m w a x = mtC (prS V k m w a x) k1 k2 := by
  unfold mtC
  rw [mck_pr hk, mck_pr hk, mc1_pr hk]
theorem mtC_fm {V : Vs} {k m w k1 k2 : Nat} {x : Int32} (hk : k < 8) : fmS (mtC V k1 k2) k m w x = mtC (fmS V k m w x) k1 k2 := by
  unfold mtC
  rw [mck_fm hk, mck_fm hk, mc1_fm hk]
theorem chS_up {V : Vs} {r j k m w : Nat} {d y : Int32} (hr : r ≠ k) : chS (up2 V r j y) k m w d = up2 (chS V k m w d) r j y := by
  unfold chS
  rw [up2_r (Ne.symm hr), up2_up (Or.inl hr)]
theorem mtC_ch {V : Vs} {k m w k1 k2 : Nat} {d : Int32} (hk : k < 8) : chS (mtC V k1 k2) k m w d = mtC (chS V k m w d) k1 k2 := by
  unfold mtC mck mc1
  rw [chS_up (show 12 ≠ k by omega), chS_up (show 12 ≠ k by omega), chS_up (show 9 ≠ k by omega), chS_r (show 9 ≠ k by omega)]
  have e : chS V k m w d 12 = V 12 := chS_r (show 12 ≠ k by omega)
  have e2 : ∀ (W : Vs) (y z : Int32), W 12 = V 12 → up2 (up2 W 9 1 y) 12 k1 z 12 k2 = up2 (up2 V 9 1 y) 12 k1 z 12 k2 := by
    intro W y z h
    unfold up2
    simp only [h]
  rw [up2_r (show (12 : Nat) ≠ 9 by decide), up2_r (show (12 : Nat) ≠ 9 by decide), e, e2 (chS V k m w d) _ _ e]
theorem mtC_G {V : Vs} {k1 k2 : Nat} : mtC (mtG V) k1 k2 = mtG (mtC V k1 k2) := by
  have e : ∀ W : Vs, mc1 (mtG W) = mtG (mc1 W) := by
    intro W
    unfold mc1 mtG
    rw [up2_up (Or.inr (by decide)), up2_n (by decide), up2_n (by decide)]
  have e2 : ∀ (W : Vs) (s : Nat), mck (mtG W) s = mtG (mck W s) := by
    intro W s
    unfold mck mtG
    rw [up2_up (Or.inl (by decide)), up2_r (show (12 : Nat) ≠ 9 by decide), up2_r (show (9 : Nat) ≠ 12 by decide)]
  unfold mtC
  rw [e, e2, e2]
/-- the hearer's weights for the word, one meaning after the other -/
def fnL (V : Vs) (k m w : Nat) (x : Int32) (i : Nat) : Vs := fun r j => if r = k ∧ j % 14 = w ∧ j / 14 < i then clS (V r j + (if j / 14 = m then 0 else -x)) else V r j
theorem fnL_0 {V : Vs} {k m w : Nat} {x : Int32} : fnL V k m w x 0 = V := by
  funext r j
  unfold fnL
  rw [if_neg (by omega)]
theorem fnL_r {V : Vs} {k m w i r : Nat} {x : Int32} (h : r ≠ k) : fnL V k m w x i r = V r := by
  funext j
  unfold fnL
  rw [if_neg (fun z => h z.1)]
theorem fnL_s {V : Vs} {k m w i : Nat} {x d : Int32} (hw : w < 14) (h : d = if i = m then 0 else -x) : chS (fnL V k m w x i) k i w d = fnL V k m w x (i + 1) := by
  have e : fnL V k m w x i k (14 * i + w) = V k (14 * i + w) := by
    unfold fnL
    rw [if_neg (by omega)]
  funext r j
  unfold chS
  rw [e]
  by_cases h1 : r = k ∧ j = 14 * i + w
  · obtain ⟨rfl, rfl⟩ := h1
    rw [up2_s, h]
    unfold fnL
    rw [if_pos (show r = r ∧ (14 * i + w) % 14 = w ∧ (14 * i + w) / 14 < i + 1 by omega), show (14 * i + w) / 14 = i by omega]
  · rw [up2_n h1]
    unfold fnL
    by_cases h2 : r = k ∧ j % 14 = w ∧ j / 14 < i
    · rw [if_pos h2, if_pos (show r = k ∧ j % 14 = w ∧ j / 14 < i + 1 by omega)]
    · rw [if_neg h2, if_neg (show ¬ (r = k ∧ j % 14 = w ∧ j / 14 < i + 1) by omega)]
theorem fnL_t {V : Vs} {k m w i : Nat} {x : Int32} (hw : w < 14) (h : i = m) : chS (fnL V k m w x i) k i w 0 = fnL V k m w x (i + 1) := fnL_s hw (if_pos h).symm
theorem fnL_f {V : Vs} {k m w i : Nat} {x : Int32} (hw : w < 14) (h : ¬ i = m) : chS (fnL V k m w x i) k i w (-x) = fnL V k m w x (i + 1) := fnL_s hw (if_neg h).symm
theorem fnL_e {V : Vs} {k m w : Nat} {x : Int32} (hc : clS (V k (14 * m + w)) = V k (14 * m + w)) : fnL V k m w x 6 = fmS V k m w x := by
  funext r j
  unfold fnL fmS fmL
  by_cases h1 : r = k ∧ j % 14 = w ∧ j / 14 < 6
  · rw [if_pos h1]
    by_cases h2 : j / 14 = m
    · rw [if_pos h2, if_neg (show ¬ (r = k ∧ j % 14 = w ∧ j / 14 < 6 ∧ j / 14 ≠ m) by omega), Int32.add_zero, h1.1, show j = 14 * m + w by omega, hc]
    · rw [if_neg h2, if_pos (show r = k ∧ j % 14 = w ∧ j / 14 < 6 ∧ j / 14 ≠ m by omega)]
  · rw [if_neg h1, if_neg (show ¬ (r = k ∧ j % 14 = w ∧ j / 14 < 6 ∧ j / 14 ≠ m) by omega)]
theorem prS_at {V : Vs} {k m w : Nat} {a x : Int32} : prS V k m w a x k (14 * m + w) = clS (V k (14 * m + w) + a) := by
  unfold prS prL
  rw [if_pos ⟨rfl, rfl⟩]
theorem mm_S {W : Vs} {k1 k2 m w : Nat} (hk1 : k1 < 8) (hk2 : k2 < 8) : mtC (mtG (fnL (prS (prS W k1 m w (lnS (W 11 k1) (W 8 0)) (W 8 1)) k2 m w (lnS (W 11 k2) (W 8 0)) (W 8 1)) k2 m w (W 8 1) 6)) k1 k2 = mtF W k1 k2 m w m := by
  rw [fnL_e (by rw [prS_at, cl_cl]), mtF, if_pos rfl]
  unfold mtS
  rw [mtG_q (show (11 : Nat) ≠ 9 by decide), mtG_q (show (8 : Nat) ≠ 9 by decide), mtC_q (show (11 : Nat) ≠ 9 by decide) (by decide), mtC_q (show (8 : Nat) ≠ 9 by decide) (by decide)]
  rw [prS_r (show 11 ≠ k1 by omega), prS_r (show 8 ≠ k1 by omega), mtG_q (show (11 : Nat) ≠ 9 by decide), mtG_q (show (8 : Nat) ≠ 9 by decide), mtC_q (show (11 : Nat) ≠ 9 by decide) (by decide), mtC_q (show (8 : Nat) ≠ 9 by decide) (by decide)]
  rw [mtG_pr hk1, mtG_pr hk2, mtG_fm hk2, mtC_pr hk1, mtC_pr hk2, mtC_fm hk2, mtC_G]
theorem mm_N {W : Vs} {k1 k2 m w h : Nat} (hk1 : k1 < 8) (hk2 : k2 < 8) (hh : ¬ h = m) : mtC (chS (chS (chS W k1 m w (-(W 8 1))) k2 m w 1) k2 h w (-(W 8 1))) k1 k2 = mtF W k1 k2 m w h := by
  rw [mtF, if_neg hh]
  unfold mtN
  rw [mtC_q (show (8 : Nat) ≠ 9 by decide) (by decide), mtC_ch hk1, mtC_ch hk2, mtC_ch hk2]
theorem c_X5_wordFor_n {l : Launch} {E : xEnv} {B N : Nat} {σ : Sg} {M : Nat} {U : Vs} {kp ho tx sc : Fn} {s m : Nat} (hs : s < 8) (hm : m < 6) (hq : wfS (U s) m = none) : xM l yX5_wordFor cX5_wordFor 7 (some .int) 2 45 0 0 E B [.ref M, .int (nI s), .int (nI m)] N (mput E σ M U kp ho tx sc) N (mput E σ M U kp ho tx sc) (some (.int (-6))) := by
  have h := c_X5_wordFor (l := l) (E := E) (B := B) (N := N) (σ := σ) (M := M) (U := U) (kp := kp) (ho := ho) (tx := tx) (sc := sc) hs hm
  rw [hq] at h
  exact h
theorem c_X5_wordFor_s {l : Launch} {E : xEnv} {B N : Nat} {σ : Sg} {M : Nat} {U : Vs} {kp ho tx sc : Fn} {s m : Nat} (hs : s < 8) (hm : m < 6) {q : Nat} (hq : wfS (U s) m = some q) : xM l yX5_wordFor cX5_wordFor 7 (some .int) 2 45 0 0 E B [.ref M, .int (nI s), .int (nI m)] N (mput E σ M U kp ho tx sc) N (mput E σ M U kp ho tx sc) (some (.int (nI q))) := by
  have h := c_X5_wordFor (l := l) (E := E) (B := B) (N := N) (σ := σ) (M := M) (U := U) (kp := kp) (ho := ho) (tx := tx) (sc := sc) hs hm
  rw [hq] at h
  exact h
theorem c_X5_heardAs_n {l : Launch} {E : xEnv} {B N : Nat} {σ : Sg} {M : Nat} {U : Vs} {kp ho tx sc : Fn} {s w : Nat} (hs : s < 8) (hw : w < 14) (hq : haS (U s) w = none) : xM l yX5_heardAs cX5_heardAs 7 (some .int) 2 45 0 0 E B [.ref M, .int (nI s), .int (nI w)] N (mput E σ M U kp ho tx sc) N (mput E σ M U kp ho tx sc) (some (.int (-6))) := by
  have h := c_X5_heardAs (l := l) (E := E) (B := B) (N := N) (σ := σ) (M := M) (U := U) (kp := kp) (ho := ho) (tx := tx) (sc := sc) hs hw
  rw [hq] at h
  exact h
theorem c_X5_heardAs_s {l : Launch} {E : xEnv} {B N : Nat} {σ : Sg} {M : Nat} {U : Vs} {kp ho tx sc : Fn} {s w : Nat} (hs : s < 8) (hw : w < 14) {q : Nat} (hq : haS (U s) w = some q) : xM l yX5_heardAs cX5_heardAs 7 (some .int) 2 45 0 0 E B [.ref M, .int (nI s), .int (nI w)] N (mput E σ M U kp ho tx sc) N (mput E σ M U kp ho tx sc) (some (.int (nI q))) := by
  have h := c_X5_heardAs (l := l) (E := E) (B := B) (N := N) (σ := σ) (M := M) (U := U) (kp := kp) (ho := ho) (tx := tx) (sc := sc) hs hw
  rw [hq] at h
  exact h
set_option maxRecDepth 100000 in
set_option maxHeartbeats 1000000 in
theorem c_X5_meets {l : Launch} {E : xEnv} {B N : Nat} {σ : Sg} {M : Nat} {U : Vs} {kp ho tx sc : Fn} {k1 k2 m : Nat} (hk1 : k1 < 8) (hk2 : k2 < 8) (hm : m < 6) (hs : sok U) : xM l yX5_meets cX5_meets 5 (some .boolean) 4 94 0 0 E B [.ref M, .int (nI k1), .int (nI k2), .int (nI m)] N (mput E σ M U kp ho tx sc) N (mput E σ M (mtV U k1 k2 m) kp ho tx (upd (upd sc 2 (nI (mt1 U k1 k2 m).2.1)) 3 (nI (mt1 U k1 k2 m).2.2))) (some (.int (xb ((mt1 U k1 k2 m).2.2 = m)))) := by
  refine xM_of [some (.ref _), some (.int _), some (.int _), some (.int _), none] (by decide +kernel) (Nat.le_of_ble_eq_true rfl) rfl (fun k0 C Z => ?_)
  have j197 : ∀ (W : Vs) (h : Nat) (sc2 : Fn), h < 6 → sc2 3 = nI h → mput E σ M (mtC W k1 k2) kp ho tx sc2 = (mput E σ M (mtV U k1 k2 m) kp ho tx (upd (upd sc 2 (nI (mt1 U k1 k2 m).2.1)) 3 (nI (mt1 U k1 k2 m).2.2))) → h = (mt1 U k1 k2 m).2.2 → xX k0 N 0 0 (mput E σ M W kp ho tx sc2) 197 [some (.ref M), some (.int (nI k1)), some (.int (nI k2)), some (.int (nI m)), none] [] := by
    intro W h sc2 hh h3s hF hH
    refine x_aload_n C dX5_meets_197 rfl ?_
    refine x_get C kf_X5_7 mput_0 rfl dX5_meets_198 ?_
    refine x_iconst (v := 1) C dX5_meets_201 (by decide) ?_
    refine x_dup2 C dX5_meets_202 rfl rfl ?_
    refine x_iald2 C mput_1 rfl (by decide) (by decide) dX5_meets_203 ?_
    rw [fl_9 (j := 1) (by decide)]
    refine x_iconst (v := 1) C dX5_meets_204 (by decide) ?_
    refine x_iadd C dX5_meets_205 ?_
    refine x_iast2 C mput_1 rfl (by decide) (by decide) (flu_9 (q := 1) (by decide) _) (mput_st _) dX5_meets_206 ?_
    refine x_aload_n C dX5_meets_207 rfl ?_
    refine x_iload_n C dX5_meets_208 rfl ?_
    refine x_iconst (v := 2) C dX5_meets_209 (by decide) ?_
    refine x_aload_n C dX5_meets_210 rfl ?_
    refine x_iload_n C dX5_meets_211 rfl ?_
    refine x_iconst (v := 2) C dX5_meets_212 (by decide) ?_
    refine x_callV C (c_X5_part2 hk1) kv_X5_part kl_X5_34 dX5_meets_213 mput_0 rfl rfl rfl rfl (Nat.le_of_ble_eq_true rfl) (Nat.le_of_ble_eq_true rfl) (Nat.le_of_ble_eq_true rfl) (Nat.le_of_ble_eq_true rfl) (Nat.le_of_ble_eq_true rfl) ?_
    refine x_iconst (v := 1) C dX5_meets_216 (by decide) ?_
    refine x_iadd C dX5_meets_217 ?_
    refine x_callV C (c_X5_setPart2 hk1 _) kv_X5_setPart kl_X5_77 dX5_meets_218 mput_0 rfl rfl rfl rfl (Nat.le_of_ble_eq_true rfl) (Nat.le_of_ble_eq_true rfl) (Nat.le_of_ble_eq_true rfl) (Nat.le_of_ble_eq_true rfl) (Nat.le_of_ble_eq_true rfl) ?_
    refine x_aload_n C dX5_meets_221 rfl ?_
    refine x_iload_n C dX5_meets_222 rfl ?_
    refine x_iconst (v := 2) C dX5_meets_223 (by decide) ?_
    refine x_aload_n C dX5_meets_224 rfl ?_
    refine x_iload_n C dX5_meets_225 rfl ?_
    refine x_iconst (v := 2) C dX5_meets_226 (by decide) ?_
    refine x_callV C (c_X5_part2 hk2) kv_X5_part kl_X5_34 dX5_meets_227 mput_0 rfl rfl rfl rfl (Nat.le_of_ble_eq_true rfl) (Nat.le_of_ble_eq_true rfl) (Nat.le_of_ble_eq_true rfl) (Nat.le_of_ble_eq_true rfl) (Nat.le_of_ble_eq_true rfl) ?_
    refine x_iconst (v := 1) C dX5_meets_230 (by decide) ?_
    refine x_iadd C dX5_meets_231 ?_
    refine x_callV C (c_X5_setPart2 hk2 _) kv_X5_setPart kl_X5_77 dX5_meets_232 mput_0 rfl rfl rfl rfl (Nat.le_of_ble_eq_true rfl) (Nat.le_of_ble_eq_true rfl) (Nat.le_of_ble_eq_true rfl) (Nat.le_of_ble_eq_true rfl) (Nat.le_of_ble_eq_true rfl) ?_
    refine x_aload_n C dX5_meets_235 rfl ?_
    refine x_get C kf_X5_70 mput_0 rfl dX5_meets_236 ?_
    rw [h3s]
    refine x_iload_n C dX5_meets_239 rfl ?_
    refine x_ic_ne C 247 dX5_meets_240 (by decide) (fun h240 => ?_) (fun h240 => ?_)
    · refine x_iconst (v := 0) C dX5_meets_247 (by decide) ?_
      exact x_zret C Z dX5_meets_248 rfl (Nat.le_of_ble_eq_true rfl) (Nat.le_of_ble_eq_true rfl) rfl hF ((b_f (fun z => h240 (congrArg nI z))).symm.trans (by rw [hH]))
    · refine x_iconst (v := 1) C dX5_meets_243 (by decide) ?_
      refine x_goto C 248 dX5_meets_244 (by decide) ?_
      exact x_zret C Z dX5_meets_248 rfl (Nat.le_of_ble_eq_true rfl) (Nat.le_of_ble_eq_true rfl) rfl hF ((b_t ((nI_eq (by omega) (by omega)).mp h240)).symm.trans (by rw [hH]))
  have j61 : ∀ (W : Vs) (w h : Nat) (sc2 : Fn), w < 14 → h < 6 → sc2 2 = nI w → sc2 3 = nI h → mput E σ M (mtF W k1 k2 m w h) kp ho tx sc2 = (mput E σ M (mtV U k1 k2 m) kp ho tx (upd (upd sc 2 (nI (mt1 U k1 k2 m).2.1)) 3 (nI (mt1 U k1 k2 m).2.2))) → h = (mt1 U k1 k2 m).2.2 → xX k0 N 0 0 (mput E σ M W kp ho tx sc2) 61 [some (.ref M), some (.int (nI k1)), some (.int (nI k2)), some (.int (nI m)), none] [] := by
    intro W w h sc2 hw hh h2s h3s hF hH
    refine x_aload_n C dX5_meets_61 rfl ?_
    refine x_get C kf_X5_70 mput_0 rfl dX5_meets_62 ?_
    rw [h3s]
    refine x_iload_n C dX5_meets_65 rfl ?_
    refine x_ic_ne C 147 dX5_meets_66 (by decide) (fun h66 => ?_) (fun h66 => ?_)
    · have hm2 : ¬ h = m := fun z => h66 (congrArg nI z)
      refine x_aload_n C dX5_meets_147 rfl ?_
      refine x_iload_n C dX5_meets_148 rfl ?_
      refine x_iload_n C dX5_meets_149 rfl ?_
      refine x_aload_n C dX5_meets_150 rfl ?_
      refine x_get C kf_X5_61 mput_0 rfl dX5_meets_151 ?_
      rw [h2s]
      refine x_aload_n C dX5_meets_154 rfl ?_
      refine x_get C kf_X5_7 mput_0 rfl dX5_meets_155 ?_
      refine x_bipush (v := 6) C dX5_meets_158 (by decide) ?_
      refine x_iald2 C mput_1 rfl (by decide) (by decide) dX5_meets_160 ?_
      rw [fl_loss]
      refine x_ineg C dX5_meets_161 ?_
      refine x_callV C (c_X5_changes hk1 hm hw _) kv_X5_changes kl_X5_54 dX5_meets_162 mput_0 rfl rfl rfl rfl (Nat.le_of_ble_eq_true rfl) (Nat.le_of_ble_eq_true rfl) (Nat.le_of_ble_eq_true rfl) (Nat.le_of_ble_eq_true rfl) (Nat.le_of_ble_eq_true rfl) ?_
      refine x_aload_n C dX5_meets_165 rfl ?_
      refine x_iload_n C dX5_meets_166 rfl ?_
      refine x_iload_n C dX5_meets_167 rfl ?_
      refine x_aload_n C dX5_meets_168 rfl ?_
      refine x_get C kf_X5_61 mput_0 rfl dX5_meets_169 ?_
      rw [h2s]
      refine x_iconst (v := 1) C dX5_meets_172 (by decide) ?_
      refine x_callV C (c_X5_changes hk2 hm hw _) kv_X5_changes kl_X5_54 dX5_meets_173 mput_0 rfl rfl rfl rfl (Nat.le_of_ble_eq_true rfl) (Nat.le_of_ble_eq_true rfl) (Nat.le_of_ble_eq_true rfl) (Nat.le_of_ble_eq_true rfl) (Nat.le_of_ble_eq_true rfl) ?_
      refine x_aload_n C dX5_meets_176 rfl ?_
      refine x_iload_n C dX5_meets_177 rfl ?_
      refine x_aload_n C dX5_meets_178 rfl ?_
      refine x_get C kf_X5_70 mput_0 rfl dX5_meets_179 ?_
      rw [h3s]
      refine x_aload_n C dX5_meets_182 rfl ?_
      refine x_get C kf_X5_61 mput_0 rfl dX5_meets_183 ?_
      rw [h2s]
      refine x_aload_n C dX5_meets_186 rfl ?_
      refine x_get C kf_X5_7 mput_0 rfl dX5_meets_187 ?_
      refine x_bipush (v := 6) C dX5_meets_190 (by decide) ?_
      refine x_iald2 C mput_1 rfl (by decide) (by decide) dX5_meets_192 ?_
      rw [fl_loss, chS_r (show 8 ≠ k2 by omega), chS_r (show 8 ≠ k1 by omega)]
      refine x_ineg C dX5_meets_193 ?_
      refine x_callV C (c_X5_changes hk2 hh hw _) kv_X5_changes kl_X5_54 dX5_meets_194 mput_0 rfl rfl rfl rfl (Nat.le_of_ble_eq_true rfl) (Nat.le_of_ble_eq_true rfl) (Nat.le_of_ble_eq_true rfl) (Nat.le_of_ble_eq_true rfl) (Nat.le_of_ble_eq_true rfl) ?_
      refine xX.cl (j197 _ h sc2 hh h3s ((mcg (mm_N hk1 hk2 hm2)).trans hF) hH) rfl (And.intro rfl (And.intro rfl (And.intro rfl (And.intro rfl trivial)))) rfl
    · have hm2 : h = m := (nI_eq (by omega) (by omega)).mp h66
      have hl : ∀ i, i ≤ 6 → xX k0 N 0 0 (mput E σ M (fnL (prS (prS W k1 m w (lnS (W 11 k1) (W 8 0)) (W 8 1)) k2 m w (lnS (W 11 k2) (W 8 0)) (W 8 1)) k2 m w (W 8 1) i) kp ho tx sc2) 92 [some (.ref M), some (.int (nI k1)), some (.int (nI k2)), some (.int (nI m)), some (.int (nI i))] [] := by
        refine x_for 6 ?_ ?_
        · refine x_iload C dX5_meets_92 rfl ?_
          refine x_bipush (v := 6) C dX5_meets_94 (by decide) ?_
          refine x_ic_ge C 134 dX5_meets_96 (by decide) (fun _ => ?_) (fun h => absurd (nI_le (a := 6) (Nat.le_refl _) (by omega)) h)
          refine x_aload_n C dX5_meets_134 rfl ?_
          refine x_get C kf_X5_7 mput_0 rfl dX5_meets_135 ?_
          refine x_iconst (v := 2) C dX5_meets_138 (by decide) ?_
          refine x_dup2 C dX5_meets_139 rfl rfl ?_
          refine x_iald2 C mput_1 rfl (by decide) (by decide) dX5_meets_140 ?_
          rw [fl_9 (j := 2) (by decide)]
          refine x_iconst (v := 1) C dX5_meets_141 (by decide) ?_
          refine x_iadd C dX5_meets_142 ?_
          refine x_iast2 C mput_1 rfl (by decide) (by decide) (flu_9 (q := 2) (by decide) _) (mput_st _) dX5_meets_143 ?_
          refine x_goto C 197 dX5_meets_144 (by decide) ?_
          refine xX.cl (j197 _ h sc2 hh h3s ((mcg ((mm_S hk1 hk2).trans (by rw [hm2]))).trans hF) hH) rfl (And.intro rfl (And.intro rfl (And.intro rfl (And.intro rfl trivial)))) rfl
        · intro i hi ih
          have hi6 : i < 6 := hi
          refine x_iload C dX5_meets_92 rfl ?_
          refine x_bipush (v := 6) C dX5_meets_94 (by decide) ?_
          refine x_ic_ge C 134 dX5_meets_96 (by decide) (fun h => absurd h (nI_ge (b := 6) hi (by omega))) (fun _ => ?_)
          refine x_aload_n C dX5_meets_99 rfl ?_
          refine x_iload_n C dX5_meets_100 rfl ?_
          refine x_iload C dX5_meets_101 rfl ?_
          refine x_aload_n C dX5_meets_103 rfl ?_
          refine x_get C kf_X5_61 mput_0 rfl dX5_meets_104 ?_
          rw [h2s]
          refine x_iload C dX5_meets_107 rfl ?_
          refine x_iload_n C dX5_meets_109 rfl ?_
          refine x_ic_ne C 117 dX5_meets_110 (by decide) (fun h110 => ?_) (fun h110 => ?_)
          · refine x_aload_n C dX5_meets_117 rfl ?_
            refine x_get C kf_X5_7 mput_0 rfl dX5_meets_118 ?_
            refine x_bipush (v := 6) C dX5_meets_121 (by decide) ?_
            refine x_iald2 C mput_1 rfl (by decide) (by decide) dX5_meets_123 ?_
            rw [fl_loss, fnL_r (show 8 ≠ k2 by omega), prS_r (show 8 ≠ k2 by omega), prS_r (show 8 ≠ k1 by omega)]
            refine x_ineg C dX5_meets_124 ?_
            refine x_callV C (c_X5_changes hk2 hi6 hw _) kv_X5_changes kl_X5_54 dX5_meets_125 mput_0 rfl rfl rfl rfl (Nat.le_of_ble_eq_true rfl) (Nat.le_of_ble_eq_true rfl) (Nat.le_of_ble_eq_true rfl) (Nat.le_of_ble_eq_true rfl) (Nat.le_of_ble_eq_true rfl) ?_
            refine x_iinc C dX5_meets_128 rfl (nI_inc _) (by decide) rfl ?_
            refine x_goto C 92 dX5_meets_131 (by decide) ?_
            refine xX.cl ih (mcg (fnL_f hw (fun z => h110 (congrArg nI z)))) (And.intro rfl (And.intro rfl (And.intro rfl (And.intro rfl (And.intro rfl trivial))))) rfl
          · refine x_iconst (v := 0) C dX5_meets_113 (by decide) ?_
            refine x_goto C 125 dX5_meets_114 (by decide) ?_
            refine x_callV C (c_X5_changes hk2 hi6 hw _) kv_X5_changes kl_X5_54 dX5_meets_125 mput_0 rfl rfl rfl rfl (Nat.le_of_ble_eq_true rfl) (Nat.le_of_ble_eq_true rfl) (Nat.le_of_ble_eq_true rfl) (Nat.le_of_ble_eq_true rfl) (Nat.le_of_ble_eq_true rfl) ?_
            refine x_iinc C dX5_meets_128 rfl (nI_inc _) (by decide) rfl ?_
            refine x_goto C 92 dX5_meets_131 (by decide) ?_
            refine xX.cl ih (mcg (fnL_t hw ((nI_eq (by omega) (by omega)).mp h110))) (And.intro rfl (And.intro rfl (And.intro rfl (And.intro rfl (And.intro rfl trivial))))) rfl
      refine x_aload_n C dX5_meets_69 rfl ?_
      refine x_iload_n C dX5_meets_70 rfl ?_
      refine x_iload_n C dX5_meets_71 rfl ?_
      refine x_aload_n C dX5_meets_72 rfl ?_
      refine x_get C kf_X5_61 mput_0 rfl dX5_meets_73 ?_
      rw [h2s]
      refine x_callV C (c_X5_strengthens hk1 hm hw) kv_X5_strengthens kl_X5_73 dX5_meets_76 mput_0 rfl rfl rfl rfl (Nat.le_of_ble_eq_true rfl) (Nat.le_of_ble_eq_true rfl) (Nat.le_of_ble_eq_true rfl) (Nat.le_of_ble_eq_true rfl) (Nat.le_of_ble_eq_true rfl) ?_
      refine x_aload_n C dX5_meets_79 rfl ?_
      refine x_iload_n C dX5_meets_80 rfl ?_
      refine x_iload_n C dX5_meets_81 rfl ?_
      refine x_aload_n C dX5_meets_82 rfl ?_
      refine x_get C kf_X5_61 mput_0 rfl dX5_meets_83 ?_
      rw [h2s]
      refine x_callV C (c_X5_strengthens hk2 hm hw) kv_X5_strengthens kl_X5_73 dX5_meets_86 mput_0 rfl rfl rfl rfl (Nat.le_of_ble_eq_true rfl) (Nat.le_of_ble_eq_true rfl) (Nat.le_of_ble_eq_true rfl) (Nat.le_of_ble_eq_true rfl) (Nat.le_of_ble_eq_true rfl) ?_
      rw [prS_r (show 11 ≠ k1 by omega), prS_r (show 8 ≠ k1 by omega)]
      refine x_iconst (v := 0) C dX5_meets_89 (by decide) ?_
      refine x_istore C dX5_meets_90 (by decide) rfl ?_
      refine xX.cl (hl 0 (by omega)) (mcg fnL_0.symm) (And.intro rfl (And.intro rfl (And.intro rfl (And.intro rfl (And.intro rfl trivial))))) rfl
  have j29 : ∀ (W : Vs) (w : Nat) (sc2 : Fn), wdN U k1 m = (W, w) → sc2 = upd sc 2 (nI w) → xX k0 N 0 0 (mput E σ M W kp ho tx sc2) 29 [some (.ref M), some (.int (nI k1)), some (.int (nI k2)), some (.int (nI m)), none] [] := by
    intro W w sc2 hW hsc
    have hw : w < 14 := by have := wdN_lt (V := U) (k := k1) (m := m); rw [hW] at this; exact this
    have hsk : sok W := by have := wdN_ok (k := k1) (m := m) hs; rw [hW] at this; exact this
    have h2s : sc2 2 = nI w := by rw [hsc]; exact pk_us
    have hX : ∀ (X : Vs) (h : Nat), hdN W k2 w = (X, h) → mt1 U k1 k2 m = (X, w, h) := by
      intro X h hX
      dsimp only [mt1]
      rw [hW]
      dsimp only
      rw [hX]
    cases hq : haS (W k2) w with
    | none =>
      refine x_aload_n C dX5_meets_29 rfl ?_
      refine x_aload_n C dX5_meets_30 rfl ?_
      refine x_iload_n C dX5_meets_31 rfl ?_
      refine x_aload_n C dX5_meets_32 rfl ?_
      refine x_get C kf_X5_61 mput_0 rfl dX5_meets_33 ?_
      rw [h2s]
      refine x_callV C (c_X5_heardAs_n hk2 hw hq) kv_X5_heardAs kl_X5_67 dX5_meets_36 mput_0 rfl rfl rfl rfl (Nat.le_of_ble_eq_true rfl) (Nat.le_of_ble_eq_true rfl) (Nat.le_of_ble_eq_true rfl) (Nat.le_of_ble_eq_true rfl) (Nat.le_of_ble_eq_true rfl) ?_
      refine x_put (ty := .int) C kf_X5_70 mput_0 rfl (by decide +kernel) rfl rfl (Nat.le_of_ble_eq_true rfl) (mput_s3 _) dX5_meets_39 ?_
      refine x_aload_n C dX5_meets_42 rfl ?_
      refine x_get C kf_X5_70 mput_0 rfl dX5_meets_43 ?_
      refine x_bipush (v := (-6)) C dX5_meets_46 (by decide) ?_
      refine x_ic_ne C 61 dX5_meets_48 (by decide) (fun h => absurd pk_us h) (fun _ => ?_)
      refine x_aload_n C dX5_meets_51 rfl ?_
      refine x_aload_n C dX5_meets_52 rfl ?_
      refine x_bipush (v := 6) C dX5_meets_53 (by decide) ?_
      refine x_callV C (c_X5_draws hsk (n := 6) (by decide) (by decide)) kv_X5_draws kl_X5_64 dX5_meets_55 mput_0 rfl rfl rfl rfl (Nat.le_of_ble_eq_true rfl) (Nat.le_of_ble_eq_true rfl) (Nat.le_of_ble_eq_true rfl) (Nat.le_of_ble_eq_true rfl) (Nat.le_of_ble_eq_true rfl) ?_
      refine x_put (ty := .int) C kf_X5_70 mput_0 rfl (by decide +kernel) rfl rfl (Nat.le_of_ble_eq_true rfl) (mput_s3 _) dX5_meets_58 ?_
      have hx := hX _ _ (hdN_n hq)
      refine xX.cl (j61 (drV W) w (dvN W 6) _ hw (dvN_lt (by decide)) ((pk_un (by decide)).trans ((pk_un (by decide)).trans h2s)) pk_us (by unfold mtV; rw [hx]; subst hsc; rw [upd_u]) (by rw [hx])) rfl (And.intro rfl (And.intro rfl (And.intro rfl (And.intro rfl trivial)))) rfl
    | some h =>
      have hh : h < 6 := haS_in hq
      have h31 : h < 2 ^ 31 := by omega
      refine x_aload_n C dX5_meets_29 rfl ?_
      refine x_aload_n C dX5_meets_30 rfl ?_
      refine x_iload_n C dX5_meets_31 rfl ?_
      refine x_aload_n C dX5_meets_32 rfl ?_
      refine x_get C kf_X5_61 mput_0 rfl dX5_meets_33 ?_
      rw [h2s]
      refine x_callV C (c_X5_heardAs_s hk2 hw hq) kv_X5_heardAs kl_X5_67 dX5_meets_36 mput_0 rfl rfl rfl rfl (Nat.le_of_ble_eq_true rfl) (Nat.le_of_ble_eq_true rfl) (Nat.le_of_ble_eq_true rfl) (Nat.le_of_ble_eq_true rfl) (Nat.le_of_ble_eq_true rfl) ?_
      refine x_put (ty := .int) C kf_X5_70 mput_0 rfl (by decide +kernel) rfl rfl (Nat.le_of_ble_eq_true rfl) (mput_s3 _) dX5_meets_39 ?_
      refine x_aload_n C dX5_meets_42 rfl ?_
      refine x_get C kf_X5_70 mput_0 rfl dX5_meets_43 ?_
      refine x_bipush (v := (-6)) C dX5_meets_46 (by decide) ?_
      refine x_ic_ne C 61 dX5_meets_48 (by decide) (fun _ => ?_) (fun h => absurd h (fun z => nI_ne6 h31 (pk_us.symm.trans z)))
      have hx := hX _ _ (hdN_s hq)
      refine xX.cl (j61 W w h _ hw hh ((pk_un (by decide)).trans h2s) pk_us (by unfold mtV; rw [hx]; subst hsc; rfl) (by rw [hx])) rfl (And.intro rfl (And.intro rfl (And.intro rfl (And.intro rfl trivial)))) rfl
  cases hq : wfS (U k1) m with
  | none =>
    refine x_aload_n C dX5_meets_0 rfl ?_
    refine x_aload_n C dX5_meets_1 rfl ?_
    refine x_iload_n C dX5_meets_2 rfl ?_
    refine x_iload_n C dX5_meets_3 rfl ?_
    refine x_callV C (c_X5_wordFor_n hk1 hm hq) kv_X5_wordFor kl_X5_58 dX5_meets_4 mput_0 rfl rfl rfl rfl (Nat.le_of_ble_eq_true rfl) (Nat.le_of_ble_eq_true rfl) (Nat.le_of_ble_eq_true rfl) (Nat.le_of_ble_eq_true rfl) (Nat.le_of_ble_eq_true rfl) ?_
    refine x_put (ty := .int) C kf_X5_61 mput_0 rfl (by decide +kernel) rfl rfl (Nat.le_of_ble_eq_true rfl) (mput_s2 _) dX5_meets_7 ?_
    refine x_aload_n C dX5_meets_10 rfl ?_
    refine x_get C kf_X5_61 mput_0 rfl dX5_meets_11 ?_
    refine x_bipush (v := (-6)) C dX5_meets_14 (by decide) ?_
    refine x_ic_ne C 29 dX5_meets_16 (by decide) (fun h => absurd pk_us h) (fun _ => ?_)
    refine x_aload_n C dX5_meets_19 rfl ?_
    refine x_aload_n C dX5_meets_20 rfl ?_
    refine x_bipush (v := 14) C dX5_meets_21 (by decide) ?_
    refine x_callV C (c_X5_draws hs (n := 14) (by decide) (by decide)) kv_X5_draws kl_X5_64 dX5_meets_23 mput_0 rfl rfl rfl rfl (Nat.le_of_ble_eq_true rfl) (Nat.le_of_ble_eq_true rfl) (Nat.le_of_ble_eq_true rfl) (Nat.le_of_ble_eq_true rfl) (Nat.le_of_ble_eq_true rfl) ?_
    refine x_put (ty := .int) C kf_X5_61 mput_0 rfl (by decide +kernel) rfl rfl (Nat.le_of_ble_eq_true rfl) (mput_s2 _) dX5_meets_26 ?_
    refine xX.cl (j29 (drV U) (dvN U 14) _ (wdN_n hq) upd_u) rfl (And.intro rfl (And.intro rfl (And.intro rfl (And.intro rfl trivial)))) rfl
  | some w =>
    have hw : w < 14 := wfS_in hq
    refine x_aload_n C dX5_meets_0 rfl ?_
    refine x_aload_n C dX5_meets_1 rfl ?_
    refine x_iload_n C dX5_meets_2 rfl ?_
    refine x_iload_n C dX5_meets_3 rfl ?_
    refine x_callV C (c_X5_wordFor_s hk1 hm hq) kv_X5_wordFor kl_X5_58 dX5_meets_4 mput_0 rfl rfl rfl rfl (Nat.le_of_ble_eq_true rfl) (Nat.le_of_ble_eq_true rfl) (Nat.le_of_ble_eq_true rfl) (Nat.le_of_ble_eq_true rfl) (Nat.le_of_ble_eq_true rfl) ?_
    refine x_put (ty := .int) C kf_X5_61 mput_0 rfl (by decide +kernel) rfl rfl (Nat.le_of_ble_eq_true rfl) (mput_s2 _) dX5_meets_7 ?_
    refine x_aload_n C dX5_meets_10 rfl ?_
    refine x_get C kf_X5_61 mput_0 rfl dX5_meets_11 ?_
    refine x_bipush (v := (-6)) C dX5_meets_14 (by decide) ?_
    refine x_ic_ne C 29 dX5_meets_16 (by decide) (fun _ => ?_) (fun h => absurd h (fun z => nI_ne6 (show w < 2 ^ 31 by omega) (pk_us.symm.trans z)))
    refine xX.cl (j29 U w _ (wdN_s hq) rfl) rfl (And.intro rfl (And.intro rfl (And.intro rfl (And.intro rfl trivial)))) rfl
