/-! reading: the model's signs; the automaton's good beginnings -/
def chM (n : Nat) (tx : Fn) (j : Nat) : Int32 := if j < n then tx j else -1
theorem chM_in {n j : Nat} {tx : Fn} (h : j < n) : chM n tx j = tx j := if_pos h
theorem chM_lt {n j : Nat} {tx : Fn} {c : Int32} (h : chM n tx j = c) (hc : c ≠ -1) : j < n ∧ tx j = c := by
  by_cases hj : j < n
  · exact ⟨hj, (chM_in hj).symm.trans h⟩
  · exact absurd (h.symm.trans (if_neg hj)) hc
theorem upd_e {f : Fn} {q : Nat} {x : Int32} (h : f q = x) : upd f q x = f := by
  funext j
  unfold upd
  split
  · rename_i h2; rw [h2, h]
  · rfl
def gd (tx : Fn) (n j q : Nat) : Prop := j ≤ n ∧ auS tx j = q ∧ ∀ i, i ≤ j → auS tx i ≠ 11
theorem gd_0 {tx : Fn} {n : Nat} : gd tx n 0 0 := ⟨Nat.zero_le _, rfl, fun i hi => by
  have : i = 0 := by omega
  subst this
  show (0 : Nat) ≠ 11
  decide⟩
theorem gd_s {tx : Fn} {n j q q2 : Nat} (h : gd tx n j q) (hj : j < n) (he : exS q (tx j) = q2) (h2 : q2 ≠ 11) : gd tx n (j + 1) q2 := by
  have e : auS tx (j + 1) = q2 := by rw [auS, h.2.1, he]
  refine ⟨hj, e, fun i hi => ?_⟩
  by_cases hi2 : i = j + 1
  · subst hi2; rw [e]; exact h2
  · exact h.2.2 i (by omega)
theorem fe_at {tx : Fn} {n q : Nat} (hq : q < n) (h1 : ∀ j, j ≤ q → auS tx j ≠ 11) (h2 : auS tx (q + 1) = 11) : feS tx n = nI q := by
  rcases feS_c tx n with ⟨p, g1, g2, g3, g4⟩ | ⟨g1, -, -⟩ | ⟨g1, -, -⟩
  · by_cases hpq : p < q
    · exact absurd g3 (h1 (p + 1) (by omega))
    · by_cases hqp : q < p
      · exact absurd h2 (g2 (q + 1) (by omega))
      · rw [g4, show p = q by omega]
  · exact absurd h2 (g1 (q + 1) (by omega))
  · exact absurd h2 (g1 (q + 1) (by omega))
theorem fe_ok {tx : Fn} {n q : Nat} (h : gd tx n n q) (hq : q = 9 ∨ q = 10) : feS tx n = -6 := by
  rcases feS_c tx n with ⟨p, g1, g2, g3, g4⟩ | ⟨-, -, g3⟩ | ⟨-, g2, -⟩
  · exact absurd g3 (h.2.2 (p + 1) (by omega))
  · exact g3
  · exact absurd (by rw [h.2.1]; exact hq) g2
theorem fe_end {tx : Fn} {n q : Nat} (h : gd tx n n q) (hq : ¬ (q = 9 ∨ q = 10)) : feS tx n = nI n := by
  rcases feS_c tx n with ⟨p, g1, g2, g3, g4⟩ | ⟨-, g2, -⟩ | ⟨-, -, g3⟩
  · exact absurd g3 (h.2.2 (p + 1) (by omega))
  · exact absurd (by rw [h.2.1] at g2; exact g2) hq
  · exact g3
theorem fe_bad {tx : Fn} {n j q : Nat} (h : gd tx n j q) (hb : j < n → exS q (tx j) = 11) (hq : j < n ∨ ¬ (q = 9 ∨ q = 10)) : feS tx n = nI j := by
  by_cases hj : j < n
  · exact fe_at hj h.2.2 (by rw [auS, h.2.1, hb hj])
  · have e : j = n := by have := h.1; omega
    subst e
    exact fe_end h (hq.resolve_left hj)
set_option maxRecDepth 100000 in
set_option maxHeartbeats 1000000 in
theorem c_X5_character {l : Launch} {E : xEnv} {B N : Nat} {σ : Sg} {M : Nat} {U : Vs} {kp ho tx sc : Fn} {n : Nat} (hn : n ≤ 80) (h1 : sc 1 = nI n) {j : Nat} (hj : j < 2 ^ 31) : xM l yX5_character cX5_character 2 (some .int) 0 0 0 0 E B [.ref M, .int (nI j)] N (mput E σ M U kp ho tx sc) N (mput E σ M U kp ho tx sc) (some (.int (chM n tx j))) := by
  refine xM_of [some (.ref _), some (.int _)] (by decide +kernel) (Nat.le_of_ble_eq_true rfl) rfl (fun k0 C Z => ?_)
  refine x_iload_n C dX5_character_0 rfl ?_
  refine x_aload_n C dX5_character_1 rfl ?_
  refine x_get C kf_X5_146 mput_0 rfl dX5_character_2 ?_
  rw [h1]
  refine x_ic_ge C 17 dX5_character_5 (by decide) (fun h5 => ?_) (fun h5 => ?_)
  · refine x_iconst (v := (-1)) C dX5_character_17 (by decide) ?_
    exact x_zret C Z dX5_character_18 rfl (Nat.le_of_ble_eq_true rfl) (Nat.le_of_ble_eq_true rfl) rfl rfl (if_neg (fun z => absurd ((nI_leI (a := n) (b := j) (by omega) hj).mp h5) (by omega))).symm
  · have h5b : j < n := Nat.lt_of_not_le (fun z => h5 ((nI_leI (by omega) hj).mpr z))
    refine x_aload_n C dX5_character_8 rfl ?_
    refine x_get C kf_X5_19 mput_0 rfl dX5_character_9 ?_
    refine x_iload_n C dX5_character_12 rfl ?_
    refine x_iald2 C mput_4 rfl (by omega) (by decide) dX5_character_13 ?_
    refine x_goto C 18 dX5_character_14 (by decide) ?_
    exact x_zret C Z dX5_character_18 rfl (Nat.le_of_ble_eq_true rfl) (Nat.le_of_ble_eq_true rfl) rfl rfl (if_pos h5b).symm
set_option maxRecDepth 100000 in
set_option maxHeartbeats 1000000 in
theorem c_X5_isNext_t {l : Launch} {E : xEnv} {B N : Nat} {σ : Sg} {M : Nat} {U : Vs} {kp ho tx sc : Fn} {n : Nat} (hn : n ≤ 80) (h1 : sc 1 = nI n) {a : Nat} (ha : a < 2 ^ 31) (h4 : sc 4 = nI a) {c : Int32} (hcc : chM n tx a = c) : xM l yX5_isNext cX5_isNext 3 (some .boolean) 1 21 0 0 E B [.ref M, .int c] N (mput E σ M U kp ho tx sc) N (mput E σ M U kp ho tx (upd sc 4 (nI (a + 1)))) (some (.int 1)) := by
  refine xM_of [some (.ref _), some (.int _), none] (by decide +kernel) (Nat.le_of_ble_eq_true rfl) rfl (fun k0 C Z => ?_)
  refine x_aload_n C dX5_isNext_0 rfl ?_
  refine x_aload_n C dX5_isNext_1 rfl ?_
  refine x_get C kf_X5_149 mput_0 rfl dX5_isNext_2 ?_
  rw [h4]
  refine x_callV C (c_X5_character hn h1 (by omega)) kv_X5_character kl_X5_152 dX5_isNext_5 mput_0 rfl rfl rfl rfl (Nat.le_of_ble_eq_true rfl) (Nat.le_of_ble_eq_true rfl) (Nat.le_of_ble_eq_true rfl) (Nat.le_of_ble_eq_true rfl) (Nat.le_of_ble_eq_true rfl) ?_
  refine x_iload_n C dX5_isNext_8 rfl ?_
  refine x_ic_ne C 16 dX5_isNext_9 (by decide) (fun h => absurd hcc h) (fun _ => ?_)
  refine x_iconst (v := 1) C dX5_isNext_12 (by decide) ?_
  refine x_goto C 17 dX5_isNext_13 (by decide) ?_
  refine x_istore_n C dX5_isNext_17 (by decide) rfl ?_
  refine x_aload_n C dX5_isNext_18 rfl ?_
  refine x_dup C dX5_isNext_19 rfl ?_
  refine x_get C kf_X5_149 mput_0 rfl dX5_isNext_20 ?_
  rw [h4]
  refine x_iload_n C dX5_isNext_23 rfl ?_
  refine x_if_eq C 31 dX5_isNext_24 (by decide) (fun h => absurd h (by decide)) (fun _ => ?_)
  refine x_iconst (v := 1) C dX5_isNext_27 (by decide) ?_
  refine x_goto C 32 dX5_isNext_28 (by decide) ?_
  refine x_iadd C dX5_isNext_32 ?_
  rw [nI_1]
  refine x_put (ty := .int) C kf_X5_149 mput_0 rfl (by decide +kernel) rfl rfl (Nat.le_of_ble_eq_true rfl) (mput_s4 _) dX5_isNext_33 ?_
  refine x_iload_n C dX5_isNext_36 rfl ?_
  exact x_zret C Z dX5_isNext_37 rfl (Nat.le_of_ble_eq_true rfl) (Nat.le_of_ble_eq_true rfl) rfl rfl rfl
set_option maxRecDepth 100000 in
set_option maxHeartbeats 1000000 in
theorem c_X5_isNext_f {l : Launch} {E : xEnv} {B N : Nat} {σ : Sg} {M : Nat} {U : Vs} {kp ho tx sc : Fn} {n : Nat} (hn : n ≤ 80) (h1 : sc 1 = nI n) {a : Nat} (ha : a < 2 ^ 31) (h4 : sc 4 = nI a) {c : Int32} (hcc : ¬ chM n tx a = c) : xM l yX5_isNext cX5_isNext 3 (some .boolean) 1 21 0 0 E B [.ref M, .int c] N (mput E σ M U kp ho tx sc) N (mput E σ M U kp ho tx sc) (some (.int 0)) := by
  refine xM_of [some (.ref _), some (.int _), none] (by decide +kernel) (Nat.le_of_ble_eq_true rfl) rfl (fun k0 C Z => ?_)
  refine x_aload_n C dX5_isNext_0 rfl ?_
  refine x_aload_n C dX5_isNext_1 rfl ?_
  refine x_get C kf_X5_149 mput_0 rfl dX5_isNext_2 ?_
  rw [h4]
  refine x_callV C (c_X5_character hn h1 (by omega)) kv_X5_character kl_X5_152 dX5_isNext_5 mput_0 rfl rfl rfl rfl (Nat.le_of_ble_eq_true rfl) (Nat.le_of_ble_eq_true rfl) (Nat.le_of_ble_eq_true rfl) (Nat.le_of_ble_eq_true rfl) (Nat.le_of_ble_eq_true rfl) ?_
  refine x_iload_n C dX5_isNext_8 rfl ?_
  refine x_ic_ne C 16 dX5_isNext_9 (by decide) (fun _ => ?_) (fun h => absurd h hcc)
  refine x_iconst (v := 0) C dX5_isNext_16 (by decide) ?_
  refine x_istore_n C dX5_isNext_17 (by decide) rfl ?_
  refine x_aload_n C dX5_isNext_18 rfl ?_
  refine x_dup C dX5_isNext_19 rfl ?_
  refine x_get C kf_X5_149 mput_0 rfl dX5_isNext_20 ?_
  rw [h4]
  refine x_iload_n C dX5_isNext_23 rfl ?_
  refine x_if_eq C 31 dX5_isNext_24 (by decide) (fun _ => ?_) (fun h => absurd rfl h)
  refine x_iconst (v := 0) C dX5_isNext_31 (by decide) ?_
  refine x_iadd C dX5_isNext_32 ?_
  rw [Int32.add_zero]
  refine x_put (ty := .int) C kf_X5_149 mput_0 rfl (by decide +kernel) rfl rfl (Nat.le_of_ble_eq_true rfl) (mput_s4 _) dX5_isNext_33 ?_
  refine x_iload_n C dX5_isNext_36 rfl ?_
  exact x_zret C Z dX5_isNext_37 rfl (Nat.le_of_ble_eq_true rfl) (Nat.le_of_ble_eq_true rfl) rfl (by rw [upd_e h4]) rfl
set_option maxRecDepth 100000 in
set_option maxHeartbeats 1000000 in
theorem c_X5_readsDigit_t {l : Launch} {E : xEnv} {B N : Nat} {σ : Sg} {M : Nat} {U : Vs} {kp ho tx sc : Fn} {n : Nat} (hn : n ≤ 80) (h1 : sc 1 = nI n) {a : Nat} (ha : a < 2 ^ 31) (h4 : sc 4 = nI a) {c : Int32} (hcc : 48 ≤ chM n tx a ∧ chM n tx a ≤ 48 + c) : xM l yX5_readsDigit cX5_readsDigit 3 (some .boolean) 1 22 0 0 E B [.ref M, .int c] N (mput E σ M U kp ho tx sc) N (mput E σ M U kp ho tx (upd (upd sc 5 (chM n tx a - 48)) 4 (nI (a + 1)))) (some (.int 1)) := by
  refine xM_of [some (.ref _), some (.int _), none] (by decide +kernel) (Nat.le_of_ble_eq_true rfl) rfl (fun k0 C Z => ?_)
  refine x_aload_n C dX5_readsDigit_0 rfl ?_
  refine x_aload_n C dX5_readsDigit_1 rfl ?_
  refine x_get C kf_X5_149 mput_0 rfl dX5_readsDigit_2 ?_
  rw [h4]
  refine x_callV C (c_X5_character hn h1 (by omega)) kv_X5_character kl_X5_152 dX5_readsDigit_5 mput_0 rfl rfl rfl rfl (Nat.le_of_ble_eq_true rfl) (Nat.le_of_ble_eq_true rfl) (Nat.le_of_ble_eq_true rfl) (Nat.le_of_ble_eq_true rfl) (Nat.le_of_ble_eq_true rfl) ?_
  refine x_bipush (v := 48) C dX5_readsDigit_8 (by decide) ?_
  refine x_bipush (v := 48) C dX5_readsDigit_10 (by decide) ?_
  refine x_iload_n C dX5_readsDigit_12 rfl ?_
  refine x_iadd C dX5_readsDigit_13 ?_
  refine x_callS C (c_X5_within _ _ _) ks_X5_within kl_X5_30 dX5_readsDigit_14 rfl rfl rfl rfl (Nat.le_of_ble_eq_true rfl) (Nat.le_of_ble_eq_true rfl) (Nat.le_of_ble_eq_true rfl) (Nat.le_of_ble_eq_true rfl) (Nat.le_of_ble_eq_true rfl) ?_
  rw [b_t hcc]
  refine x_istore_n C dX5_readsDigit_17 (by decide) rfl ?_
  refine x_aload_n C dX5_readsDigit_18 rfl ?_
  refine x_aload_n C dX5_readsDigit_19 rfl ?_
  refine x_aload_n C dX5_readsDigit_20 rfl ?_
  refine x_get C kf_X5_149 mput_0 rfl dX5_readsDigit_21 ?_
  rw [h4]
  refine x_callV C (c_X5_character hn h1 (by omega)) kv_X5_character kl_X5_152 dX5_readsDigit_24 mput_0 rfl rfl rfl rfl (Nat.le_of_ble_eq_true rfl) (Nat.le_of_ble_eq_true rfl) (Nat.le_of_ble_eq_true rfl) (Nat.le_of_ble_eq_true rfl) (Nat.le_of_ble_eq_true rfl) ?_
  refine x_bipush (v := 48) C dX5_readsDigit_27 (by decide) ?_
  refine x_isub C dX5_readsDigit_29 ?_
  refine x_put (ty := .int) C kf_X5_155 mput_0 rfl (by decide +kernel) rfl rfl (Nat.le_of_ble_eq_true rfl) (mput_s5 _) dX5_readsDigit_30 ?_
  refine x_aload_n C dX5_readsDigit_33 rfl ?_
  refine x_dup C dX5_readsDigit_34 rfl ?_
  refine x_get C kf_X5_149 mput_0 rfl dX5_readsDigit_35 ?_
  rw [pk_un (by decide), h4]
  refine x_iload_n C dX5_readsDigit_38 rfl ?_
  refine x_if_eq C 46 dX5_readsDigit_39 (by decide) (fun h => absurd h (by decide)) (fun _ => ?_)
  refine x_iconst (v := 1) C dX5_readsDigit_42 (by decide) ?_
  refine x_goto C 47 dX5_readsDigit_43 (by decide) ?_
  refine x_iadd C dX5_readsDigit_47 ?_
  rw [nI_1]
  refine x_put (ty := .int) C kf_X5_149 mput_0 rfl (by decide +kernel) rfl rfl (Nat.le_of_ble_eq_true rfl) (mput_s4 _) dX5_readsDigit_48 ?_
  refine x_iload_n C dX5_readsDigit_51 rfl ?_
  exact x_zret C Z dX5_readsDigit_52 rfl (Nat.le_of_ble_eq_true rfl) (Nat.le_of_ble_eq_true rfl) rfl rfl rfl
set_option maxRecDepth 100000 in
set_option maxHeartbeats 1000000 in
theorem c_X5_readsDigit_f {l : Launch} {E : xEnv} {B N : Nat} {σ : Sg} {M : Nat} {U : Vs} {kp ho tx sc : Fn} {n : Nat} (hn : n ≤ 80) (h1 : sc 1 = nI n) {a : Nat} (ha : a < 2 ^ 31) (h4 : sc 4 = nI a) {c : Int32} (hcc : ¬ (48 ≤ chM n tx a ∧ chM n tx a ≤ 48 + c)) : xM l yX5_readsDigit cX5_readsDigit 3 (some .boolean) 1 22 0 0 E B [.ref M, .int c] N (mput E σ M U kp ho tx sc) N (mput E σ M U kp ho tx (upd sc 5 (chM n tx a - 48))) (some (.int 0)) := by
  refine xM_of [some (.ref _), some (.int _), none] (by decide +kernel) (Nat.le_of_ble_eq_true rfl) rfl (fun k0 C Z => ?_)
  refine x_aload_n C dX5_readsDigit_0 rfl ?_
  refine x_aload_n C dX5_readsDigit_1 rfl ?_
  refine x_get C kf_X5_149 mput_0 rfl dX5_readsDigit_2 ?_
  rw [h4]
  refine x_callV C (c_X5_character hn h1 (by omega)) kv_X5_character kl_X5_152 dX5_readsDigit_5 mput_0 rfl rfl rfl rfl (Nat.le_of_ble_eq_true rfl) (Nat.le_of_ble_eq_true rfl) (Nat.le_of_ble_eq_true rfl) (Nat.le_of_ble_eq_true rfl) (Nat.le_of_ble_eq_true rfl) ?_
  refine x_bipush (v := 48) C dX5_readsDigit_8 (by decide) ?_
  refine x_bipush (v := 48) C dX5_readsDigit_10 (by decide) ?_
  refine x_iload_n C dX5_readsDigit_12 rfl ?_
  refine x_iadd C dX5_readsDigit_13 ?_
  refine x_callS C (c_X5_within _ _ _) ks_X5_within kl_X5_30 dX5_readsDigit_14 rfl rfl rfl rfl (Nat.le_of_ble_eq_true rfl) (Nat.le_of_ble_eq_true rfl) (Nat.le_of_ble_eq_true rfl) (Nat.le_of_ble_eq_true rfl) (Nat.le_of_ble_eq_true rfl) ?_
  rw [b_f hcc]
  refine x_istore_n C dX5_readsDigit_17 (by decide) rfl ?_
  refine x_aload_n C dX5_readsDigit_18 rfl ?_
  refine x_aload_n C dX5_readsDigit_19 rfl ?_
  refine x_aload_n C dX5_readsDigit_20 rfl ?_
  refine x_get C kf_X5_149 mput_0 rfl dX5_readsDigit_21 ?_
  rw [h4]
  refine x_callV C (c_X5_character hn h1 (by omega)) kv_X5_character kl_X5_152 dX5_readsDigit_24 mput_0 rfl rfl rfl rfl (Nat.le_of_ble_eq_true rfl) (Nat.le_of_ble_eq_true rfl) (Nat.le_of_ble_eq_true rfl) (Nat.le_of_ble_eq_true rfl) (Nat.le_of_ble_eq_true rfl) ?_
  refine x_bipush (v := 48) C dX5_readsDigit_27 (by decide) ?_
  refine x_isub C dX5_readsDigit_29 ?_
  refine x_put (ty := .int) C kf_X5_155 mput_0 rfl (by decide +kernel) rfl rfl (Nat.le_of_ble_eq_true rfl) (mput_s5 _) dX5_readsDigit_30 ?_
  refine x_aload_n C dX5_readsDigit_33 rfl ?_
  refine x_dup C dX5_readsDigit_34 rfl ?_
  refine x_get C kf_X5_149 mput_0 rfl dX5_readsDigit_35 ?_
  rw [pk_un (by decide), h4]
  refine x_iload_n C dX5_readsDigit_38 rfl ?_
  refine x_if_eq C 46 dX5_readsDigit_39 (by decide) (fun _ => ?_) (fun h => absurd rfl h)
  refine x_iconst (v := 0) C dX5_readsDigit_46 (by decide) ?_
  refine x_iadd C dX5_readsDigit_47 ?_
  rw [Int32.add_zero]
  refine x_put (ty := .int) C kf_X5_149 mput_0 rfl (by decide +kernel) rfl rfl (Nat.le_of_ble_eq_true rfl) (mput_s4 _) dX5_readsDigit_48 ?_
  refine x_iload_n C dX5_readsDigit_51 rfl ?_
  exact x_zret C Z dX5_readsDigit_52 rfl (Nat.le_of_ble_eq_true rfl) (Nat.le_of_ble_eq_true rfl) rfl (by rw [upd_e (show upd sc 5 (chM n tx a - 48) 4 = nI a from (pk_un (by decide)).trans h4)]) rfl
set_option maxRecDepth 100000 in
set_option maxHeartbeats 1000000 in
theorem c_X5_isGesture {l : Launch} {E : xEnv} {B N : Nat} {σ : Sg} {M : Nat} {U : Vs} {kp ho tx sc : Fn} {n : Nat} (hn : n ≤ 80) (h1 : sc 1 = nI n) {a : Nat} (ha : a < 2 ^ 31) (h4 : sc 4 = nI a) : xM l yX5_isGesture cX5_isGesture 1 (some .boolean) 1 21 0 0 E B [.ref M] N (mput E σ M U kp ho tx sc) N (mput E σ M U kp ho tx sc) (some (.int (xb (gesP (chM n tx a))))) := by
  refine xM_of [some (.ref _)] (by decide +kernel) (Nat.le_of_ble_eq_true rfl) rfl (fun k0 C Z => ?_)
  refine x_aload_n C dX5_isGesture_0 rfl ?_
  refine x_aload_n C dX5_isGesture_1 rfl ?_
  refine x_get C kf_X5_149 mput_0 rfl dX5_isGesture_2 ?_
  rw [h4]
  refine x_callV C (c_X5_character hn h1 (by omega)) kv_X5_character kl_X5_152 dX5_isGesture_5 mput_0 rfl rfl rfl rfl (Nat.le_of_ble_eq_true rfl) (Nat.le_of_ble_eq_true rfl) (Nat.le_of_ble_eq_true rfl) (Nat.le_of_ble_eq_true rfl) (Nat.le_of_ble_eq_true rfl) ?_
  refine x_bipush (v := 119) C dX5_isGesture_8 (by decide) ?_
  refine x_ic_eq C 26 dX5_isGesture_10 (by decide) (fun h10 => ?_) (fun h10 => ?_)
  · refine x_iconst (v := 1) C dX5_isGesture_26 (by decide) ?_
    refine x_goto C 31 dX5_isGesture_27 (by decide) ?_
    exact x_zret C Z dX5_isGesture_31 rfl (Nat.le_of_ble_eq_true rfl) (Nat.le_of_ble_eq_true rfl) rfl rfl (b_t (Or.inl h10)).symm
  · refine x_aload_n C dX5_isGesture_13 rfl ?_
    refine x_aload_n C dX5_isGesture_14 rfl ?_
    refine x_get C kf_X5_149 mput_0 rfl dX5_isGesture_15 ?_
    rw [h4]
    refine x_callV C (c_X5_character hn h1 (by omega)) kv_X5_character kl_X5_152 dX5_isGesture_18 mput_0 rfl rfl rfl rfl (Nat.le_of_ble_eq_true rfl) (Nat.le_of_ble_eq_true rfl) (Nat.le_of_ble_eq_true rfl) (Nat.le_of_ble_eq_true rfl) (Nat.le_of_ble_eq_true rfl) ?_
    refine x_bipush (v := 110) C dX5_isGesture_21 (by decide) ?_
    refine x_ic_ne C 30 dX5_isGesture_23 (by decide) (fun h23 => ?_) (fun h23 => ?_)
    · refine x_iconst (v := 0) C dX5_isGesture_30 (by decide) ?_
      exact x_zret C Z dX5_isGesture_31 rfl (Nat.le_of_ble_eq_true rfl) (Nat.le_of_ble_eq_true rfl) rfl rfl (b_f (fun z => z.elim h10 h23)).symm
    · refine x_iconst (v := 1) C dX5_isGesture_26 (by decide) ?_
      refine x_goto C 31 dX5_isGesture_27 (by decide) ?_
      exact x_zret C Z dX5_isGesture_31 rfl (Nat.le_of_ble_eq_true rfl) (Nat.le_of_ble_eq_true rfl) rfl rfl (b_t (Or.inr h23)).symm
set_option maxRecDepth 100000 in
set_option maxHeartbeats 1000000 in
theorem c_X5_readsWord_e {l : Launch} {E : xEnv} {B N : Nat} {σ : Sg} {M : Nat} {U : Vs} {kp ho tx sc : Fn} {n : Nat} (hn : n ≤ 80) (h1 : sc 1 = nI n) {a : Nat} (ha : a < 2 ^ 30) (h4 : sc 4 = nI a) (hs : ¬ gesP (chM n tx a)) : xM l yX5_readsWord cX5_readsWord 3 (some .boolean) 2 41 0 0 E B [.ref M] N (mput E σ M U kp ho tx sc) N (mput E σ M U kp ho tx (upd sc 8 6)) (some (.int 0)) := by
  refine xM_of [some (.ref _), none, none] (by decide +kernel) (Nat.le_of_ble_eq_true rfl) rfl (fun k0 C Z => ?_)
  refine x_iconst (v := 0) C dX5_readsWord_0 (by decide) ?_
  refine x_istore_n C dX5_readsWord_1 (by decide) rfl ?_
  refine x_iconst (v := 0) C dX5_readsWord_2 (by decide) ?_
  refine x_istore_n C dX5_readsWord_3 (by decide) rfl ?_
  refine x_iload_n C dX5_readsWord_4 rfl ?_
  refine x_iconst (v := 3) C dX5_readsWord_5 (by decide) ?_
  refine x_ic_ge C 55 dX5_readsWord_6 (by decide) (fun h => absurd h (by decide)) (fun _ => ?_)
  refine x_aload_n C dX5_readsWord_9 rfl ?_
  refine x_callV C (c_X5_isGesture (a := a) hn h1 (by omega) h4) kv_X5_isGesture kl_X5_158 dX5_readsWord_10 mput_0 rfl rfl rfl rfl (Nat.le_of_ble_eq_true rfl) (Nat.le_of_ble_eq_true rfl) (Nat.le_of_ble_eq_true rfl) (Nat.le_of_ble_eq_true rfl) (Nat.le_of_ble_eq_true rfl) ?_
  refine x_beq C 55 dX5_readsWord_13 (by decide) (fun _ => ?_) (fun h => absurd h hs)
  refine x_aload_n C dX5_readsWord_55 rfl ?_
  refine x_iload_n C dX5_readsWord_56 rfl ?_
  refine x_iconst (v := 1) C dX5_readsWord_57 (by decide) ?_
  refine x_ic_ne C 65 dX5_readsWord_58 (by decide) (fun _ => ?_) (fun h => absurd h (by decide))
  refine x_iload_n C dX5_readsWord_65 rfl ?_
  refine x_iconst (v := 2) C dX5_readsWord_66 (by decide) ?_
  refine x_ic_ne C 76 dX5_readsWord_67 (by decide) (fun _ => ?_) (fun h => absurd h (by decide))
  refine x_iload_n C dX5_readsWord_76 rfl ?_
  refine x_bipush (v := 6) C dX5_readsWord_77 (by decide) ?_
  refine x_iadd C dX5_readsWord_79 ?_
  refine x_put (ty := .int) C kf_X5_162 mput_0 rfl (by decide +kernel) rfl rfl (Nat.le_of_ble_eq_true rfl) (mput_s8 _) dX5_readsWord_80 ?_
  refine x_iload_n C dX5_readsWord_83 rfl ?_
  refine x_if_le C 91 dX5_readsWord_84 (by decide) (fun _ => ?_) (fun h => absurd (by decide) h)
  refine x_iconst (v := 0) C dX5_readsWord_91 (by decide) ?_
  exact x_zret C Z dX5_readsWord_92 rfl (Nat.le_of_ble_eq_true rfl) (Nat.le_of_ble_eq_true rfl) rfl rfl rfl
set_option maxRecDepth 100000 in
set_option maxHeartbeats 1000000 in
theorem c_X5_readsWord_0 {l : Launch} {E : xEnv} {B N : Nat} {σ : Sg} {M : Nat} {U : Vs} {kp ho tx sc : Fn} {n : Nat} (hn : n ≤ 80) (h1 : sc 1 = nI n) {a : Nat} (ha : a < 2 ^ 30) (h4 : sc 4 = nI a) (e0 : chM n tx a = 119) (hs : ¬ gesP (chM n tx (a + 1))) : xM l yX5_readsWord cX5_readsWord 3 (some .boolean) 2 41 0 0 E B [.ref M] N (mput E σ M U kp ho tx sc) N (mput E σ M U kp ho tx (upd (upd sc 4 (nI (a + 1))) 8 (nI 0))) (some (.int 1)) := by
  refine xM_of [some (.ref _), none, none] (by decide +kernel) (Nat.le_of_ble_eq_true rfl) rfl (fun k0 C Z => ?_)
  refine x_iconst (v := 0) C dX5_readsWord_0 (by decide) ?_
  refine x_istore_n C dX5_readsWord_1 (by decide) rfl ?_
  refine x_iconst (v := 0) C dX5_readsWord_2 (by decide) ?_
  refine x_istore_n C dX5_readsWord_3 (by decide) rfl ?_
  refine x_iload_n C dX5_readsWord_4 rfl ?_
  refine x_iconst (v := 3) C dX5_readsWord_5 (by decide) ?_
  refine x_ic_ge C 55 dX5_readsWord_6 (by decide) (fun h => absurd h (by decide)) (fun _ => ?_)
  refine x_aload_n C dX5_readsWord_9 rfl ?_
  refine x_callV C (c_X5_isGesture (a := a) hn h1 (by omega) h4) kv_X5_isGesture kl_X5_158 dX5_readsWord_10 mput_0 rfl rfl rfl rfl (Nat.le_of_ble_eq_true rfl) (Nat.le_of_ble_eq_true rfl) (Nat.le_of_ble_eq_true rfl) (Nat.le_of_ble_eq_true rfl) (Nat.le_of_ble_eq_true rfl) ?_
  refine x_beq C 55 dX5_readsWord_13 (by decide) (fun h => absurd (Or.inl e0) h) (fun _ => ?_)
  refine x_iconst (v := 2) C dX5_readsWord_16 (by decide) ?_
  refine x_iload_n C dX5_readsWord_17 rfl ?_
  refine x_imul C dX5_readsWord_18 ?_
  refine x_aload_n C dX5_readsWord_19 rfl ?_
  refine x_aload_n C dX5_readsWord_20 rfl ?_
  refine x_get C kf_X5_149 mput_0 rfl dX5_readsWord_21 ?_
  rw [h4]
  refine x_callV C (c_X5_character (j := a) hn h1 (by omega)) kv_X5_character kl_X5_152 dX5_readsWord_24 mput_0 rfl rfl rfl rfl (Nat.le_of_ble_eq_true rfl) (Nat.le_of_ble_eq_true rfl) (Nat.le_of_ble_eq_true rfl) (Nat.le_of_ble_eq_true rfl) (Nat.le_of_ble_eq_true rfl) ?_
  refine x_bipush (v := 110) C dX5_readsWord_27 (by decide) ?_
  refine x_ic_ne C 36 dX5_readsWord_29 (by decide) (fun _ => ?_) (fun h => absurd h (by rw [e0]; decide))
  refine x_iconst (v := 0) C dX5_readsWord_36 (by decide) ?_
  refine x_iadd C dX5_readsWord_37 ?_
  refine x_istore_n C dX5_readsWord_38 (by decide) rfl ?_
  refine x_iinc C dX5_readsWord_39 rfl (inc1 _) (by decide) rfl ?_
  refine x_aload_n C dX5_readsWord_42 rfl ?_
  refine x_dup C dX5_readsWord_43 rfl ?_
  refine x_get C kf_X5_149 mput_0 rfl dX5_readsWord_44 ?_
  rw [h4]
  refine x_iconst (v := 1) C dX5_readsWord_47 (by decide) ?_
  refine x_iadd C dX5_readsWord_48 ?_
  rw [show nI a + 1 = nI (a + 1) from nI_1 _]
  refine x_put (ty := .int) C kf_X5_149 mput_0 rfl (by decide +kernel) rfl rfl (Nat.le_of_ble_eq_true rfl) (mput_s4 _) dX5_readsWord_49 ?_
  refine x_goto C 4 dX5_readsWord_52 (by decide) ?_
  refine x_iload_n C dX5_readsWord_4 rfl ?_
  refine x_iconst (v := 3) C dX5_readsWord_5 (by decide) ?_
  refine x_ic_ge C 55 dX5_readsWord_6 (by decide) (fun h => absurd h (by decide)) (fun _ => ?_)
  refine x_aload_n C dX5_readsWord_9 rfl ?_
  refine x_callV C (c_X5_isGesture (a := a + 1) hn (by simp [upd, h1]) (by omega) (by simp [upd])) kv_X5_isGesture kl_X5_158 dX5_readsWord_10 mput_0 rfl rfl rfl rfl (Nat.le_of_ble_eq_true rfl) (Nat.le_of_ble_eq_true rfl) (Nat.le_of_ble_eq_true rfl) (Nat.le_of_ble_eq_true rfl) (Nat.le_of_ble_eq_true rfl) ?_
  refine x_beq C 55 dX5_readsWord_13 (by decide) (fun _ => ?_) (fun h => absurd h hs)
  refine x_aload_n C dX5_readsWord_55 rfl ?_
  refine x_iload_n C dX5_readsWord_56 rfl ?_
  refine x_iconst (v := 1) C dX5_readsWord_57 (by decide) ?_
  refine x_ic_ne C 65 dX5_readsWord_58 (by decide) (fun h => absurd rfl h) (fun _ => ?_)
  refine x_iload_n C dX5_readsWord_61 rfl ?_
  refine x_goto C 80 dX5_readsWord_62 (by decide) ?_
  refine x_put (ty := .int) C kf_X5_162 mput_0 rfl (by decide +kernel) rfl rfl (Nat.le_of_ble_eq_true rfl) (mput_s8 _) dX5_readsWord_80 ?_
  refine x_iload_n C dX5_readsWord_83 rfl ?_
  refine x_if_le C 91 dX5_readsWord_84 (by decide) (fun h => absurd h (by decide)) (fun _ => ?_)
  refine x_iconst (v := 1) C dX5_readsWord_87 (by decide) ?_
  refine x_goto C 92 dX5_readsWord_88 (by decide) ?_
  exact x_zret C Z dX5_readsWord_92 rfl (Nat.le_of_ble_eq_true rfl) (Nat.le_of_ble_eq_true rfl) rfl rfl rfl
set_option maxRecDepth 100000 in
set_option maxHeartbeats 1000000 in
theorem c_X5_readsWord_1 {l : Launch} {E : xEnv} {B N : Nat} {σ : Sg} {M : Nat} {U : Vs} {kp ho tx sc : Fn} {n : Nat} (hn : n ≤ 80) (h1 : sc 1 = nI n) {a : Nat} (ha : a < 2 ^ 30) (h4 : sc 4 = nI a) (e0 : chM n tx a = 110) (hs : ¬ gesP (chM n tx (a + 1))) : xM l yX5_readsWord cX5_readsWord 3 (some .boolean) 2 41 0 0 E B [.ref M] N (mput E σ M U kp ho tx sc) N (mput E σ M U kp ho tx (upd (upd sc 4 (nI (a + 1))) 8 (nI 1))) (some (.int 1)) := by
  refine xM_of [some (.ref _), none, none] (by decide +kernel) (Nat.le_of_ble_eq_true rfl) rfl (fun k0 C Z => ?_)
  refine x_iconst (v := 0) C dX5_readsWord_0 (by decide) ?_
  refine x_istore_n C dX5_readsWord_1 (by decide) rfl ?_
  refine x_iconst (v := 0) C dX5_readsWord_2 (by decide) ?_
  refine x_istore_n C dX5_readsWord_3 (by decide) rfl ?_
  refine x_iload_n C dX5_readsWord_4 rfl ?_
  refine x_iconst (v := 3) C dX5_readsWord_5 (by decide) ?_
  refine x_ic_ge C 55 dX5_readsWord_6 (by decide) (fun h => absurd h (by decide)) (fun _ => ?_)
  refine x_aload_n C dX5_readsWord_9 rfl ?_
  refine x_callV C (c_X5_isGesture (a := a) hn h1 (by omega) h4) kv_X5_isGesture kl_X5_158 dX5_readsWord_10 mput_0 rfl rfl rfl rfl (Nat.le_of_ble_eq_true rfl) (Nat.le_of_ble_eq_true rfl) (Nat.le_of_ble_eq_true rfl) (Nat.le_of_ble_eq_true rfl) (Nat.le_of_ble_eq_true rfl) ?_
  refine x_beq C 55 dX5_readsWord_13 (by decide) (fun h => absurd (Or.inr e0) h) (fun _ => ?_)
  refine x_iconst (v := 2) C dX5_readsWord_16 (by decide) ?_
  refine x_iload_n C dX5_readsWord_17 rfl ?_
  refine x_imul C dX5_readsWord_18 ?_
  refine x_aload_n C dX5_readsWord_19 rfl ?_
  refine x_aload_n C dX5_readsWord_20 rfl ?_
  refine x_get C kf_X5_149 mput_0 rfl dX5_readsWord_21 ?_
  rw [h4]
  refine x_callV C (c_X5_character (j := a) hn h1 (by omega)) kv_X5_character kl_X5_152 dX5_readsWord_24 mput_0 rfl rfl rfl rfl (Nat.le_of_ble_eq_true rfl) (Nat.le_of_ble_eq_true rfl) (Nat.le_of_ble_eq_true rfl) (Nat.le_of_ble_eq_true rfl) (Nat.le_of_ble_eq_true rfl) ?_
  refine x_bipush (v := 110) C dX5_readsWord_27 (by decide) ?_
  refine x_ic_ne C 36 dX5_readsWord_29 (by decide) (fun h => absurd e0 h) (fun _ => ?_)
  refine x_iconst (v := 1) C dX5_readsWord_32 (by decide) ?_
  refine x_goto C 37 dX5_readsWord_33 (by decide) ?_
  refine x_iadd C dX5_readsWord_37 ?_
  refine x_istore_n C dX5_readsWord_38 (by decide) rfl ?_
  refine x_iinc C dX5_readsWord_39 rfl (inc1 _) (by decide) rfl ?_
  refine x_aload_n C dX5_readsWord_42 rfl ?_
  refine x_dup C dX5_readsWord_43 rfl ?_
  refine x_get C kf_X5_149 mput_0 rfl dX5_readsWord_44 ?_
  rw [h4]
  refine x_iconst (v := 1) C dX5_readsWord_47 (by decide) ?_
  refine x_iadd C dX5_readsWord_48 ?_
  rw [show nI a + 1 = nI (a + 1) from nI_1 _]
  refine x_put (ty := .int) C kf_X5_149 mput_0 rfl (by decide +kernel) rfl rfl (Nat.le_of_ble_eq_true rfl) (mput_s4 _) dX5_readsWord_49 ?_
  refine x_goto C 4 dX5_readsWord_52 (by decide) ?_
  refine x_iload_n C dX5_readsWord_4 rfl ?_
  refine x_iconst (v := 3) C dX5_readsWord_5 (by decide) ?_
  refine x_ic_ge C 55 dX5_readsWord_6 (by decide) (fun h => absurd h (by decide)) (fun _ => ?_)
  refine x_aload_n C dX5_readsWord_9 rfl ?_
  refine x_callV C (c_X5_isGesture (a := a + 1) hn (by simp [upd, h1]) (by omega) (by simp [upd])) kv_X5_isGesture kl_X5_158 dX5_readsWord_10 mput_0 rfl rfl rfl rfl (Nat.le_of_ble_eq_true rfl) (Nat.le_of_ble_eq_true rfl) (Nat.le_of_ble_eq_true rfl) (Nat.le_of_ble_eq_true rfl) (Nat.le_of_ble_eq_true rfl) ?_
  refine x_beq C 55 dX5_readsWord_13 (by decide) (fun _ => ?_) (fun h => absurd h hs)
  refine x_aload_n C dX5_readsWord_55 rfl ?_
  refine x_iload_n C dX5_readsWord_56 rfl ?_
  refine x_iconst (v := 1) C dX5_readsWord_57 (by decide) ?_
  refine x_ic_ne C 65 dX5_readsWord_58 (by decide) (fun h => absurd rfl h) (fun _ => ?_)
  refine x_iload_n C dX5_readsWord_61 rfl ?_
  refine x_goto C 80 dX5_readsWord_62 (by decide) ?_
  refine x_put (ty := .int) C kf_X5_162 mput_0 rfl (by decide +kernel) rfl rfl (Nat.le_of_ble_eq_true rfl) (mput_s8 _) dX5_readsWord_80 ?_
  refine x_iload_n C dX5_readsWord_83 rfl ?_
  refine x_if_le C 91 dX5_readsWord_84 (by decide) (fun h => absurd h (by decide)) (fun _ => ?_)
  refine x_iconst (v := 1) C dX5_readsWord_87 (by decide) ?_
  refine x_goto C 92 dX5_readsWord_88 (by decide) ?_
  exact x_zret C Z dX5_readsWord_92 rfl (Nat.le_of_ble_eq_true rfl) (Nat.le_of_ble_eq_true rfl) rfl rfl rfl
set_option maxRecDepth 100000 in
set_option maxHeartbeats 1000000 in
theorem c_X5_readsWord_00 {l : Launch} {E : xEnv} {B N : Nat} {σ : Sg} {M : Nat} {U : Vs} {kp ho tx sc : Fn} {n : Nat} (hn : n ≤ 80) (h1 : sc 1 = nI n) {a : Nat} (ha : a < 2 ^ 30) (h4 : sc 4 = nI a) (e0 : chM n tx a = 119) (e1 : chM n tx (a + 1) = 119) (hs : ¬ gesP (chM n tx (a + 2))) : xM l yX5_readsWord cX5_readsWord 3 (some .boolean) 2 41 0 0 E B [.ref M] N (mput E σ M U kp ho tx sc) N (mput E σ M U kp ho tx (upd (upd sc 4 (nI (a + 2))) 8 (nI 2))) (some (.int 1)) := by
  refine xM_of [some (.ref _), none, none] (by decide +kernel) (Nat.le_of_ble_eq_true rfl) rfl (fun k0 C Z => ?_)
  refine x_iconst (v := 0) C dX5_readsWord_0 (by decide) ?_
  refine x_istore_n C dX5_readsWord_1 (by decide) rfl ?_
  refine x_iconst (v := 0) C dX5_readsWord_2 (by decide) ?_
  refine x_istore_n C dX5_readsWord_3 (by decide) rfl ?_
  refine x_iload_n C dX5_readsWord_4 rfl ?_
  refine x_iconst (v := 3) C dX5_readsWord_5 (by decide) ?_
  refine x_ic_ge C 55 dX5_readsWord_6 (by decide) (fun h => absurd h (by decide)) (fun _ => ?_)
  refine x_aload_n C dX5_readsWord_9 rfl ?_
  refine x_callV C (c_X5_isGesture (a := a) hn h1 (by omega) h4) kv_X5_isGesture kl_X5_158 dX5_readsWord_10 mput_0 rfl rfl rfl rfl (Nat.le_of_ble_eq_true rfl) (Nat.le_of_ble_eq_true rfl) (Nat.le_of_ble_eq_true rfl) (Nat.le_of_ble_eq_true rfl) (Nat.le_of_ble_eq_true rfl) ?_
  refine x_beq C 55 dX5_readsWord_13 (by decide) (fun h => absurd (Or.inl e0) h) (fun _ => ?_)
  refine x_iconst (v := 2) C dX5_readsWord_16 (by decide) ?_
  refine x_iload_n C dX5_readsWord_17 rfl ?_
  refine x_imul C dX5_readsWord_18 ?_
  refine x_aload_n C dX5_readsWord_19 rfl ?_
  refine x_aload_n C dX5_readsWord_20 rfl ?_
  refine x_get C kf_X5_149 mput_0 rfl dX5_readsWord_21 ?_
  rw [h4]
  refine x_callV C (c_X5_character (j := a) hn h1 (by omega)) kv_X5_character kl_X5_152 dX5_readsWord_24 mput_0 rfl rfl rfl rfl (Nat.le_of_ble_eq_true rfl) (Nat.le_of_ble_eq_true rfl) (Nat.le_of_ble_eq_true rfl) (Nat.le_of_ble_eq_true rfl) (Nat.le_of_ble_eq_true rfl) ?_
  refine x_bipush (v := 110) C dX5_readsWord_27 (by decide) ?_
  refine x_ic_ne C 36 dX5_readsWord_29 (by decide) (fun _ => ?_) (fun h => absurd h (by rw [e0]; decide))
  refine x_iconst (v := 0) C dX5_readsWord_36 (by decide) ?_
  refine x_iadd C dX5_readsWord_37 ?_
  refine x_istore_n C dX5_readsWord_38 (by decide) rfl ?_
  refine x_iinc C dX5_readsWord_39 rfl (inc1 _) (by decide) rfl ?_
  refine x_aload_n C dX5_readsWord_42 rfl ?_
  refine x_dup C dX5_readsWord_43 rfl ?_
  refine x_get C kf_X5_149 mput_0 rfl dX5_readsWord_44 ?_
  rw [h4]
  refine x_iconst (v := 1) C dX5_readsWord_47 (by decide) ?_
  refine x_iadd C dX5_readsWord_48 ?_
  rw [show nI a + 1 = nI (a + 1) from nI_1 _]
  refine x_put (ty := .int) C kf_X5_149 mput_0 rfl (by decide +kernel) rfl rfl (Nat.le_of_ble_eq_true rfl) (mput_s4 _) dX5_readsWord_49 ?_
  refine x_goto C 4 dX5_readsWord_52 (by decide) ?_
  refine x_iload_n C dX5_readsWord_4 rfl ?_
  refine x_iconst (v := 3) C dX5_readsWord_5 (by decide) ?_
  refine x_ic_ge C 55 dX5_readsWord_6 (by decide) (fun h => absurd h (by decide)) (fun _ => ?_)
  refine x_aload_n C dX5_readsWord_9 rfl ?_
  refine x_callV C (c_X5_isGesture (a := a + 1) hn (by simp [upd, h1]) (by omega) (by simp [upd])) kv_X5_isGesture kl_X5_158 dX5_readsWord_10 mput_0 rfl rfl rfl rfl (Nat.le_of_ble_eq_true rfl) (Nat.le_of_ble_eq_true rfl) (Nat.le_of_ble_eq_true rfl) (Nat.le_of_ble_eq_true rfl) (Nat.le_of_ble_eq_true rfl) ?_
  refine x_beq C 55 dX5_readsWord_13 (by decide) (fun h => absurd (Or.inl e1) h) (fun _ => ?_)
  refine x_iconst (v := 2) C dX5_readsWord_16 (by decide) ?_
  refine x_iload_n C dX5_readsWord_17 rfl ?_
  refine x_imul C dX5_readsWord_18 ?_
  refine x_aload_n C dX5_readsWord_19 rfl ?_
  refine x_aload_n C dX5_readsWord_20 rfl ?_
  refine x_get C kf_X5_149 mput_0 rfl dX5_readsWord_21 ?_
  rw [pk_us]
  refine x_callV C (c_X5_character (j := a + 1) hn (by simp [upd, h1]) (by omega)) kv_X5_character kl_X5_152 dX5_readsWord_24 mput_0 rfl rfl rfl rfl (Nat.le_of_ble_eq_true rfl) (Nat.le_of_ble_eq_true rfl) (Nat.le_of_ble_eq_true rfl) (Nat.le_of_ble_eq_true rfl) (Nat.le_of_ble_eq_true rfl) ?_
  refine x_bipush (v := 110) C dX5_readsWord_27 (by decide) ?_
  refine x_ic_ne C 36 dX5_readsWord_29 (by decide) (fun _ => ?_) (fun h => absurd h (by rw [e1]; decide))
  refine x_iconst (v := 0) C dX5_readsWord_36 (by decide) ?_
  refine x_iadd C dX5_readsWord_37 ?_
  refine x_istore_n C dX5_readsWord_38 (by decide) rfl ?_
  refine x_iinc C dX5_readsWord_39 rfl (inc1 _) (by decide) rfl ?_
  refine x_aload_n C dX5_readsWord_42 rfl ?_
  refine x_dup C dX5_readsWord_43 rfl ?_
  refine x_get C kf_X5_149 mput_0 rfl dX5_readsWord_44 ?_
  rw [pk_us]
  refine x_iconst (v := 1) C dX5_readsWord_47 (by decide) ?_
  refine x_iadd C dX5_readsWord_48 ?_
  rw [show nI (a + 1) + 1 = nI (a + 2) from nI_1 _]
  refine x_put (ty := .int) C kf_X5_149 mput_0 rfl (by decide +kernel) rfl rfl (Nat.le_of_ble_eq_true rfl) (mput_s4 _) dX5_readsWord_49 ?_
  refine x_goto C 4 dX5_readsWord_52 (by decide) ?_
  refine x_iload_n C dX5_readsWord_4 rfl ?_
  refine x_iconst (v := 3) C dX5_readsWord_5 (by decide) ?_
  refine x_ic_ge C 55 dX5_readsWord_6 (by decide) (fun h => absurd h (by decide)) (fun _ => ?_)
  refine x_aload_n C dX5_readsWord_9 rfl ?_
  refine x_callV C (c_X5_isGesture (a := a + 2) hn (by simp [upd, h1]) (by omega) (by simp [upd])) kv_X5_isGesture kl_X5_158 dX5_readsWord_10 mput_0 rfl rfl rfl rfl (Nat.le_of_ble_eq_true rfl) (Nat.le_of_ble_eq_true rfl) (Nat.le_of_ble_eq_true rfl) (Nat.le_of_ble_eq_true rfl) (Nat.le_of_ble_eq_true rfl) ?_
  refine x_beq C 55 dX5_readsWord_13 (by decide) (fun _ => ?_) (fun h => absurd h hs)
  refine x_aload_n C dX5_readsWord_55 rfl ?_
  refine x_iload_n C dX5_readsWord_56 rfl ?_
  refine x_iconst (v := 1) C dX5_readsWord_57 (by decide) ?_
  refine x_ic_ne C 65 dX5_readsWord_58 (by decide) (fun _ => ?_) (fun h => absurd h (by decide))
  refine x_iload_n C dX5_readsWord_65 rfl ?_
  refine x_iconst (v := 2) C dX5_readsWord_66 (by decide) ?_
  refine x_ic_ne C 76 dX5_readsWord_67 (by decide) (fun h => absurd rfl h) (fun _ => ?_)
  refine x_iload_n C dX5_readsWord_70 rfl ?_
  refine x_iconst (v := 2) C dX5_readsWord_71 (by decide) ?_
  refine x_iadd C dX5_readsWord_72 ?_
  refine x_goto C 80 dX5_readsWord_73 (by decide) ?_
  refine x_put (ty := .int) C kf_X5_162 mput_0 rfl (by decide +kernel) rfl rfl (Nat.le_of_ble_eq_true rfl) (mput_s8 _) dX5_readsWord_80 ?_
  refine x_iload_n C dX5_readsWord_83 rfl ?_
  refine x_if_le C 91 dX5_readsWord_84 (by decide) (fun h => absurd h (by decide)) (fun _ => ?_)
  refine x_iconst (v := 1) C dX5_readsWord_87 (by decide) ?_
  refine x_goto C 92 dX5_readsWord_88 (by decide) ?_
  exact x_zret C Z dX5_readsWord_92 rfl (Nat.le_of_ble_eq_true rfl) (Nat.le_of_ble_eq_true rfl) rfl (by rw [upd_u]; rfl) rfl
set_option maxRecDepth 100000 in
set_option maxHeartbeats 1000000 in
theorem c_X5_readsWord_01 {l : Launch} {E : xEnv} {B N : Nat} {σ : Sg} {M : Nat} {U : Vs} {kp ho tx sc : Fn} {n : Nat} (hn : n ≤ 80) (h1 : sc 1 = nI n) {a : Nat} (ha : a < 2 ^ 30) (h4 : sc 4 = nI a) (e0 : chM n tx a = 119) (e1 : chM n tx (a + 1) = 110) (hs : ¬ gesP (chM n tx (a + 2))) : xM l yX5_readsWord cX5_readsWord 3 (some .boolean) 2 41 0 0 E B [.ref M] N (mput E σ M U kp ho tx sc) N (mput E σ M U kp ho tx (upd (upd sc 4 (nI (a + 2))) 8 (nI 3))) (some (.int 1)) := by
  refine xM_of [some (.ref _), none, none] (by decide +kernel) (Nat.le_of_ble_eq_true rfl) rfl (fun k0 C Z => ?_)
  refine x_iconst (v := 0) C dX5_readsWord_0 (by decide) ?_
  refine x_istore_n C dX5_readsWord_1 (by decide) rfl ?_
  refine x_iconst (v := 0) C dX5_readsWord_2 (by decide) ?_
  refine x_istore_n C dX5_readsWord_3 (by decide) rfl ?_
  refine x_iload_n C dX5_readsWord_4 rfl ?_
  refine x_iconst (v := 3) C dX5_readsWord_5 (by decide) ?_
  refine x_ic_ge C 55 dX5_readsWord_6 (by decide) (fun h => absurd h (by decide)) (fun _ => ?_)
  refine x_aload_n C dX5_readsWord_9 rfl ?_
  refine x_callV C (c_X5_isGesture (a := a) hn h1 (by omega) h4) kv_X5_isGesture kl_X5_158 dX5_readsWord_10 mput_0 rfl rfl rfl rfl (Nat.le_of_ble_eq_true rfl) (Nat.le_of_ble_eq_true rfl) (Nat.le_of_ble_eq_true rfl) (Nat.le_of_ble_eq_true rfl) (Nat.le_of_ble_eq_true rfl) ?_
  refine x_beq C 55 dX5_readsWord_13 (by decide) (fun h => absurd (Or.inl e0) h) (fun _ => ?_)
  refine x_iconst (v := 2) C dX5_readsWord_16 (by decide) ?_
  refine x_iload_n C dX5_readsWord_17 rfl ?_
  refine x_imul C dX5_readsWord_18 ?_
  refine x_aload_n C dX5_readsWord_19 rfl ?_
  refine x_aload_n C dX5_readsWord_20 rfl ?_
  refine x_get C kf_X5_149 mput_0 rfl dX5_readsWord_21 ?_
  rw [h4]
  refine x_callV C (c_X5_character (j := a) hn h1 (by omega)) kv_X5_character kl_X5_152 dX5_readsWord_24 mput_0 rfl rfl rfl rfl (Nat.le_of_ble_eq_true rfl) (Nat.le_of_ble_eq_true rfl) (Nat.le_of_ble_eq_true rfl) (Nat.le_of_ble_eq_true rfl) (Nat.le_of_ble_eq_true rfl) ?_
  refine x_bipush (v := 110) C dX5_readsWord_27 (by decide) ?_
  refine x_ic_ne C 36 dX5_readsWord_29 (by decide) (fun _ => ?_) (fun h => absurd h (by rw [e0]; decide))
  refine x_iconst (v := 0) C dX5_readsWord_36 (by decide) ?_
  refine x_iadd C dX5_readsWord_37 ?_
  refine x_istore_n C dX5_readsWord_38 (by decide) rfl ?_
  refine x_iinc C dX5_readsWord_39 rfl (inc1 _) (by decide) rfl ?_
  refine x_aload_n C dX5_readsWord_42 rfl ?_
  refine x_dup C dX5_readsWord_43 rfl ?_
  refine x_get C kf_X5_149 mput_0 rfl dX5_readsWord_44 ?_
  rw [h4]
  refine x_iconst (v := 1) C dX5_readsWord_47 (by decide) ?_
  refine x_iadd C dX5_readsWord_48 ?_
  rw [show nI a + 1 = nI (a + 1) from nI_1 _]
  refine x_put (ty := .int) C kf_X5_149 mput_0 rfl (by decide +kernel) rfl rfl (Nat.le_of_ble_eq_true rfl) (mput_s4 _) dX5_readsWord_49 ?_
  refine x_goto C 4 dX5_readsWord_52 (by decide) ?_
  refine x_iload_n C dX5_readsWord_4 rfl ?_
  refine x_iconst (v := 3) C dX5_readsWord_5 (by decide) ?_
  refine x_ic_ge C 55 dX5_readsWord_6 (by decide) (fun h => absurd h (by decide)) (fun _ => ?_)
  refine x_aload_n C dX5_readsWord_9 rfl ?_
  refine x_callV C (c_X5_isGesture (a := a + 1) hn (by simp [upd, h1]) (by omega) (by simp [upd])) kv_X5_isGesture kl_X5_158 dX5_readsWord_10 mput_0 rfl rfl rfl rfl (Nat.le_of_ble_eq_true rfl) (Nat.le_of_ble_eq_true rfl) (Nat.le_of_ble_eq_true rfl) (Nat.le_of_ble_eq_true rfl) (Nat.le_of_ble_eq_true rfl) ?_
  refine x_beq C 55 dX5_readsWord_13 (by decide) (fun h => absurd (Or.inr e1) h) (fun _ => ?_)
  refine x_iconst (v := 2) C dX5_readsWord_16 (by decide) ?_
  refine x_iload_n C dX5_readsWord_17 rfl ?_
  refine x_imul C dX5_readsWord_18 ?_
  refine x_aload_n C dX5_readsWord_19 rfl ?_
  refine x_aload_n C dX5_readsWord_20 rfl ?_
  refine x_get C kf_X5_149 mput_0 rfl dX5_readsWord_21 ?_
  rw [pk_us]
  refine x_callV C (c_X5_character (j := a + 1) hn (by simp [upd, h1]) (by omega)) kv_X5_character kl_X5_152 dX5_readsWord_24 mput_0 rfl rfl rfl rfl (Nat.le_of_ble_eq_true rfl) (Nat.le_of_ble_eq_true rfl) (Nat.le_of_ble_eq_true rfl) (Nat.le_of_ble_eq_true rfl) (Nat.le_of_ble_eq_true rfl) ?_
  refine x_bipush (v := 110) C dX5_readsWord_27 (by decide) ?_
  refine x_ic_ne C 36 dX5_readsWord_29 (by decide) (fun h => absurd e1 h) (fun _ => ?_)
  refine x_iconst (v := 1) C dX5_readsWord_32 (by decide) ?_
  refine x_goto C 37 dX5_readsWord_33 (by decide) ?_
  refine x_iadd C dX5_readsWord_37 ?_
  refine x_istore_n C dX5_readsWord_38 (by decide) rfl ?_
  refine x_iinc C dX5_readsWord_39 rfl (inc1 _) (by decide) rfl ?_
  refine x_aload_n C dX5_readsWord_42 rfl ?_
  refine x_dup C dX5_readsWord_43 rfl ?_
  refine x_get C kf_X5_149 mput_0 rfl dX5_readsWord_44 ?_
  rw [pk_us]
  refine x_iconst (v := 1) C dX5_readsWord_47 (by decide) ?_
  refine x_iadd C dX5_readsWord_48 ?_
  rw [show nI (a + 1) + 1 = nI (a + 2) from nI_1 _]
  refine x_put (ty := .int) C kf_X5_149 mput_0 rfl (by decide +kernel) rfl rfl (Nat.le_of_ble_eq_true rfl) (mput_s4 _) dX5_readsWord_49 ?_
  refine x_goto C 4 dX5_readsWord_52 (by decide) ?_
  refine x_iload_n C dX5_readsWord_4 rfl ?_
  refine x_iconst (v := 3) C dX5_readsWord_5 (by decide) ?_
  refine x_ic_ge C 55 dX5_readsWord_6 (by decide) (fun h => absurd h (by decide)) (fun _ => ?_)
  refine x_aload_n C dX5_readsWord_9 rfl ?_
  refine x_callV C (c_X5_isGesture (a := a + 2) hn (by simp [upd, h1]) (by omega) (by simp [upd])) kv_X5_isGesture kl_X5_158 dX5_readsWord_10 mput_0 rfl rfl rfl rfl (Nat.le_of_ble_eq_true rfl) (Nat.le_of_ble_eq_true rfl) (Nat.le_of_ble_eq_true rfl) (Nat.le_of_ble_eq_true rfl) (Nat.le_of_ble_eq_true rfl) ?_
  refine x_beq C 55 dX5_readsWord_13 (by decide) (fun _ => ?_) (fun h => absurd h hs)
  refine x_aload_n C dX5_readsWord_55 rfl ?_
  refine x_iload_n C dX5_readsWord_56 rfl ?_
  refine x_iconst (v := 1) C dX5_readsWord_57 (by decide) ?_
  refine x_ic_ne C 65 dX5_readsWord_58 (by decide) (fun _ => ?_) (fun h => absurd h (by decide))
  refine x_iload_n C dX5_readsWord_65 rfl ?_
  refine x_iconst (v := 2) C dX5_readsWord_66 (by decide) ?_
  refine x_ic_ne C 76 dX5_readsWord_67 (by decide) (fun h => absurd rfl h) (fun _ => ?_)
  refine x_iload_n C dX5_readsWord_70 rfl ?_
  refine x_iconst (v := 2) C dX5_readsWord_71 (by decide) ?_
  refine x_iadd C dX5_readsWord_72 ?_
  refine x_goto C 80 dX5_readsWord_73 (by decide) ?_
  refine x_put (ty := .int) C kf_X5_162 mput_0 rfl (by decide +kernel) rfl rfl (Nat.le_of_ble_eq_true rfl) (mput_s8 _) dX5_readsWord_80 ?_
  refine x_iload_n C dX5_readsWord_83 rfl ?_
  refine x_if_le C 91 dX5_readsWord_84 (by decide) (fun h => absurd h (by decide)) (fun _ => ?_)
  refine x_iconst (v := 1) C dX5_readsWord_87 (by decide) ?_
  refine x_goto C 92 dX5_readsWord_88 (by decide) ?_
  exact x_zret C Z dX5_readsWord_92 rfl (Nat.le_of_ble_eq_true rfl) (Nat.le_of_ble_eq_true rfl) rfl (by rw [upd_u]; rfl) rfl
set_option maxRecDepth 100000 in
set_option maxHeartbeats 1000000 in
theorem c_X5_readsWord_10 {l : Launch} {E : xEnv} {B N : Nat} {σ : Sg} {M : Nat} {U : Vs} {kp ho tx sc : Fn} {n : Nat} (hn : n ≤ 80) (h1 : sc 1 = nI n) {a : Nat} (ha : a < 2 ^ 30) (h4 : sc 4 = nI a) (e0 : chM n tx a = 110) (e1 : chM n tx (a + 1) = 119) (hs : ¬ gesP (chM n tx (a + 2))) : xM l yX5_readsWord cX5_readsWord 3 (some .boolean) 2 41 0 0 E B [.ref M] N (mput E σ M U kp ho tx sc) N (mput E σ M U kp ho tx (upd (upd sc 4 (nI (a + 2))) 8 (nI 4))) (some (.int 1)) := by
  refine xM_of [some (.ref _), none, none] (by decide +kernel) (Nat.le_of_ble_eq_true rfl) rfl (fun k0 C Z => ?_)
  refine x_iconst (v := 0) C dX5_readsWord_0 (by decide) ?_
  refine x_istore_n C dX5_readsWord_1 (by decide) rfl ?_
  refine x_iconst (v := 0) C dX5_readsWord_2 (by decide) ?_
  refine x_istore_n C dX5_readsWord_3 (by decide) rfl ?_
  refine x_iload_n C dX5_readsWord_4 rfl ?_
  refine x_iconst (v := 3) C dX5_readsWord_5 (by decide) ?_
  refine x_ic_ge C 55 dX5_readsWord_6 (by decide) (fun h => absurd h (by decide)) (fun _ => ?_)
  refine x_aload_n C dX5_readsWord_9 rfl ?_
  refine x_callV C (c_X5_isGesture (a := a) hn h1 (by omega) h4) kv_X5_isGesture kl_X5_158 dX5_readsWord_10 mput_0 rfl rfl rfl rfl (Nat.le_of_ble_eq_true rfl) (Nat.le_of_ble_eq_true rfl) (Nat.le_of_ble_eq_true rfl) (Nat.le_of_ble_eq_true rfl) (Nat.le_of_ble_eq_true rfl) ?_
  refine x_beq C 55 dX5_readsWord_13 (by decide) (fun h => absurd (Or.inr e0) h) (fun _ => ?_)
  refine x_iconst (v := 2) C dX5_readsWord_16 (by decide) ?_
  refine x_iload_n C dX5_readsWord_17 rfl ?_
  refine x_imul C dX5_readsWord_18 ?_
  refine x_aload_n C dX5_readsWord_19 rfl ?_
  refine x_aload_n C dX5_readsWord_20 rfl ?_
  refine x_get C kf_X5_149 mput_0 rfl dX5_readsWord_21 ?_
  rw [h4]
  refine x_callV C (c_X5_character (j := a) hn h1 (by omega)) kv_X5_character kl_X5_152 dX5_readsWord_24 mput_0 rfl rfl rfl rfl (Nat.le_of_ble_eq_true rfl) (Nat.le_of_ble_eq_true rfl) (Nat.le_of_ble_eq_true rfl) (Nat.le_of_ble_eq_true rfl) (Nat.le_of_ble_eq_true rfl) ?_
  refine x_bipush (v := 110) C dX5_readsWord_27 (by decide) ?_
  refine x_ic_ne C 36 dX5_readsWord_29 (by decide) (fun h => absurd e0 h) (fun _ => ?_)
  refine x_iconst (v := 1) C dX5_readsWord_32 (by decide) ?_
  refine x_goto C 37 dX5_readsWord_33 (by decide) ?_
  refine x_iadd C dX5_readsWord_37 ?_
  refine x_istore_n C dX5_readsWord_38 (by decide) rfl ?_
  refine x_iinc C dX5_readsWord_39 rfl (inc1 _) (by decide) rfl ?_
  refine x_aload_n C dX5_readsWord_42 rfl ?_
  refine x_dup C dX5_readsWord_43 rfl ?_
  refine x_get C kf_X5_149 mput_0 rfl dX5_readsWord_44 ?_
  rw [h4]
  refine x_iconst (v := 1) C dX5_readsWord_47 (by decide) ?_
  refine x_iadd C dX5_readsWord_48 ?_
  rw [show nI a + 1 = nI (a + 1) from nI_1 _]
  refine x_put (ty := .int) C kf_X5_149 mput_0 rfl (by decide +kernel) rfl rfl (Nat.le_of_ble_eq_true rfl) (mput_s4 _) dX5_readsWord_49 ?_
  refine x_goto C 4 dX5_readsWord_52 (by decide) ?_
  refine x_iload_n C dX5_readsWord_4 rfl ?_
  refine x_iconst (v := 3) C dX5_readsWord_5 (by decide) ?_
  refine x_ic_ge C 55 dX5_readsWord_6 (by decide) (fun h => absurd h (by decide)) (fun _ => ?_)
  refine x_aload_n C dX5_readsWord_9 rfl ?_
  refine x_callV C (c_X5_isGesture (a := a + 1) hn (by simp [upd, h1]) (by omega) (by simp [upd])) kv_X5_isGesture kl_X5_158 dX5_readsWord_10 mput_0 rfl rfl rfl rfl (Nat.le_of_ble_eq_true rfl) (Nat.le_of_ble_eq_true rfl) (Nat.le_of_ble_eq_true rfl) (Nat.le_of_ble_eq_true rfl) (Nat.le_of_ble_eq_true rfl) ?_
  refine x_beq C 55 dX5_readsWord_13 (by decide) (fun h => absurd (Or.inl e1) h) (fun _ => ?_)
  refine x_iconst (v := 2) C dX5_readsWord_16 (by decide) ?_
  refine x_iload_n C dX5_readsWord_17 rfl ?_
  refine x_imul C dX5_readsWord_18 ?_
  refine x_aload_n C dX5_readsWord_19 rfl ?_
  refine x_aload_n C dX5_readsWord_20 rfl ?_
  refine x_get C kf_X5_149 mput_0 rfl dX5_readsWord_21 ?_
  rw [pk_us]
  refine x_callV C (c_X5_character (j := a + 1) hn (by simp [upd, h1]) (by omega)) kv_X5_character kl_X5_152 dX5_readsWord_24 mput_0 rfl rfl rfl rfl (Nat.le_of_ble_eq_true rfl) (Nat.le_of_ble_eq_true rfl) (Nat.le_of_ble_eq_true rfl) (Nat.le_of_ble_eq_true rfl) (Nat.le_of_ble_eq_true rfl) ?_
  refine x_bipush (v := 110) C dX5_readsWord_27 (by decide) ?_
  refine x_ic_ne C 36 dX5_readsWord_29 (by decide) (fun _ => ?_) (fun h => absurd h (by rw [e1]; decide))
  refine x_iconst (v := 0) C dX5_readsWord_36 (by decide) ?_
  refine x_iadd C dX5_readsWord_37 ?_
  refine x_istore_n C dX5_readsWord_38 (by decide) rfl ?_
  refine x_iinc C dX5_readsWord_39 rfl (inc1 _) (by decide) rfl ?_
  refine x_aload_n C dX5_readsWord_42 rfl ?_
  refine x_dup C dX5_readsWord_43 rfl ?_
  refine x_get C kf_X5_149 mput_0 rfl dX5_readsWord_44 ?_
  rw [pk_us]
  refine x_iconst (v := 1) C dX5_readsWord_47 (by decide) ?_
  refine x_iadd C dX5_readsWord_48 ?_
  rw [show nI (a + 1) + 1 = nI (a + 2) from nI_1 _]
  refine x_put (ty := .int) C kf_X5_149 mput_0 rfl (by decide +kernel) rfl rfl (Nat.le_of_ble_eq_true rfl) (mput_s4 _) dX5_readsWord_49 ?_
  refine x_goto C 4 dX5_readsWord_52 (by decide) ?_
  refine x_iload_n C dX5_readsWord_4 rfl ?_
  refine x_iconst (v := 3) C dX5_readsWord_5 (by decide) ?_
  refine x_ic_ge C 55 dX5_readsWord_6 (by decide) (fun h => absurd h (by decide)) (fun _ => ?_)
  refine x_aload_n C dX5_readsWord_9 rfl ?_
  refine x_callV C (c_X5_isGesture (a := a + 2) hn (by simp [upd, h1]) (by omega) (by simp [upd])) kv_X5_isGesture kl_X5_158 dX5_readsWord_10 mput_0 rfl rfl rfl rfl (Nat.le_of_ble_eq_true rfl) (Nat.le_of_ble_eq_true rfl) (Nat.le_of_ble_eq_true rfl) (Nat.le_of_ble_eq_true rfl) (Nat.le_of_ble_eq_true rfl) ?_
  refine x_beq C 55 dX5_readsWord_13 (by decide) (fun _ => ?_) (fun h => absurd h hs)
  refine x_aload_n C dX5_readsWord_55 rfl ?_
  refine x_iload_n C dX5_readsWord_56 rfl ?_
  refine x_iconst (v := 1) C dX5_readsWord_57 (by decide) ?_
  refine x_ic_ne C 65 dX5_readsWord_58 (by decide) (fun _ => ?_) (fun h => absurd h (by decide))
  refine x_iload_n C dX5_readsWord_65 rfl ?_
  refine x_iconst (v := 2) C dX5_readsWord_66 (by decide) ?_
  refine x_ic_ne C 76 dX5_readsWord_67 (by decide) (fun h => absurd rfl h) (fun _ => ?_)
  refine x_iload_n C dX5_readsWord_70 rfl ?_
  refine x_iconst (v := 2) C dX5_readsWord_71 (by decide) ?_
  refine x_iadd C dX5_readsWord_72 ?_
  refine x_goto C 80 dX5_readsWord_73 (by decide) ?_
  refine x_put (ty := .int) C kf_X5_162 mput_0 rfl (by decide +kernel) rfl rfl (Nat.le_of_ble_eq_true rfl) (mput_s8 _) dX5_readsWord_80 ?_
  refine x_iload_n C dX5_readsWord_83 rfl ?_
  refine x_if_le C 91 dX5_readsWord_84 (by decide) (fun h => absurd h (by decide)) (fun _ => ?_)
  refine x_iconst (v := 1) C dX5_readsWord_87 (by decide) ?_
  refine x_goto C 92 dX5_readsWord_88 (by decide) ?_
  exact x_zret C Z dX5_readsWord_92 rfl (Nat.le_of_ble_eq_true rfl) (Nat.le_of_ble_eq_true rfl) rfl (by rw [upd_u]; rfl) rfl
set_option maxRecDepth 100000 in
set_option maxHeartbeats 1000000 in
theorem c_X5_readsWord_11 {l : Launch} {E : xEnv} {B N : Nat} {σ : Sg} {M : Nat} {U : Vs} {kp ho tx sc : Fn} {n : Nat} (hn : n ≤ 80) (h1 : sc 1 = nI n) {a : Nat} (ha : a < 2 ^ 30) (h4 : sc 4 = nI a) (e0 : chM n tx a = 110) (e1 : chM n tx (a + 1) = 110) (hs : ¬ gesP (chM n tx (a + 2))) : xM l yX5_readsWord cX5_readsWord 3 (some .boolean) 2 41 0 0 E B [.ref M] N (mput E σ M U kp ho tx sc) N (mput E σ M U kp ho tx (upd (upd sc 4 (nI (a + 2))) 8 (nI 5))) (some (.int 1)) := by
  refine xM_of [some (.ref _), none, none] (by decide +kernel) (Nat.le_of_ble_eq_true rfl) rfl (fun k0 C Z => ?_)
  refine x_iconst (v := 0) C dX5_readsWord_0 (by decide) ?_
  refine x_istore_n C dX5_readsWord_1 (by decide) rfl ?_
  refine x_iconst (v := 0) C dX5_readsWord_2 (by decide) ?_
  refine x_istore_n C dX5_readsWord_3 (by decide) rfl ?_
  refine x_iload_n C dX5_readsWord_4 rfl ?_
  refine x_iconst (v := 3) C dX5_readsWord_5 (by decide) ?_
  refine x_ic_ge C 55 dX5_readsWord_6 (by decide) (fun h => absurd h (by decide)) (fun _ => ?_)
  refine x_aload_n C dX5_readsWord_9 rfl ?_
  refine x_callV C (c_X5_isGesture (a := a) hn h1 (by omega) h4) kv_X5_isGesture kl_X5_158 dX5_readsWord_10 mput_0 rfl rfl rfl rfl (Nat.le_of_ble_eq_true rfl) (Nat.le_of_ble_eq_true rfl) (Nat.le_of_ble_eq_true rfl) (Nat.le_of_ble_eq_true rfl) (Nat.le_of_ble_eq_true rfl) ?_
  refine x_beq C 55 dX5_readsWord_13 (by decide) (fun h => absurd (Or.inr e0) h) (fun _ => ?_)
  refine x_iconst (v := 2) C dX5_readsWord_16 (by decide) ?_
  refine x_iload_n C dX5_readsWord_17 rfl ?_
  refine x_imul C dX5_readsWord_18 ?_
  refine x_aload_n C dX5_readsWord_19 rfl ?_
  refine x_aload_n C dX5_readsWord_20 rfl ?_
  refine x_get C kf_X5_149 mput_0 rfl dX5_readsWord_21 ?_
  rw [h4]
  refine x_callV C (c_X5_character (j := a) hn h1 (by omega)) kv_X5_character kl_X5_152 dX5_readsWord_24 mput_0 rfl rfl rfl rfl (Nat.le_of_ble_eq_true rfl) (Nat.le_of_ble_eq_true rfl) (Nat.le_of_ble_eq_true rfl) (Nat.le_of_ble_eq_true rfl) (Nat.le_of_ble_eq_true rfl) ?_
  refine x_bipush (v := 110) C dX5_readsWord_27 (by decide) ?_
  refine x_ic_ne C 36 dX5_readsWord_29 (by decide) (fun h => absurd e0 h) (fun _ => ?_)
  refine x_iconst (v := 1) C dX5_readsWord_32 (by decide) ?_
  refine x_goto C 37 dX5_readsWord_33 (by decide) ?_
  refine x_iadd C dX5_readsWord_37 ?_
  refine x_istore_n C dX5_readsWord_38 (by decide) rfl ?_
  refine x_iinc C dX5_readsWord_39 rfl (inc1 _) (by decide) rfl ?_
  refine x_aload_n C dX5_readsWord_42 rfl ?_
  refine x_dup C dX5_readsWord_43 rfl ?_
  refine x_get C kf_X5_149 mput_0 rfl dX5_readsWord_44 ?_
  rw [h4]
  refine x_iconst (v := 1) C dX5_readsWord_47 (by decide) ?_
  refine x_iadd C dX5_readsWord_48 ?_
  rw [show nI a + 1 = nI (a + 1) from nI_1 _]
  refine x_put (ty := .int) C kf_X5_149 mput_0 rfl (by decide +kernel) rfl rfl (Nat.le_of_ble_eq_true rfl) (mput_s4 _) dX5_readsWord_49 ?_
  refine x_goto C 4 dX5_readsWord_52 (by decide) ?_
  refine x_iload_n C dX5_readsWord_4 rfl ?_
  refine x_iconst (v := 3) C dX5_readsWord_5 (by decide) ?_
  refine x_ic_ge C 55 dX5_readsWord_6 (by decide) (fun h => absurd h (by decide)) (fun _ => ?_)
  refine x_aload_n C dX5_readsWord_9 rfl ?_
  refine x_callV C (c_X5_isGesture (a := a + 1) hn (by simp [upd, h1]) (by omega) (by simp [upd])) kv_X5_isGesture kl_X5_158 dX5_readsWord_10 mput_0 rfl rfl rfl rfl (Nat.le_of_ble_eq_true rfl) (Nat.le_of_ble_eq_true rfl) (Nat.le_of_ble_eq_true rfl) (Nat.le_of_ble_eq_true rfl) (Nat.le_of_ble_eq_true rfl) ?_
  refine x_beq C 55 dX5_readsWord_13 (by decide) (fun h => absurd (Or.inr e1) h) (fun _ => ?_)
  refine x_iconst (v := 2) C dX5_readsWord_16 (by decide) ?_
  refine x_iload_n C dX5_readsWord_17 rfl ?_
  refine x_imul C dX5_readsWord_18 ?_
  refine x_aload_n C dX5_readsWord_19 rfl ?_
  refine x_aload_n C dX5_readsWord_20 rfl ?_
  refine x_get C kf_X5_149 mput_0 rfl dX5_readsWord_21 ?_
  rw [pk_us]
  refine x_callV C (c_X5_character (j := a + 1) hn (by simp [upd, h1]) (by omega)) kv_X5_character kl_X5_152 dX5_readsWord_24 mput_0 rfl rfl rfl rfl (Nat.le_of_ble_eq_true rfl) (Nat.le_of_ble_eq_true rfl) (Nat.le_of_ble_eq_true rfl) (Nat.le_of_ble_eq_true rfl) (Nat.le_of_ble_eq_true rfl) ?_
  refine x_bipush (v := 110) C dX5_readsWord_27 (by decide) ?_
  refine x_ic_ne C 36 dX5_readsWord_29 (by decide) (fun h => absurd e1 h) (fun _ => ?_)
  refine x_iconst (v := 1) C dX5_readsWord_32 (by decide) ?_
  refine x_goto C 37 dX5_readsWord_33 (by decide) ?_
  refine x_iadd C dX5_readsWord_37 ?_
  refine x_istore_n C dX5_readsWord_38 (by decide) rfl ?_
  refine x_iinc C dX5_readsWord_39 rfl (inc1 _) (by decide) rfl ?_
  refine x_aload_n C dX5_readsWord_42 rfl ?_
  refine x_dup C dX5_readsWord_43 rfl ?_
  refine x_get C kf_X5_149 mput_0 rfl dX5_readsWord_44 ?_
  rw [pk_us]
  refine x_iconst (v := 1) C dX5_readsWord_47 (by decide) ?_
  refine x_iadd C dX5_readsWord_48 ?_
  rw [show nI (a + 1) + 1 = nI (a + 2) from nI_1 _]
  refine x_put (ty := .int) C kf_X5_149 mput_0 rfl (by decide +kernel) rfl rfl (Nat.le_of_ble_eq_true rfl) (mput_s4 _) dX5_readsWord_49 ?_
  refine x_goto C 4 dX5_readsWord_52 (by decide) ?_
  refine x_iload_n C dX5_readsWord_4 rfl ?_
  refine x_iconst (v := 3) C dX5_readsWord_5 (by decide) ?_
  refine x_ic_ge C 55 dX5_readsWord_6 (by decide) (fun h => absurd h (by decide)) (fun _ => ?_)
  refine x_aload_n C dX5_readsWord_9 rfl ?_
  refine x_callV C (c_X5_isGesture (a := a + 2) hn (by simp [upd, h1]) (by omega) (by simp [upd])) kv_X5_isGesture kl_X5_158 dX5_readsWord_10 mput_0 rfl rfl rfl rfl (Nat.le_of_ble_eq_true rfl) (Nat.le_of_ble_eq_true rfl) (Nat.le_of_ble_eq_true rfl) (Nat.le_of_ble_eq_true rfl) (Nat.le_of_ble_eq_true rfl) ?_
  refine x_beq C 55 dX5_readsWord_13 (by decide) (fun _ => ?_) (fun h => absurd h hs)
  refine x_aload_n C dX5_readsWord_55 rfl ?_
  refine x_iload_n C dX5_readsWord_56 rfl ?_
  refine x_iconst (v := 1) C dX5_readsWord_57 (by decide) ?_
  refine x_ic_ne C 65 dX5_readsWord_58 (by decide) (fun _ => ?_) (fun h => absurd h (by decide))
  refine x_iload_n C dX5_readsWord_65 rfl ?_
  refine x_iconst (v := 2) C dX5_readsWord_66 (by decide) ?_
  refine x_ic_ne C 76 dX5_readsWord_67 (by decide) (fun h => absurd rfl h) (fun _ => ?_)
  refine x_iload_n C dX5_readsWord_70 rfl ?_
  refine x_iconst (v := 2) C dX5_readsWord_71 (by decide) ?_
  refine x_iadd C dX5_readsWord_72 ?_
  refine x_goto C 80 dX5_readsWord_73 (by decide) ?_
  refine x_put (ty := .int) C kf_X5_162 mput_0 rfl (by decide +kernel) rfl rfl (Nat.le_of_ble_eq_true rfl) (mput_s8 _) dX5_readsWord_80 ?_
  refine x_iload_n C dX5_readsWord_83 rfl ?_
  refine x_if_le C 91 dX5_readsWord_84 (by decide) (fun h => absurd h (by decide)) (fun _ => ?_)
  refine x_iconst (v := 1) C dX5_readsWord_87 (by decide) ?_
  refine x_goto C 92 dX5_readsWord_88 (by decide) ?_
  exact x_zret C Z dX5_readsWord_92 rfl (Nat.le_of_ble_eq_true rfl) (Nat.le_of_ble_eq_true rfl) rfl (by rw [upd_u]; rfl) rfl
set_option maxRecDepth 100000 in
set_option maxHeartbeats 1000000 in
theorem c_X5_readsWord_000 {l : Launch} {E : xEnv} {B N : Nat} {σ : Sg} {M : Nat} {U : Vs} {kp ho tx sc : Fn} {n : Nat} (hn : n ≤ 80) (h1 : sc 1 = nI n) {a : Nat} (ha : a < 2 ^ 30) (h4 : sc 4 = nI a) (e0 : chM n tx a = 119) (e1 : chM n tx (a + 1) = 119) (e2 : chM n tx (a + 2) = 119) : xM l yX5_readsWord cX5_readsWord 3 (some .boolean) 2 41 0 0 E B [.ref M] N (mput E σ M U kp ho tx sc) N (mput E σ M U kp ho tx (upd (upd sc 4 (nI (a + 3))) 8 (nI 6))) (some (.int 1)) := by
  refine xM_of [some (.ref _), none, none] (by decide +kernel) (Nat.le_of_ble_eq_true rfl) rfl (fun k0 C Z => ?_)
  refine x_iconst (v := 0) C dX5_readsWord_0 (by decide) ?_
  refine x_istore_n C dX5_readsWord_1 (by decide) rfl ?_
  refine x_iconst (v := 0) C dX5_readsWord_2 (by decide) ?_
  refine x_istore_n C dX5_readsWord_3 (by decide) rfl ?_
  refine x_iload_n C dX5_readsWord_4 rfl ?_
  refine x_iconst (v := 3) C dX5_readsWord_5 (by decide) ?_
  refine x_ic_ge C 55 dX5_readsWord_6 (by decide) (fun h => absurd h (by decide)) (fun _ => ?_)
  refine x_aload_n C dX5_readsWord_9 rfl ?_
  refine x_callV C (c_X5_isGesture (a := a) hn h1 (by omega) h4) kv_X5_isGesture kl_X5_158 dX5_readsWord_10 mput_0 rfl rfl rfl rfl (Nat.le_of_ble_eq_true rfl) (Nat.le_of_ble_eq_true rfl) (Nat.le_of_ble_eq_true rfl) (Nat.le_of_ble_eq_true rfl) (Nat.le_of_ble_eq_true rfl) ?_
  refine x_beq C 55 dX5_readsWord_13 (by decide) (fun h => absurd (Or.inl e0) h) (fun _ => ?_)
  refine x_iconst (v := 2) C dX5_readsWord_16 (by decide) ?_
  refine x_iload_n C dX5_readsWord_17 rfl ?_
  refine x_imul C dX5_readsWord_18 ?_
  refine x_aload_n C dX5_readsWord_19 rfl ?_
  refine x_aload_n C dX5_readsWord_20 rfl ?_
  refine x_get C kf_X5_149 mput_0 rfl dX5_readsWord_21 ?_
  rw [h4]
  refine x_callV C (c_X5_character (j := a) hn h1 (by omega)) kv_X5_character kl_X5_152 dX5_readsWord_24 mput_0 rfl rfl rfl rfl (Nat.le_of_ble_eq_true rfl) (Nat.le_of_ble_eq_true rfl) (Nat.le_of_ble_eq_true rfl) (Nat.le_of_ble_eq_true rfl) (Nat.le_of_ble_eq_true rfl) ?_
  refine x_bipush (v := 110) C dX5_readsWord_27 (by decide) ?_
  refine x_ic_ne C 36 dX5_readsWord_29 (by decide) (fun _ => ?_) (fun h => absurd h (by rw [e0]; decide))
  refine x_iconst (v := 0) C dX5_readsWord_36 (by decide) ?_
  refine x_iadd C dX5_readsWord_37 ?_
  refine x_istore_n C dX5_readsWord_38 (by decide) rfl ?_
  refine x_iinc C dX5_readsWord_39 rfl (inc1 _) (by decide) rfl ?_
  refine x_aload_n C dX5_readsWord_42 rfl ?_
  refine x_dup C dX5_readsWord_43 rfl ?_
  refine x_get C kf_X5_149 mput_0 rfl dX5_readsWord_44 ?_
  rw [h4]
  refine x_iconst (v := 1) C dX5_readsWord_47 (by decide) ?_
  refine x_iadd C dX5_readsWord_48 ?_
  rw [show nI a + 1 = nI (a + 1) from nI_1 _]
  refine x_put (ty := .int) C kf_X5_149 mput_0 rfl (by decide +kernel) rfl rfl (Nat.le_of_ble_eq_true rfl) (mput_s4 _) dX5_readsWord_49 ?_
  refine x_goto C 4 dX5_readsWord_52 (by decide) ?_
  refine x_iload_n C dX5_readsWord_4 rfl ?_
  refine x_iconst (v := 3) C dX5_readsWord_5 (by decide) ?_
  refine x_ic_ge C 55 dX5_readsWord_6 (by decide) (fun h => absurd h (by decide)) (fun _ => ?_)
  refine x_aload_n C dX5_readsWord_9 rfl ?_
  refine x_callV C (c_X5_isGesture (a := a + 1) hn (by simp [upd, h1]) (by omega) (by simp [upd])) kv_X5_isGesture kl_X5_158 dX5_readsWord_10 mput_0 rfl rfl rfl rfl (Nat.le_of_ble_eq_true rfl) (Nat.le_of_ble_eq_true rfl) (Nat.le_of_ble_eq_true rfl) (Nat.le_of_ble_eq_true rfl) (Nat.le_of_ble_eq_true rfl) ?_
  refine x_beq C 55 dX5_readsWord_13 (by decide) (fun h => absurd (Or.inl e1) h) (fun _ => ?_)
  refine x_iconst (v := 2) C dX5_readsWord_16 (by decide) ?_
  refine x_iload_n C dX5_readsWord_17 rfl ?_
  refine x_imul C dX5_readsWord_18 ?_
  refine x_aload_n C dX5_readsWord_19 rfl ?_
  refine x_aload_n C dX5_readsWord_20 rfl ?_
  refine x_get C kf_X5_149 mput_0 rfl dX5_readsWord_21 ?_
  rw [pk_us]
  refine x_callV C (c_X5_character (j := a + 1) hn (by simp [upd, h1]) (by omega)) kv_X5_character kl_X5_152 dX5_readsWord_24 mput_0 rfl rfl rfl rfl (Nat.le_of_ble_eq_true rfl) (Nat.le_of_ble_eq_true rfl) (Nat.le_of_ble_eq_true rfl) (Nat.le_of_ble_eq_true rfl) (Nat.le_of_ble_eq_true rfl) ?_
  refine x_bipush (v := 110) C dX5_readsWord_27 (by decide) ?_
  refine x_ic_ne C 36 dX5_readsWord_29 (by decide) (fun _ => ?_) (fun h => absurd h (by rw [e1]; decide))
  refine x_iconst (v := 0) C dX5_readsWord_36 (by decide) ?_
  refine x_iadd C dX5_readsWord_37 ?_
  refine x_istore_n C dX5_readsWord_38 (by decide) rfl ?_
  refine x_iinc C dX5_readsWord_39 rfl (inc1 _) (by decide) rfl ?_
  refine x_aload_n C dX5_readsWord_42 rfl ?_
  refine x_dup C dX5_readsWord_43 rfl ?_
  refine x_get C kf_X5_149 mput_0 rfl dX5_readsWord_44 ?_
  rw [pk_us]
  refine x_iconst (v := 1) C dX5_readsWord_47 (by decide) ?_
  refine x_iadd C dX5_readsWord_48 ?_
  rw [show nI (a + 1) + 1 = nI (a + 2) from nI_1 _]
  refine x_put (ty := .int) C kf_X5_149 mput_0 rfl (by decide +kernel) rfl rfl (Nat.le_of_ble_eq_true rfl) (mput_s4 _) dX5_readsWord_49 ?_
  refine x_goto C 4 dX5_readsWord_52 (by decide) ?_
  refine x_iload_n C dX5_readsWord_4 rfl ?_
  refine x_iconst (v := 3) C dX5_readsWord_5 (by decide) ?_
  refine x_ic_ge C 55 dX5_readsWord_6 (by decide) (fun h => absurd h (by decide)) (fun _ => ?_)
  refine x_aload_n C dX5_readsWord_9 rfl ?_
  refine x_callV C (c_X5_isGesture (a := a + 2) hn (by simp [upd, h1]) (by omega) (by simp [upd])) kv_X5_isGesture kl_X5_158 dX5_readsWord_10 mput_0 rfl rfl rfl rfl (Nat.le_of_ble_eq_true rfl) (Nat.le_of_ble_eq_true rfl) (Nat.le_of_ble_eq_true rfl) (Nat.le_of_ble_eq_true rfl) (Nat.le_of_ble_eq_true rfl) ?_
  refine x_beq C 55 dX5_readsWord_13 (by decide) (fun h => absurd (Or.inl e2) h) (fun _ => ?_)
  refine x_iconst (v := 2) C dX5_readsWord_16 (by decide) ?_
  refine x_iload_n C dX5_readsWord_17 rfl ?_
  refine x_imul C dX5_readsWord_18 ?_
  refine x_aload_n C dX5_readsWord_19 rfl ?_
  refine x_aload_n C dX5_readsWord_20 rfl ?_
  refine x_get C kf_X5_149 mput_0 rfl dX5_readsWord_21 ?_
  rw [pk_us]
  refine x_callV C (c_X5_character (j := a + 2) hn (by simp [upd, h1]) (by omega)) kv_X5_character kl_X5_152 dX5_readsWord_24 mput_0 rfl rfl rfl rfl (Nat.le_of_ble_eq_true rfl) (Nat.le_of_ble_eq_true rfl) (Nat.le_of_ble_eq_true rfl) (Nat.le_of_ble_eq_true rfl) (Nat.le_of_ble_eq_true rfl) ?_
  refine x_bipush (v := 110) C dX5_readsWord_27 (by decide) ?_
  refine x_ic_ne C 36 dX5_readsWord_29 (by decide) (fun _ => ?_) (fun h => absurd h (by rw [e2]; decide))
  refine x_iconst (v := 0) C dX5_readsWord_36 (by decide) ?_
  refine x_iadd C dX5_readsWord_37 ?_
  refine x_istore_n C dX5_readsWord_38 (by decide) rfl ?_
  refine x_iinc C dX5_readsWord_39 rfl (inc1 _) (by decide) rfl ?_
  refine x_aload_n C dX5_readsWord_42 rfl ?_
  refine x_dup C dX5_readsWord_43 rfl ?_
  refine x_get C kf_X5_149 mput_0 rfl dX5_readsWord_44 ?_
  rw [pk_us]
  refine x_iconst (v := 1) C dX5_readsWord_47 (by decide) ?_
  refine x_iadd C dX5_readsWord_48 ?_
  rw [show nI (a + 2) + 1 = nI (a + 3) from nI_1 _]
  refine x_put (ty := .int) C kf_X5_149 mput_0 rfl (by decide +kernel) rfl rfl (Nat.le_of_ble_eq_true rfl) (mput_s4 _) dX5_readsWord_49 ?_
  refine x_goto C 4 dX5_readsWord_52 (by decide) ?_
  refine x_iload_n C dX5_readsWord_4 rfl ?_
  refine x_iconst (v := 3) C dX5_readsWord_5 (by decide) ?_
  refine x_ic_ge C 55 dX5_readsWord_6 (by decide) (fun _ => ?_) (fun h => absurd (by decide) h)
  refine x_aload_n C dX5_readsWord_55 rfl ?_
  refine x_iload_n C dX5_readsWord_56 rfl ?_
  refine x_iconst (v := 1) C dX5_readsWord_57 (by decide) ?_
  refine x_ic_ne C 65 dX5_readsWord_58 (by decide) (fun _ => ?_) (fun h => absurd h (by decide))
  refine x_iload_n C dX5_readsWord_65 rfl ?_
  refine x_iconst (v := 2) C dX5_readsWord_66 (by decide) ?_
  refine x_ic_ne C 76 dX5_readsWord_67 (by decide) (fun _ => ?_) (fun h => absurd h (by decide))
  refine x_iload_n C dX5_readsWord_76 rfl ?_
  refine x_bipush (v := 6) C dX5_readsWord_77 (by decide) ?_
  refine x_iadd C dX5_readsWord_79 ?_
  refine x_put (ty := .int) C kf_X5_162 mput_0 rfl (by decide +kernel) rfl rfl (Nat.le_of_ble_eq_true rfl) (mput_s8 _) dX5_readsWord_80 ?_
  refine x_iload_n C dX5_readsWord_83 rfl ?_
  refine x_if_le C 91 dX5_readsWord_84 (by decide) (fun h => absurd h (by decide)) (fun _ => ?_)
  refine x_iconst (v := 1) C dX5_readsWord_87 (by decide) ?_
  refine x_goto C 92 dX5_readsWord_88 (by decide) ?_
  exact x_zret C Z dX5_readsWord_92 rfl (Nat.le_of_ble_eq_true rfl) (Nat.le_of_ble_eq_true rfl) rfl (by rw [upd_u, upd_u]; rfl) rfl
set_option maxRecDepth 100000 in
set_option maxHeartbeats 1000000 in
theorem c_X5_readsWord_001 {l : Launch} {E : xEnv} {B N : Nat} {σ : Sg} {M : Nat} {U : Vs} {kp ho tx sc : Fn} {n : Nat} (hn : n ≤ 80) (h1 : sc 1 = nI n) {a : Nat} (ha : a < 2 ^ 30) (h4 : sc 4 = nI a) (e0 : chM n tx a = 119) (e1 : chM n tx (a + 1) = 119) (e2 : chM n tx (a + 2) = 110) : xM l yX5_readsWord cX5_readsWord 3 (some .boolean) 2 41 0 0 E B [.ref M] N (mput E σ M U kp ho tx sc) N (mput E σ M U kp ho tx (upd (upd sc 4 (nI (a + 3))) 8 (nI 7))) (some (.int 1)) := by
  refine xM_of [some (.ref _), none, none] (by decide +kernel) (Nat.le_of_ble_eq_true rfl) rfl (fun k0 C Z => ?_)
  refine x_iconst (v := 0) C dX5_readsWord_0 (by decide) ?_
  refine x_istore_n C dX5_readsWord_1 (by decide) rfl ?_
  refine x_iconst (v := 0) C dX5_readsWord_2 (by decide) ?_
  refine x_istore_n C dX5_readsWord_3 (by decide) rfl ?_
  refine x_iload_n C dX5_readsWord_4 rfl ?_
  refine x_iconst (v := 3) C dX5_readsWord_5 (by decide) ?_
  refine x_ic_ge C 55 dX5_readsWord_6 (by decide) (fun h => absurd h (by decide)) (fun _ => ?_)
  refine x_aload_n C dX5_readsWord_9 rfl ?_
  refine x_callV C (c_X5_isGesture (a := a) hn h1 (by omega) h4) kv_X5_isGesture kl_X5_158 dX5_readsWord_10 mput_0 rfl rfl rfl rfl (Nat.le_of_ble_eq_true rfl) (Nat.le_of_ble_eq_true rfl) (Nat.le_of_ble_eq_true rfl) (Nat.le_of_ble_eq_true rfl) (Nat.le_of_ble_eq_true rfl) ?_
  refine x_beq C 55 dX5_readsWord_13 (by decide) (fun h => absurd (Or.inl e0) h) (fun _ => ?_)
  refine x_iconst (v := 2) C dX5_readsWord_16 (by decide) ?_
  refine x_iload_n C dX5_readsWord_17 rfl ?_
  refine x_imul C dX5_readsWord_18 ?_
  refine x_aload_n C dX5_readsWord_19 rfl ?_
  refine x_aload_n C dX5_readsWord_20 rfl ?_
  refine x_get C kf_X5_149 mput_0 rfl dX5_readsWord_21 ?_
  rw [h4]
  refine x_callV C (c_X5_character (j := a) hn h1 (by omega)) kv_X5_character kl_X5_152 dX5_readsWord_24 mput_0 rfl rfl rfl rfl (Nat.le_of_ble_eq_true rfl) (Nat.le_of_ble_eq_true rfl) (Nat.le_of_ble_eq_true rfl) (Nat.le_of_ble_eq_true rfl) (Nat.le_of_ble_eq_true rfl) ?_
  refine x_bipush (v := 110) C dX5_readsWord_27 (by decide) ?_
  refine x_ic_ne C 36 dX5_readsWord_29 (by decide) (fun _ => ?_) (fun h => absurd h (by rw [e0]; decide))
  refine x_iconst (v := 0) C dX5_readsWord_36 (by decide) ?_
  refine x_iadd C dX5_readsWord_37 ?_
  refine x_istore_n C dX5_readsWord_38 (by decide) rfl ?_
  refine x_iinc C dX5_readsWord_39 rfl (inc1 _) (by decide) rfl ?_
  refine x_aload_n C dX5_readsWord_42 rfl ?_
  refine x_dup C dX5_readsWord_43 rfl ?_
  refine x_get C kf_X5_149 mput_0 rfl dX5_readsWord_44 ?_
  rw [h4]
  refine x_iconst (v := 1) C dX5_readsWord_47 (by decide) ?_
  refine x_iadd C dX5_readsWord_48 ?_
  rw [show nI a + 1 = nI (a + 1) from nI_1 _]
  refine x_put (ty := .int) C kf_X5_149 mput_0 rfl (by decide +kernel) rfl rfl (Nat.le_of_ble_eq_true rfl) (mput_s4 _) dX5_readsWord_49 ?_
  refine x_goto C 4 dX5_readsWord_52 (by decide) ?_
  refine x_iload_n C dX5_readsWord_4 rfl ?_
  refine x_iconst (v := 3) C dX5_readsWord_5 (by decide) ?_
  refine x_ic_ge C 55 dX5_readsWord_6 (by decide) (fun h => absurd h (by decide)) (fun _ => ?_)
  refine x_aload_n C dX5_readsWord_9 rfl ?_
  refine x_callV C (c_X5_isGesture (a := a + 1) hn (by simp [upd, h1]) (by omega) (by simp [upd])) kv_X5_isGesture kl_X5_158 dX5_readsWord_10 mput_0 rfl rfl rfl rfl (Nat.le_of_ble_eq_true rfl) (Nat.le_of_ble_eq_true rfl) (Nat.le_of_ble_eq_true rfl) (Nat.le_of_ble_eq_true rfl) (Nat.le_of_ble_eq_true rfl) ?_
  refine x_beq C 55 dX5_readsWord_13 (by decide) (fun h => absurd (Or.inl e1) h) (fun _ => ?_)
  refine x_iconst (v := 2) C dX5_readsWord_16 (by decide) ?_
  refine x_iload_n C dX5_readsWord_17 rfl ?_
  refine x_imul C dX5_readsWord_18 ?_
  refine x_aload_n C dX5_readsWord_19 rfl ?_
  refine x_aload_n C dX5_readsWord_20 rfl ?_
  refine x_get C kf_X5_149 mput_0 rfl dX5_readsWord_21 ?_
  rw [pk_us]
  refine x_callV C (c_X5_character (j := a + 1) hn (by simp [upd, h1]) (by omega)) kv_X5_character kl_X5_152 dX5_readsWord_24 mput_0 rfl rfl rfl rfl (Nat.le_of_ble_eq_true rfl) (Nat.le_of_ble_eq_true rfl) (Nat.le_of_ble_eq_true rfl) (Nat.le_of_ble_eq_true rfl) (Nat.le_of_ble_eq_true rfl) ?_
  refine x_bipush (v := 110) C dX5_readsWord_27 (by decide) ?_
  refine x_ic_ne C 36 dX5_readsWord_29 (by decide) (fun _ => ?_) (fun h => absurd h (by rw [e1]; decide))
  refine x_iconst (v := 0) C dX5_readsWord_36 (by decide) ?_
  refine x_iadd C dX5_readsWord_37 ?_
  refine x_istore_n C dX5_readsWord_38 (by decide) rfl ?_
  refine x_iinc C dX5_readsWord_39 rfl (inc1 _) (by decide) rfl ?_
  refine x_aload_n C dX5_readsWord_42 rfl ?_
  refine x_dup C dX5_readsWord_43 rfl ?_
  refine x_get C kf_X5_149 mput_0 rfl dX5_readsWord_44 ?_
  rw [pk_us]
  refine x_iconst (v := 1) C dX5_readsWord_47 (by decide) ?_
  refine x_iadd C dX5_readsWord_48 ?_
  rw [show nI (a + 1) + 1 = nI (a + 2) from nI_1 _]
  refine x_put (ty := .int) C kf_X5_149 mput_0 rfl (by decide +kernel) rfl rfl (Nat.le_of_ble_eq_true rfl) (mput_s4 _) dX5_readsWord_49 ?_
  refine x_goto C 4 dX5_readsWord_52 (by decide) ?_
  refine x_iload_n C dX5_readsWord_4 rfl ?_
  refine x_iconst (v := 3) C dX5_readsWord_5 (by decide) ?_
  refine x_ic_ge C 55 dX5_readsWord_6 (by decide) (fun h => absurd h (by decide)) (fun _ => ?_)
  refine x_aload_n C dX5_readsWord_9 rfl ?_
  refine x_callV C (c_X5_isGesture (a := a + 2) hn (by simp [upd, h1]) (by omega) (by simp [upd])) kv_X5_isGesture kl_X5_158 dX5_readsWord_10 mput_0 rfl rfl rfl rfl (Nat.le_of_ble_eq_true rfl) (Nat.le_of_ble_eq_true rfl) (Nat.le_of_ble_eq_true rfl) (Nat.le_of_ble_eq_true rfl) (Nat.le_of_ble_eq_true rfl) ?_
  refine x_beq C 55 dX5_readsWord_13 (by decide) (fun h => absurd (Or.inr e2) h) (fun _ => ?_)
  refine x_iconst (v := 2) C dX5_readsWord_16 (by decide) ?_
  refine x_iload_n C dX5_readsWord_17 rfl ?_
  refine x_imul C dX5_readsWord_18 ?_
  refine x_aload_n C dX5_readsWord_19 rfl ?_
  refine x_aload_n C dX5_readsWord_20 rfl ?_
  refine x_get C kf_X5_149 mput_0 rfl dX5_readsWord_21 ?_
  rw [pk_us]
  refine x_callV C (c_X5_character (j := a + 2) hn (by simp [upd, h1]) (by omega)) kv_X5_character kl_X5_152 dX5_readsWord_24 mput_0 rfl rfl rfl rfl (Nat.le_of_ble_eq_true rfl) (Nat.le_of_ble_eq_true rfl) (Nat.le_of_ble_eq_true rfl) (Nat.le_of_ble_eq_true rfl) (Nat.le_of_ble_eq_true rfl) ?_
  refine x_bipush (v := 110) C dX5_readsWord_27 (by decide) ?_
  refine x_ic_ne C 36 dX5_readsWord_29 (by decide) (fun h => absurd e2 h) (fun _ => ?_)
  refine x_iconst (v := 1) C dX5_readsWord_32 (by decide) ?_
  refine x_goto C 37 dX5_readsWord_33 (by decide) ?_
  refine x_iadd C dX5_readsWord_37 ?_
  refine x_istore_n C dX5_readsWord_38 (by decide) rfl ?_
  refine x_iinc C dX5_readsWord_39 rfl (inc1 _) (by decide) rfl ?_
  refine x_aload_n C dX5_readsWord_42 rfl ?_
  refine x_dup C dX5_readsWord_43 rfl ?_
  refine x_get C kf_X5_149 mput_0 rfl dX5_readsWord_44 ?_
  rw [pk_us]
  refine x_iconst (v := 1) C dX5_readsWord_47 (by decide) ?_
  refine x_iadd C dX5_readsWord_48 ?_
  rw [show nI (a + 2) + 1 = nI (a + 3) from nI_1 _]
  refine x_put (ty := .int) C kf_X5_149 mput_0 rfl (by decide +kernel) rfl rfl (Nat.le_of_ble_eq_true rfl) (mput_s4 _) dX5_readsWord_49 ?_
  refine x_goto C 4 dX5_readsWord_52 (by decide) ?_
  refine x_iload_n C dX5_readsWord_4 rfl ?_
  refine x_iconst (v := 3) C dX5_readsWord_5 (by decide) ?_
  refine x_ic_ge C 55 dX5_readsWord_6 (by decide) (fun _ => ?_) (fun h => absurd (by decide) h)
  refine x_aload_n C dX5_readsWord_55 rfl ?_
  refine x_iload_n C dX5_readsWord_56 rfl ?_
  refine x_iconst (v := 1) C dX5_readsWord_57 (by decide) ?_
  refine x_ic_ne C 65 dX5_readsWord_58 (by decide) (fun _ => ?_) (fun h => absurd h (by decide))
  refine x_iload_n C dX5_readsWord_65 rfl ?_
  refine x_iconst (v := 2) C dX5_readsWord_66 (by decide) ?_
  refine x_ic_ne C 76 dX5_readsWord_67 (by decide) (fun _ => ?_) (fun h => absurd h (by decide))
  refine x_iload_n C dX5_readsWord_76 rfl ?_
  refine x_bipush (v := 6) C dX5_readsWord_77 (by decide) ?_
  refine x_iadd C dX5_readsWord_79 ?_
  refine x_put (ty := .int) C kf_X5_162 mput_0 rfl (by decide +kernel) rfl rfl (Nat.le_of_ble_eq_true rfl) (mput_s8 _) dX5_readsWord_80 ?_
  refine x_iload_n C dX5_readsWord_83 rfl ?_
  refine x_if_le C 91 dX5_readsWord_84 (by decide) (fun h => absurd h (by decide)) (fun _ => ?_)
  refine x_iconst (v := 1) C dX5_readsWord_87 (by decide) ?_
  refine x_goto C 92 dX5_readsWord_88 (by decide) ?_
  exact x_zret C Z dX5_readsWord_92 rfl (Nat.le_of_ble_eq_true rfl) (Nat.le_of_ble_eq_true rfl) rfl (by rw [upd_u, upd_u]; rfl) rfl
set_option maxRecDepth 100000 in
set_option maxHeartbeats 1000000 in
theorem c_X5_readsWord_010 {l : Launch} {E : xEnv} {B N : Nat} {σ : Sg} {M : Nat} {U : Vs} {kp ho tx sc : Fn} {n : Nat} (hn : n ≤ 80) (h1 : sc 1 = nI n) {a : Nat} (ha : a < 2 ^ 30) (h4 : sc 4 = nI a) (e0 : chM n tx a = 119) (e1 : chM n tx (a + 1) = 110) (e2 : chM n tx (a + 2) = 119) : xM l yX5_readsWord cX5_readsWord 3 (some .boolean) 2 41 0 0 E B [.ref M] N (mput E σ M U kp ho tx sc) N (mput E σ M U kp ho tx (upd (upd sc 4 (nI (a + 3))) 8 (nI 8))) (some (.int 1)) := by
  refine xM_of [some (.ref _), none, none] (by decide +kernel) (Nat.le_of_ble_eq_true rfl) rfl (fun k0 C Z => ?_)
  refine x_iconst (v := 0) C dX5_readsWord_0 (by decide) ?_
  refine x_istore_n C dX5_readsWord_1 (by decide) rfl ?_
  refine x_iconst (v := 0) C dX5_readsWord_2 (by decide) ?_
  refine x_istore_n C dX5_readsWord_3 (by decide) rfl ?_
  refine x_iload_n C dX5_readsWord_4 rfl ?_
  refine x_iconst (v := 3) C dX5_readsWord_5 (by decide) ?_
  refine x_ic_ge C 55 dX5_readsWord_6 (by decide) (fun h => absurd h (by decide)) (fun _ => ?_)
  refine x_aload_n C dX5_readsWord_9 rfl ?_
  refine x_callV C (c_X5_isGesture (a := a) hn h1 (by omega) h4) kv_X5_isGesture kl_X5_158 dX5_readsWord_10 mput_0 rfl rfl rfl rfl (Nat.le_of_ble_eq_true rfl) (Nat.le_of_ble_eq_true rfl) (Nat.le_of_ble_eq_true rfl) (Nat.le_of_ble_eq_true rfl) (Nat.le_of_ble_eq_true rfl) ?_
  refine x_beq C 55 dX5_readsWord_13 (by decide) (fun h => absurd (Or.inl e0) h) (fun _ => ?_)
  refine x_iconst (v := 2) C dX5_readsWord_16 (by decide) ?_
  refine x_iload_n C dX5_readsWord_17 rfl ?_
  refine x_imul C dX5_readsWord_18 ?_
  refine x_aload_n C dX5_readsWord_19 rfl ?_
  refine x_aload_n C dX5_readsWord_20 rfl ?_
  refine x_get C kf_X5_149 mput_0 rfl dX5_readsWord_21 ?_
  rw [h4]
  refine x_callV C (c_X5_character (j := a) hn h1 (by omega)) kv_X5_character kl_X5_152 dX5_readsWord_24 mput_0 rfl rfl rfl rfl (Nat.le_of_ble_eq_true rfl) (Nat.le_of_ble_eq_true rfl) (Nat.le_of_ble_eq_true rfl) (Nat.le_of_ble_eq_true rfl) (Nat.le_of_ble_eq_true rfl) ?_
  refine x_bipush (v := 110) C dX5_readsWord_27 (by decide) ?_
  refine x_ic_ne C 36 dX5_readsWord_29 (by decide) (fun _ => ?_) (fun h => absurd h (by rw [e0]; decide))
  refine x_iconst (v := 0) C dX5_readsWord_36 (by decide) ?_
  refine x_iadd C dX5_readsWord_37 ?_
  refine x_istore_n C dX5_readsWord_38 (by decide) rfl ?_
  refine x_iinc C dX5_readsWord_39 rfl (inc1 _) (by decide) rfl ?_
  refine x_aload_n C dX5_readsWord_42 rfl ?_
  refine x_dup C dX5_readsWord_43 rfl ?_
  refine x_get C kf_X5_149 mput_0 rfl dX5_readsWord_44 ?_
  rw [h4]
  refine x_iconst (v := 1) C dX5_readsWord_47 (by decide) ?_
  refine x_iadd C dX5_readsWord_48 ?_
  rw [show nI a + 1 = nI (a + 1) from nI_1 _]
  refine x_put (ty := .int) C kf_X5_149 mput_0 rfl (by decide +kernel) rfl rfl (Nat.le_of_ble_eq_true rfl) (mput_s4 _) dX5_readsWord_49 ?_
  refine x_goto C 4 dX5_readsWord_52 (by decide) ?_
  refine x_iload_n C dX5_readsWord_4 rfl ?_
  refine x_iconst (v := 3) C dX5_readsWord_5 (by decide) ?_
  refine x_ic_ge C 55 dX5_readsWord_6 (by decide) (fun h => absurd h (by decide)) (fun _ => ?_)
  refine x_aload_n C dX5_readsWord_9 rfl ?_
  refine x_callV C (c_X5_isGesture (a := a + 1) hn (by simp [upd, h1]) (by omega) (by simp [upd])) kv_X5_isGesture kl_X5_158 dX5_readsWord_10 mput_0 rfl rfl rfl rfl (Nat.le_of_ble_eq_true rfl) (Nat.le_of_ble_eq_true rfl) (Nat.le_of_ble_eq_true rfl) (Nat.le_of_ble_eq_true rfl) (Nat.le_of_ble_eq_true rfl) ?_
  refine x_beq C 55 dX5_readsWord_13 (by decide) (fun h => absurd (Or.inr e1) h) (fun _ => ?_)
  refine x_iconst (v := 2) C dX5_readsWord_16 (by decide) ?_
  refine x_iload_n C dX5_readsWord_17 rfl ?_
  refine x_imul C dX5_readsWord_18 ?_
  refine x_aload_n C dX5_readsWord_19 rfl ?_
  refine x_aload_n C dX5_readsWord_20 rfl ?_
  refine x_get C kf_X5_149 mput_0 rfl dX5_readsWord_21 ?_
  rw [pk_us]
  refine x_callV C (c_X5_character (j := a + 1) hn (by simp [upd, h1]) (by omega)) kv_X5_character kl_X5_152 dX5_readsWord_24 mput_0 rfl rfl rfl rfl (Nat.le_of_ble_eq_true rfl) (Nat.le_of_ble_eq_true rfl) (Nat.le_of_ble_eq_true rfl) (Nat.le_of_ble_eq_true rfl) (Nat.le_of_ble_eq_true rfl) ?_
  refine x_bipush (v := 110) C dX5_readsWord_27 (by decide) ?_
  refine x_ic_ne C 36 dX5_readsWord_29 (by decide) (fun h => absurd e1 h) (fun _ => ?_)
  refine x_iconst (v := 1) C dX5_readsWord_32 (by decide) ?_
  refine x_goto C 37 dX5_readsWord_33 (by decide) ?_
  refine x_iadd C dX5_readsWord_37 ?_
  refine x_istore_n C dX5_readsWord_38 (by decide) rfl ?_
  refine x_iinc C dX5_readsWord_39 rfl (inc1 _) (by decide) rfl ?_
  refine x_aload_n C dX5_readsWord_42 rfl ?_
  refine x_dup C dX5_readsWord_43 rfl ?_
  refine x_get C kf_X5_149 mput_0 rfl dX5_readsWord_44 ?_
  rw [pk_us]
  refine x_iconst (v := 1) C dX5_readsWord_47 (by decide) ?_
  refine x_iadd C dX5_readsWord_48 ?_
  rw [show nI (a + 1) + 1 = nI (a + 2) from nI_1 _]
  refine x_put (ty := .int) C kf_X5_149 mput_0 rfl (by decide +kernel) rfl rfl (Nat.le_of_ble_eq_true rfl) (mput_s4 _) dX5_readsWord_49 ?_
  refine x_goto C 4 dX5_readsWord_52 (by decide) ?_
  refine x_iload_n C dX5_readsWord_4 rfl ?_
  refine x_iconst (v := 3) C dX5_readsWord_5 (by decide) ?_
  refine x_ic_ge C 55 dX5_readsWord_6 (by decide) (fun h => absurd h (by decide)) (fun _ => ?_)
  refine x_aload_n C dX5_readsWord_9 rfl ?_
  refine x_callV C (c_X5_isGesture (a := a + 2) hn (by simp [upd, h1]) (by omega) (by simp [upd])) kv_X5_isGesture kl_X5_158 dX5_readsWord_10 mput_0 rfl rfl rfl rfl (Nat.le_of_ble_eq_true rfl) (Nat.le_of_ble_eq_true rfl) (Nat.le_of_ble_eq_true rfl) (Nat.le_of_ble_eq_true rfl) (Nat.le_of_ble_eq_true rfl) ?_
  refine x_beq C 55 dX5_readsWord_13 (by decide) (fun h => absurd (Or.inl e2) h) (fun _ => ?_)
  refine x_iconst (v := 2) C dX5_readsWord_16 (by decide) ?_
  refine x_iload_n C dX5_readsWord_17 rfl ?_
  refine x_imul C dX5_readsWord_18 ?_
  refine x_aload_n C dX5_readsWord_19 rfl ?_
  refine x_aload_n C dX5_readsWord_20 rfl ?_
  refine x_get C kf_X5_149 mput_0 rfl dX5_readsWord_21 ?_
  rw [pk_us]
  refine x_callV C (c_X5_character (j := a + 2) hn (by simp [upd, h1]) (by omega)) kv_X5_character kl_X5_152 dX5_readsWord_24 mput_0 rfl rfl rfl rfl (Nat.le_of_ble_eq_true rfl) (Nat.le_of_ble_eq_true rfl) (Nat.le_of_ble_eq_true rfl) (Nat.le_of_ble_eq_true rfl) (Nat.le_of_ble_eq_true rfl) ?_
  refine x_bipush (v := 110) C dX5_readsWord_27 (by decide) ?_
  refine x_ic_ne C 36 dX5_readsWord_29 (by decide) (fun _ => ?_) (fun h => absurd h (by rw [e2]; decide))
  refine x_iconst (v := 0) C dX5_readsWord_36 (by decide) ?_
  refine x_iadd C dX5_readsWord_37 ?_
  refine x_istore_n C dX5_readsWord_38 (by decide) rfl ?_
  refine x_iinc C dX5_readsWord_39 rfl (inc1 _) (by decide) rfl ?_
  refine x_aload_n C dX5_readsWord_42 rfl ?_
  refine x_dup C dX5_readsWord_43 rfl ?_
  refine x_get C kf_X5_149 mput_0 rfl dX5_readsWord_44 ?_
  rw [pk_us]
  refine x_iconst (v := 1) C dX5_readsWord_47 (by decide) ?_
  refine x_iadd C dX5_readsWord_48 ?_
  rw [show nI (a + 2) + 1 = nI (a + 3) from nI_1 _]
  refine x_put (ty := .int) C kf_X5_149 mput_0 rfl (by decide +kernel) rfl rfl (Nat.le_of_ble_eq_true rfl) (mput_s4 _) dX5_readsWord_49 ?_
  refine x_goto C 4 dX5_readsWord_52 (by decide) ?_
  refine x_iload_n C dX5_readsWord_4 rfl ?_
  refine x_iconst (v := 3) C dX5_readsWord_5 (by decide) ?_
  refine x_ic_ge C 55 dX5_readsWord_6 (by decide) (fun _ => ?_) (fun h => absurd (by decide) h)
  refine x_aload_n C dX5_readsWord_55 rfl ?_
  refine x_iload_n C dX5_readsWord_56 rfl ?_
  refine x_iconst (v := 1) C dX5_readsWord_57 (by decide) ?_
  refine x_ic_ne C 65 dX5_readsWord_58 (by decide) (fun _ => ?_) (fun h => absurd h (by decide))
  refine x_iload_n C dX5_readsWord_65 rfl ?_
  refine x_iconst (v := 2) C dX5_readsWord_66 (by decide) ?_
  refine x_ic_ne C 76 dX5_readsWord_67 (by decide) (fun _ => ?_) (fun h => absurd h (by decide))
  refine x_iload_n C dX5_readsWord_76 rfl ?_
  refine x_bipush (v := 6) C dX5_readsWord_77 (by decide) ?_
  refine x_iadd C dX5_readsWord_79 ?_
  refine x_put (ty := .int) C kf_X5_162 mput_0 rfl (by decide +kernel) rfl rfl (Nat.le_of_ble_eq_true rfl) (mput_s8 _) dX5_readsWord_80 ?_
  refine x_iload_n C dX5_readsWord_83 rfl ?_
  refine x_if_le C 91 dX5_readsWord_84 (by decide) (fun h => absurd h (by decide)) (fun _ => ?_)
  refine x_iconst (v := 1) C dX5_readsWord_87 (by decide) ?_
  refine x_goto C 92 dX5_readsWord_88 (by decide) ?_
  exact x_zret C Z dX5_readsWord_92 rfl (Nat.le_of_ble_eq_true rfl) (Nat.le_of_ble_eq_true rfl) rfl (by rw [upd_u, upd_u]; rfl) rfl
set_option maxRecDepth 100000 in
set_option maxHeartbeats 1000000 in
theorem c_X5_readsWord_011 {l : Launch} {E : xEnv} {B N : Nat} {σ : Sg} {M : Nat} {U : Vs} {kp ho tx sc : Fn} {n : Nat} (hn : n ≤ 80) (h1 : sc 1 = nI n) {a : Nat} (ha : a < 2 ^ 30) (h4 : sc 4 = nI a) (e0 : chM n tx a = 119) (e1 : chM n tx (a + 1) = 110) (e2 : chM n tx (a + 2) = 110) : xM l yX5_readsWord cX5_readsWord 3 (some .boolean) 2 41 0 0 E B [.ref M] N (mput E σ M U kp ho tx sc) N (mput E σ M U kp ho tx (upd (upd sc 4 (nI (a + 3))) 8 (nI 9))) (some (.int 1)) := by
  refine xM_of [some (.ref _), none, none] (by decide +kernel) (Nat.le_of_ble_eq_true rfl) rfl (fun k0 C Z => ?_)
  refine x_iconst (v := 0) C dX5_readsWord_0 (by decide) ?_
  refine x_istore_n C dX5_readsWord_1 (by decide) rfl ?_
  refine x_iconst (v := 0) C dX5_readsWord_2 (by decide) ?_
  refine x_istore_n C dX5_readsWord_3 (by decide) rfl ?_
  refine x_iload_n C dX5_readsWord_4 rfl ?_
  refine x_iconst (v := 3) C dX5_readsWord_5 (by decide) ?_
  refine x_ic_ge C 55 dX5_readsWord_6 (by decide) (fun h => absurd h (by decide)) (fun _ => ?_)
  refine x_aload_n C dX5_readsWord_9 rfl ?_
  refine x_callV C (c_X5_isGesture (a := a) hn h1 (by omega) h4) kv_X5_isGesture kl_X5_158 dX5_readsWord_10 mput_0 rfl rfl rfl rfl (Nat.le_of_ble_eq_true rfl) (Nat.le_of_ble_eq_true rfl) (Nat.le_of_ble_eq_true rfl) (Nat.le_of_ble_eq_true rfl) (Nat.le_of_ble_eq_true rfl) ?_
  refine x_beq C 55 dX5_readsWord_13 (by decide) (fun h => absurd (Or.inl e0) h) (fun _ => ?_)
  refine x_iconst (v := 2) C dX5_readsWord_16 (by decide) ?_
  refine x_iload_n C dX5_readsWord_17 rfl ?_
  refine x_imul C dX5_readsWord_18 ?_
  refine x_aload_n C dX5_readsWord_19 rfl ?_
  refine x_aload_n C dX5_readsWord_20 rfl ?_
  refine x_get C kf_X5_149 mput_0 rfl dX5_readsWord_21 ?_
  rw [h4]
  refine x_callV C (c_X5_character (j := a) hn h1 (by omega)) kv_X5_character kl_X5_152 dX5_readsWord_24 mput_0 rfl rfl rfl rfl (Nat.le_of_ble_eq_true rfl) (Nat.le_of_ble_eq_true rfl) (Nat.le_of_ble_eq_true rfl) (Nat.le_of_ble_eq_true rfl) (Nat.le_of_ble_eq_true rfl) ?_
  refine x_bipush (v := 110) C dX5_readsWord_27 (by decide) ?_
  refine x_ic_ne C 36 dX5_readsWord_29 (by decide) (fun _ => ?_) (fun h => absurd h (by rw [e0]; decide))
  refine x_iconst (v := 0) C dX5_readsWord_36 (by decide) ?_
  refine x_iadd C dX5_readsWord_37 ?_
  refine x_istore_n C dX5_readsWord_38 (by decide) rfl ?_
  refine x_iinc C dX5_readsWord_39 rfl (inc1 _) (by decide) rfl ?_
  refine x_aload_n C dX5_readsWord_42 rfl ?_
  refine x_dup C dX5_readsWord_43 rfl ?_
  refine x_get C kf_X5_149 mput_0 rfl dX5_readsWord_44 ?_
  rw [h4]
  refine x_iconst (v := 1) C dX5_readsWord_47 (by decide) ?_
  refine x_iadd C dX5_readsWord_48 ?_
  rw [show nI a + 1 = nI (a + 1) from nI_1 _]
  refine x_put (ty := .int) C kf_X5_149 mput_0 rfl (by decide +kernel) rfl rfl (Nat.le_of_ble_eq_true rfl) (mput_s4 _) dX5_readsWord_49 ?_
  refine x_goto C 4 dX5_readsWord_52 (by decide) ?_
  refine x_iload_n C dX5_readsWord_4 rfl ?_
  refine x_iconst (v := 3) C dX5_readsWord_5 (by decide) ?_
  refine x_ic_ge C 55 dX5_readsWord_6 (by decide) (fun h => absurd h (by decide)) (fun _ => ?_)
  refine x_aload_n C dX5_readsWord_9 rfl ?_
  refine x_callV C (c_X5_isGesture (a := a + 1) hn (by simp [upd, h1]) (by omega) (by simp [upd])) kv_X5_isGesture kl_X5_158 dX5_readsWord_10 mput_0 rfl rfl rfl rfl (Nat.le_of_ble_eq_true rfl) (Nat.le_of_ble_eq_true rfl) (Nat.le_of_ble_eq_true rfl) (Nat.le_of_ble_eq_true rfl) (Nat.le_of_ble_eq_true rfl) ?_
  refine x_beq C 55 dX5_readsWord_13 (by decide) (fun h => absurd (Or.inr e1) h) (fun _ => ?_)
  refine x_iconst (v := 2) C dX5_readsWord_16 (by decide) ?_
  refine x_iload_n C dX5_readsWord_17 rfl ?_
  refine x_imul C dX5_readsWord_18 ?_
  refine x_aload_n C dX5_readsWord_19 rfl ?_
  refine x_aload_n C dX5_readsWord_20 rfl ?_
  refine x_get C kf_X5_149 mput_0 rfl dX5_readsWord_21 ?_
  rw [pk_us]
  refine x_callV C (c_X5_character (j := a + 1) hn (by simp [upd, h1]) (by omega)) kv_X5_character kl_X5_152 dX5_readsWord_24 mput_0 rfl rfl rfl rfl (Nat.le_of_ble_eq_true rfl) (Nat.le_of_ble_eq_true rfl) (Nat.le_of_ble_eq_true rfl) (Nat.le_of_ble_eq_true rfl) (Nat.le_of_ble_eq_true rfl) ?_
  refine x_bipush (v := 110) C dX5_readsWord_27 (by decide) ?_
  refine x_ic_ne C 36 dX5_readsWord_29 (by decide) (fun h => absurd e1 h) (fun _ => ?_)
  refine x_iconst (v := 1) C dX5_readsWord_32 (by decide) ?_
  refine x_goto C 37 dX5_readsWord_33 (by decide) ?_
  refine x_iadd C dX5_readsWord_37 ?_
  refine x_istore_n C dX5_readsWord_38 (by decide) rfl ?_
  refine x_iinc C dX5_readsWord_39 rfl (inc1 _) (by decide) rfl ?_
  refine x_aload_n C dX5_readsWord_42 rfl ?_
  refine x_dup C dX5_readsWord_43 rfl ?_
  refine x_get C kf_X5_149 mput_0 rfl dX5_readsWord_44 ?_
  rw [pk_us]
  refine x_iconst (v := 1) C dX5_readsWord_47 (by decide) ?_
  refine x_iadd C dX5_readsWord_48 ?_
  rw [show nI (a + 1) + 1 = nI (a + 2) from nI_1 _]
  refine x_put (ty := .int) C kf_X5_149 mput_0 rfl (by decide +kernel) rfl rfl (Nat.le_of_ble_eq_true rfl) (mput_s4 _) dX5_readsWord_49 ?_
  refine x_goto C 4 dX5_readsWord_52 (by decide) ?_
  refine x_iload_n C dX5_readsWord_4 rfl ?_
  refine x_iconst (v := 3) C dX5_readsWord_5 (by decide) ?_
  refine x_ic_ge C 55 dX5_readsWord_6 (by decide) (fun h => absurd h (by decide)) (fun _ => ?_)
  refine x_aload_n C dX5_readsWord_9 rfl ?_
  refine x_callV C (c_X5_isGesture (a := a + 2) hn (by simp [upd, h1]) (by omega) (by simp [upd])) kv_X5_isGesture kl_X5_158 dX5_readsWord_10 mput_0 rfl rfl rfl rfl (Nat.le_of_ble_eq_true rfl) (Nat.le_of_ble_eq_true rfl) (Nat.le_of_ble_eq_true rfl) (Nat.le_of_ble_eq_true rfl) (Nat.le_of_ble_eq_true rfl) ?_
  refine x_beq C 55 dX5_readsWord_13 (by decide) (fun h => absurd (Or.inr e2) h) (fun _ => ?_)
  refine x_iconst (v := 2) C dX5_readsWord_16 (by decide) ?_
  refine x_iload_n C dX5_readsWord_17 rfl ?_
  refine x_imul C dX5_readsWord_18 ?_
  refine x_aload_n C dX5_readsWord_19 rfl ?_
  refine x_aload_n C dX5_readsWord_20 rfl ?_
  refine x_get C kf_X5_149 mput_0 rfl dX5_readsWord_21 ?_
  rw [pk_us]
  refine x_callV C (c_X5_character (j := a + 2) hn (by simp [upd, h1]) (by omega)) kv_X5_character kl_X5_152 dX5_readsWord_24 mput_0 rfl rfl rfl rfl (Nat.le_of_ble_eq_true rfl) (Nat.le_of_ble_eq_true rfl) (Nat.le_of_ble_eq_true rfl) (Nat.le_of_ble_eq_true rfl) (Nat.le_of_ble_eq_true rfl) ?_
  refine x_bipush (v := 110) C dX5_readsWord_27 (by decide) ?_
  refine x_ic_ne C 36 dX5_readsWord_29 (by decide) (fun h => absurd e2 h) (fun _ => ?_)
  refine x_iconst (v := 1) C dX5_readsWord_32 (by decide) ?_
  refine x_goto C 37 dX5_readsWord_33 (by decide) ?_
  refine x_iadd C dX5_readsWord_37 ?_
  refine x_istore_n C dX5_readsWord_38 (by decide) rfl ?_
  refine x_iinc C dX5_readsWord_39 rfl (inc1 _) (by decide) rfl ?_
  refine x_aload_n C dX5_readsWord_42 rfl ?_
  refine x_dup C dX5_readsWord_43 rfl ?_
  refine x_get C kf_X5_149 mput_0 rfl dX5_readsWord_44 ?_
  rw [pk_us]
  refine x_iconst (v := 1) C dX5_readsWord_47 (by decide) ?_
  refine x_iadd C dX5_readsWord_48 ?_
  rw [show nI (a + 2) + 1 = nI (a + 3) from nI_1 _]
  refine x_put (ty := .int) C kf_X5_149 mput_0 rfl (by decide +kernel) rfl rfl (Nat.le_of_ble_eq_true rfl) (mput_s4 _) dX5_readsWord_49 ?_
  refine x_goto C 4 dX5_readsWord_52 (by decide) ?_
  refine x_iload_n C dX5_readsWord_4 rfl ?_
  refine x_iconst (v := 3) C dX5_readsWord_5 (by decide) ?_
  refine x_ic_ge C 55 dX5_readsWord_6 (by decide) (fun _ => ?_) (fun h => absurd (by decide) h)
  refine x_aload_n C dX5_readsWord_55 rfl ?_
  refine x_iload_n C dX5_readsWord_56 rfl ?_
  refine x_iconst (v := 1) C dX5_readsWord_57 (by decide) ?_
  refine x_ic_ne C 65 dX5_readsWord_58 (by decide) (fun _ => ?_) (fun h => absurd h (by decide))
  refine x_iload_n C dX5_readsWord_65 rfl ?_
  refine x_iconst (v := 2) C dX5_readsWord_66 (by decide) ?_
  refine x_ic_ne C 76 dX5_readsWord_67 (by decide) (fun _ => ?_) (fun h => absurd h (by decide))
  refine x_iload_n C dX5_readsWord_76 rfl ?_
  refine x_bipush (v := 6) C dX5_readsWord_77 (by decide) ?_
  refine x_iadd C dX5_readsWord_79 ?_
  refine x_put (ty := .int) C kf_X5_162 mput_0 rfl (by decide +kernel) rfl rfl (Nat.le_of_ble_eq_true rfl) (mput_s8 _) dX5_readsWord_80 ?_
  refine x_iload_n C dX5_readsWord_83 rfl ?_
  refine x_if_le C 91 dX5_readsWord_84 (by decide) (fun h => absurd h (by decide)) (fun _ => ?_)
  refine x_iconst (v := 1) C dX5_readsWord_87 (by decide) ?_
  refine x_goto C 92 dX5_readsWord_88 (by decide) ?_
  exact x_zret C Z dX5_readsWord_92 rfl (Nat.le_of_ble_eq_true rfl) (Nat.le_of_ble_eq_true rfl) rfl (by rw [upd_u, upd_u]; rfl) rfl
set_option maxRecDepth 100000 in
set_option maxHeartbeats 1000000 in
theorem c_X5_readsWord_100 {l : Launch} {E : xEnv} {B N : Nat} {σ : Sg} {M : Nat} {U : Vs} {kp ho tx sc : Fn} {n : Nat} (hn : n ≤ 80) (h1 : sc 1 = nI n) {a : Nat} (ha : a < 2 ^ 30) (h4 : sc 4 = nI a) (e0 : chM n tx a = 110) (e1 : chM n tx (a + 1) = 119) (e2 : chM n tx (a + 2) = 119) : xM l yX5_readsWord cX5_readsWord 3 (some .boolean) 2 41 0 0 E B [.ref M] N (mput E σ M U kp ho tx sc) N (mput E σ M U kp ho tx (upd (upd sc 4 (nI (a + 3))) 8 (nI 10))) (some (.int 1)) := by
  refine xM_of [some (.ref _), none, none] (by decide +kernel) (Nat.le_of_ble_eq_true rfl) rfl (fun k0 C Z => ?_)
  refine x_iconst (v := 0) C dX5_readsWord_0 (by decide) ?_
  refine x_istore_n C dX5_readsWord_1 (by decide) rfl ?_
  refine x_iconst (v := 0) C dX5_readsWord_2 (by decide) ?_
  refine x_istore_n C dX5_readsWord_3 (by decide) rfl ?_
  refine x_iload_n C dX5_readsWord_4 rfl ?_
  refine x_iconst (v := 3) C dX5_readsWord_5 (by decide) ?_
  refine x_ic_ge C 55 dX5_readsWord_6 (by decide) (fun h => absurd h (by decide)) (fun _ => ?_)
  refine x_aload_n C dX5_readsWord_9 rfl ?_
  refine x_callV C (c_X5_isGesture (a := a) hn h1 (by omega) h4) kv_X5_isGesture kl_X5_158 dX5_readsWord_10 mput_0 rfl rfl rfl rfl (Nat.le_of_ble_eq_true rfl) (Nat.le_of_ble_eq_true rfl) (Nat.le_of_ble_eq_true rfl) (Nat.le_of_ble_eq_true rfl) (Nat.le_of_ble_eq_true rfl) ?_
  refine x_beq C 55 dX5_readsWord_13 (by decide) (fun h => absurd (Or.inr e0) h) (fun _ => ?_)
  refine x_iconst (v := 2) C dX5_readsWord_16 (by decide) ?_
  refine x_iload_n C dX5_readsWord_17 rfl ?_
  refine x_imul C dX5_readsWord_18 ?_
  refine x_aload_n C dX5_readsWord_19 rfl ?_
  refine x_aload_n C dX5_readsWord_20 rfl ?_
  refine x_get C kf_X5_149 mput_0 rfl dX5_readsWord_21 ?_
  rw [h4]
  refine x_callV C (c_X5_character (j := a) hn h1 (by omega)) kv_X5_character kl_X5_152 dX5_readsWord_24 mput_0 rfl rfl rfl rfl (Nat.le_of_ble_eq_true rfl) (Nat.le_of_ble_eq_true rfl) (Nat.le_of_ble_eq_true rfl) (Nat.le_of_ble_eq_true rfl) (Nat.le_of_ble_eq_true rfl) ?_
  refine x_bipush (v := 110) C dX5_readsWord_27 (by decide) ?_
  refine x_ic_ne C 36 dX5_readsWord_29 (by decide) (fun h => absurd e0 h) (fun _ => ?_)
  refine x_iconst (v := 1) C dX5_readsWord_32 (by decide) ?_
  refine x_goto C 37 dX5_readsWord_33 (by decide) ?_
  refine x_iadd C dX5_readsWord_37 ?_
  refine x_istore_n C dX5_readsWord_38 (by decide) rfl ?_
  refine x_iinc C dX5_readsWord_39 rfl (inc1 _) (by decide) rfl ?_
  refine x_aload_n C dX5_readsWord_42 rfl ?_
  refine x_dup C dX5_readsWord_43 rfl ?_
  refine x_get C kf_X5_149 mput_0 rfl dX5_readsWord_44 ?_
  rw [h4]
  refine x_iconst (v := 1) C dX5_readsWord_47 (by decide) ?_
  refine x_iadd C dX5_readsWord_48 ?_
  rw [show nI a + 1 = nI (a + 1) from nI_1 _]
  refine x_put (ty := .int) C kf_X5_149 mput_0 rfl (by decide +kernel) rfl rfl (Nat.le_of_ble_eq_true rfl) (mput_s4 _) dX5_readsWord_49 ?_
  refine x_goto C 4 dX5_readsWord_52 (by decide) ?_
  refine x_iload_n C dX5_readsWord_4 rfl ?_
  refine x_iconst (v := 3) C dX5_readsWord_5 (by decide) ?_
  refine x_ic_ge C 55 dX5_readsWord_6 (by decide) (fun h => absurd h (by decide)) (fun _ => ?_)
  refine x_aload_n C dX5_readsWord_9 rfl ?_
  refine x_callV C (c_X5_isGesture (a := a + 1) hn (by simp [upd, h1]) (by omega) (by simp [upd])) kv_X5_isGesture kl_X5_158 dX5_readsWord_10 mput_0 rfl rfl rfl rfl (Nat.le_of_ble_eq_true rfl) (Nat.le_of_ble_eq_true rfl) (Nat.le_of_ble_eq_true rfl) (Nat.le_of_ble_eq_true rfl) (Nat.le_of_ble_eq_true rfl) ?_
  refine x_beq C 55 dX5_readsWord_13 (by decide) (fun h => absurd (Or.inl e1) h) (fun _ => ?_)
  refine x_iconst (v := 2) C dX5_readsWord_16 (by decide) ?_
  refine x_iload_n C dX5_readsWord_17 rfl ?_
  refine x_imul C dX5_readsWord_18 ?_
  refine x_aload_n C dX5_readsWord_19 rfl ?_
  refine x_aload_n C dX5_readsWord_20 rfl ?_
  refine x_get C kf_X5_149 mput_0 rfl dX5_readsWord_21 ?_
  rw [pk_us]
  refine x_callV C (c_X5_character (j := a + 1) hn (by simp [upd, h1]) (by omega)) kv_X5_character kl_X5_152 dX5_readsWord_24 mput_0 rfl rfl rfl rfl (Nat.le_of_ble_eq_true rfl) (Nat.le_of_ble_eq_true rfl) (Nat.le_of_ble_eq_true rfl) (Nat.le_of_ble_eq_true rfl) (Nat.le_of_ble_eq_true rfl) ?_
  refine x_bipush (v := 110) C dX5_readsWord_27 (by decide) ?_
  refine x_ic_ne C 36 dX5_readsWord_29 (by decide) (fun _ => ?_) (fun h => absurd h (by rw [e1]; decide))
  refine x_iconst (v := 0) C dX5_readsWord_36 (by decide) ?_
  refine x_iadd C dX5_readsWord_37 ?_
  refine x_istore_n C dX5_readsWord_38 (by decide) rfl ?_
  refine x_iinc C dX5_readsWord_39 rfl (inc1 _) (by decide) rfl ?_
  refine x_aload_n C dX5_readsWord_42 rfl ?_
  refine x_dup C dX5_readsWord_43 rfl ?_
  refine x_get C kf_X5_149 mput_0 rfl dX5_readsWord_44 ?_
  rw [pk_us]
  refine x_iconst (v := 1) C dX5_readsWord_47 (by decide) ?_
  refine x_iadd C dX5_readsWord_48 ?_
  rw [show nI (a + 1) + 1 = nI (a + 2) from nI_1 _]
  refine x_put (ty := .int) C kf_X5_149 mput_0 rfl (by decide +kernel) rfl rfl (Nat.le_of_ble_eq_true rfl) (mput_s4 _) dX5_readsWord_49 ?_
  refine x_goto C 4 dX5_readsWord_52 (by decide) ?_
  refine x_iload_n C dX5_readsWord_4 rfl ?_
  refine x_iconst (v := 3) C dX5_readsWord_5 (by decide) ?_
  refine x_ic_ge C 55 dX5_readsWord_6 (by decide) (fun h => absurd h (by decide)) (fun _ => ?_)
  refine x_aload_n C dX5_readsWord_9 rfl ?_
  refine x_callV C (c_X5_isGesture (a := a + 2) hn (by simp [upd, h1]) (by omega) (by simp [upd])) kv_X5_isGesture kl_X5_158 dX5_readsWord_10 mput_0 rfl rfl rfl rfl (Nat.le_of_ble_eq_true rfl) (Nat.le_of_ble_eq_true rfl) (Nat.le_of_ble_eq_true rfl) (Nat.le_of_ble_eq_true rfl) (Nat.le_of_ble_eq_true rfl) ?_
  refine x_beq C 55 dX5_readsWord_13 (by decide) (fun h => absurd (Or.inl e2) h) (fun _ => ?_)
  refine x_iconst (v := 2) C dX5_readsWord_16 (by decide) ?_
  refine x_iload_n C dX5_readsWord_17 rfl ?_
  refine x_imul C dX5_readsWord_18 ?_
  refine x_aload_n C dX5_readsWord_19 rfl ?_
  refine x_aload_n C dX5_readsWord_20 rfl ?_
  refine x_get C kf_X5_149 mput_0 rfl dX5_readsWord_21 ?_
  rw [pk_us]
  refine x_callV C (c_X5_character (j := a + 2) hn (by simp [upd, h1]) (by omega)) kv_X5_character kl_X5_152 dX5_readsWord_24 mput_0 rfl rfl rfl rfl (Nat.le_of_ble_eq_true rfl) (Nat.le_of_ble_eq_true rfl) (Nat.le_of_ble_eq_true rfl) (Nat.le_of_ble_eq_true rfl) (Nat.le_of_ble_eq_true rfl) ?_
  refine x_bipush (v := 110) C dX5_readsWord_27 (by decide) ?_
  refine x_ic_ne C 36 dX5_readsWord_29 (by decide) (fun _ => ?_) (fun h => absurd h (by rw [e2]; decide))
  refine x_iconst (v := 0) C dX5_readsWord_36 (by decide) ?_
  refine x_iadd C dX5_readsWord_37 ?_
  refine x_istore_n C dX5_readsWord_38 (by decide) rfl ?_
  refine x_iinc C dX5_readsWord_39 rfl (inc1 _) (by decide) rfl ?_
  refine x_aload_n C dX5_readsWord_42 rfl ?_
  refine x_dup C dX5_readsWord_43 rfl ?_
  refine x_get C kf_X5_149 mput_0 rfl dX5_readsWord_44 ?_
  rw [pk_us]
  refine x_iconst (v := 1) C dX5_readsWord_47 (by decide) ?_
  refine x_iadd C dX5_readsWord_48 ?_
  rw [show nI (a + 2) + 1 = nI (a + 3) from nI_1 _]
  refine x_put (ty := .int) C kf_X5_149 mput_0 rfl (by decide +kernel) rfl rfl (Nat.le_of_ble_eq_true rfl) (mput_s4 _) dX5_readsWord_49 ?_
  refine x_goto C 4 dX5_readsWord_52 (by decide) ?_
  refine x_iload_n C dX5_readsWord_4 rfl ?_
  refine x_iconst (v := 3) C dX5_readsWord_5 (by decide) ?_
  refine x_ic_ge C 55 dX5_readsWord_6 (by decide) (fun _ => ?_) (fun h => absurd (by decide) h)
  refine x_aload_n C dX5_readsWord_55 rfl ?_
  refine x_iload_n C dX5_readsWord_56 rfl ?_
  refine x_iconst (v := 1) C dX5_readsWord_57 (by decide) ?_
  refine x_ic_ne C 65 dX5_readsWord_58 (by decide) (fun _ => ?_) (fun h => absurd h (by decide))
  refine x_iload_n C dX5_readsWord_65 rfl ?_
  refine x_iconst (v := 2) C dX5_readsWord_66 (by decide) ?_
  refine x_ic_ne C 76 dX5_readsWord_67 (by decide) (fun _ => ?_) (fun h => absurd h (by decide))
  refine x_iload_n C dX5_readsWord_76 rfl ?_
  refine x_bipush (v := 6) C dX5_readsWord_77 (by decide) ?_
  refine x_iadd C dX5_readsWord_79 ?_
  refine x_put (ty := .int) C kf_X5_162 mput_0 rfl (by decide +kernel) rfl rfl (Nat.le_of_ble_eq_true rfl) (mput_s8 _) dX5_readsWord_80 ?_
  refine x_iload_n C dX5_readsWord_83 rfl ?_
  refine x_if_le C 91 dX5_readsWord_84 (by decide) (fun h => absurd h (by decide)) (fun _ => ?_)
  refine x_iconst (v := 1) C dX5_readsWord_87 (by decide) ?_
  refine x_goto C 92 dX5_readsWord_88 (by decide) ?_
  exact x_zret C Z dX5_readsWord_92 rfl (Nat.le_of_ble_eq_true rfl) (Nat.le_of_ble_eq_true rfl) rfl (by rw [upd_u, upd_u]; rfl) rfl
set_option maxRecDepth 100000 in
set_option maxHeartbeats 1000000 in
theorem c_X5_readsWord_101 {l : Launch} {E : xEnv} {B N : Nat} {σ : Sg} {M : Nat} {U : Vs} {kp ho tx sc : Fn} {n : Nat} (hn : n ≤ 80) (h1 : sc 1 = nI n) {a : Nat} (ha : a < 2 ^ 30) (h4 : sc 4 = nI a) (e0 : chM n tx a = 110) (e1 : chM n tx (a + 1) = 119) (e2 : chM n tx (a + 2) = 110) : xM l yX5_readsWord cX5_readsWord 3 (some .boolean) 2 41 0 0 E B [.ref M] N (mput E σ M U kp ho tx sc) N (mput E σ M U kp ho tx (upd (upd sc 4 (nI (a + 3))) 8 (nI 11))) (some (.int 1)) := by
  refine xM_of [some (.ref _), none, none] (by decide +kernel) (Nat.le_of_ble_eq_true rfl) rfl (fun k0 C Z => ?_)
  refine x_iconst (v := 0) C dX5_readsWord_0 (by decide) ?_
  refine x_istore_n C dX5_readsWord_1 (by decide) rfl ?_
  refine x_iconst (v := 0) C dX5_readsWord_2 (by decide) ?_
  refine x_istore_n C dX5_readsWord_3 (by decide) rfl ?_
  refine x_iload_n C dX5_readsWord_4 rfl ?_
  refine x_iconst (v := 3) C dX5_readsWord_5 (by decide) ?_
  refine x_ic_ge C 55 dX5_readsWord_6 (by decide) (fun h => absurd h (by decide)) (fun _ => ?_)
  refine x_aload_n C dX5_readsWord_9 rfl ?_
  refine x_callV C (c_X5_isGesture (a := a) hn h1 (by omega) h4) kv_X5_isGesture kl_X5_158 dX5_readsWord_10 mput_0 rfl rfl rfl rfl (Nat.le_of_ble_eq_true rfl) (Nat.le_of_ble_eq_true rfl) (Nat.le_of_ble_eq_true rfl) (Nat.le_of_ble_eq_true rfl) (Nat.le_of_ble_eq_true rfl) ?_
  refine x_beq C 55 dX5_readsWord_13 (by decide) (fun h => absurd (Or.inr e0) h) (fun _ => ?_)
  refine x_iconst (v := 2) C dX5_readsWord_16 (by decide) ?_
  refine x_iload_n C dX5_readsWord_17 rfl ?_
  refine x_imul C dX5_readsWord_18 ?_
  refine x_aload_n C dX5_readsWord_19 rfl ?_
  refine x_aload_n C dX5_readsWord_20 rfl ?_
  refine x_get C kf_X5_149 mput_0 rfl dX5_readsWord_21 ?_
  rw [h4]
  refine x_callV C (c_X5_character (j := a) hn h1 (by omega)) kv_X5_character kl_X5_152 dX5_readsWord_24 mput_0 rfl rfl rfl rfl (Nat.le_of_ble_eq_true rfl) (Nat.le_of_ble_eq_true rfl) (Nat.le_of_ble_eq_true rfl) (Nat.le_of_ble_eq_true rfl) (Nat.le_of_ble_eq_true rfl) ?_
  refine x_bipush (v := 110) C dX5_readsWord_27 (by decide) ?_
  refine x_ic_ne C 36 dX5_readsWord_29 (by decide) (fun h => absurd e0 h) (fun _ => ?_)
  refine x_iconst (v := 1) C dX5_readsWord_32 (by decide) ?_
  refine x_goto C 37 dX5_readsWord_33 (by decide) ?_
  refine x_iadd C dX5_readsWord_37 ?_
  refine x_istore_n C dX5_readsWord_38 (by decide) rfl ?_
  refine x_iinc C dX5_readsWord_39 rfl (inc1 _) (by decide) rfl ?_
  refine x_aload_n C dX5_readsWord_42 rfl ?_
  refine x_dup C dX5_readsWord_43 rfl ?_
  refine x_get C kf_X5_149 mput_0 rfl dX5_readsWord_44 ?_
  rw [h4]
  refine x_iconst (v := 1) C dX5_readsWord_47 (by decide) ?_
  refine x_iadd C dX5_readsWord_48 ?_
  rw [show nI a + 1 = nI (a + 1) from nI_1 _]
  refine x_put (ty := .int) C kf_X5_149 mput_0 rfl (by decide +kernel) rfl rfl (Nat.le_of_ble_eq_true rfl) (mput_s4 _) dX5_readsWord_49 ?_
  refine x_goto C 4 dX5_readsWord_52 (by decide) ?_
  refine x_iload_n C dX5_readsWord_4 rfl ?_
  refine x_iconst (v := 3) C dX5_readsWord_5 (by decide) ?_
  refine x_ic_ge C 55 dX5_readsWord_6 (by decide) (fun h => absurd h (by decide)) (fun _ => ?_)
  refine x_aload_n C dX5_readsWord_9 rfl ?_
  refine x_callV C (c_X5_isGesture (a := a + 1) hn (by simp [upd, h1]) (by omega) (by simp [upd])) kv_X5_isGesture kl_X5_158 dX5_readsWord_10 mput_0 rfl rfl rfl rfl (Nat.le_of_ble_eq_true rfl) (Nat.le_of_ble_eq_true rfl) (Nat.le_of_ble_eq_true rfl) (Nat.le_of_ble_eq_true rfl) (Nat.le_of_ble_eq_true rfl) ?_
  refine x_beq C 55 dX5_readsWord_13 (by decide) (fun h => absurd (Or.inl e1) h) (fun _ => ?_)
  refine x_iconst (v := 2) C dX5_readsWord_16 (by decide) ?_
  refine x_iload_n C dX5_readsWord_17 rfl ?_
  refine x_imul C dX5_readsWord_18 ?_
  refine x_aload_n C dX5_readsWord_19 rfl ?_
  refine x_aload_n C dX5_readsWord_20 rfl ?_
  refine x_get C kf_X5_149 mput_0 rfl dX5_readsWord_21 ?_
  rw [pk_us]
  refine x_callV C (c_X5_character (j := a + 1) hn (by simp [upd, h1]) (by omega)) kv_X5_character kl_X5_152 dX5_readsWord_24 mput_0 rfl rfl rfl rfl (Nat.le_of_ble_eq_true rfl) (Nat.le_of_ble_eq_true rfl) (Nat.le_of_ble_eq_true rfl) (Nat.le_of_ble_eq_true rfl) (Nat.le_of_ble_eq_true rfl) ?_
  refine x_bipush (v := 110) C dX5_readsWord_27 (by decide) ?_
  refine x_ic_ne C 36 dX5_readsWord_29 (by decide) (fun _ => ?_) (fun h => absurd h (by rw [e1]; decide))
  refine x_iconst (v := 0) C dX5_readsWord_36 (by decide) ?_
  refine x_iadd C dX5_readsWord_37 ?_
  refine x_istore_n C dX5_readsWord_38 (by decide) rfl ?_
  refine x_iinc C dX5_readsWord_39 rfl (inc1 _) (by decide) rfl ?_
  refine x_aload_n C dX5_readsWord_42 rfl ?_
  refine x_dup C dX5_readsWord_43 rfl ?_
  refine x_get C kf_X5_149 mput_0 rfl dX5_readsWord_44 ?_
  rw [pk_us]
  refine x_iconst (v := 1) C dX5_readsWord_47 (by decide) ?_
  refine x_iadd C dX5_readsWord_48 ?_
  rw [show nI (a + 1) + 1 = nI (a + 2) from nI_1 _]
  refine x_put (ty := .int) C kf_X5_149 mput_0 rfl (by decide +kernel) rfl rfl (Nat.le_of_ble_eq_true rfl) (mput_s4 _) dX5_readsWord_49 ?_
  refine x_goto C 4 dX5_readsWord_52 (by decide) ?_
  refine x_iload_n C dX5_readsWord_4 rfl ?_
  refine x_iconst (v := 3) C dX5_readsWord_5 (by decide) ?_
  refine x_ic_ge C 55 dX5_readsWord_6 (by decide) (fun h => absurd h (by decide)) (fun _ => ?_)
  refine x_aload_n C dX5_readsWord_9 rfl ?_
  refine x_callV C (c_X5_isGesture (a := a + 2) hn (by simp [upd, h1]) (by omega) (by simp [upd])) kv_X5_isGesture kl_X5_158 dX5_readsWord_10 mput_0 rfl rfl rfl rfl (Nat.le_of_ble_eq_true rfl) (Nat.le_of_ble_eq_true rfl) (Nat.le_of_ble_eq_true rfl) (Nat.le_of_ble_eq_true rfl) (Nat.le_of_ble_eq_true rfl) ?_
  refine x_beq C 55 dX5_readsWord_13 (by decide) (fun h => absurd (Or.inr e2) h) (fun _ => ?_)
  refine x_iconst (v := 2) C dX5_readsWord_16 (by decide) ?_
  refine x_iload_n C dX5_readsWord_17 rfl ?_
  refine x_imul C dX5_readsWord_18 ?_
  refine x_aload_n C dX5_readsWord_19 rfl ?_
  refine x_aload_n C dX5_readsWord_20 rfl ?_
  refine x_get C kf_X5_149 mput_0 rfl dX5_readsWord_21 ?_
  rw [pk_us]
  refine x_callV C (c_X5_character (j := a + 2) hn (by simp [upd, h1]) (by omega)) kv_X5_character kl_X5_152 dX5_readsWord_24 mput_0 rfl rfl rfl rfl (Nat.le_of_ble_eq_true rfl) (Nat.le_of_ble_eq_true rfl) (Nat.le_of_ble_eq_true rfl) (Nat.le_of_ble_eq_true rfl) (Nat.le_of_ble_eq_true rfl) ?_
  refine x_bipush (v := 110) C dX5_readsWord_27 (by decide) ?_
  refine x_ic_ne C 36 dX5_readsWord_29 (by decide) (fun h => absurd e2 h) (fun _ => ?_)
  refine x_iconst (v := 1) C dX5_readsWord_32 (by decide) ?_
  refine x_goto C 37 dX5_readsWord_33 (by decide) ?_
  refine x_iadd C dX5_readsWord_37 ?_
  refine x_istore_n C dX5_readsWord_38 (by decide) rfl ?_
  refine x_iinc C dX5_readsWord_39 rfl (inc1 _) (by decide) rfl ?_
  refine x_aload_n C dX5_readsWord_42 rfl ?_
  refine x_dup C dX5_readsWord_43 rfl ?_
  refine x_get C kf_X5_149 mput_0 rfl dX5_readsWord_44 ?_
  rw [pk_us]
  refine x_iconst (v := 1) C dX5_readsWord_47 (by decide) ?_
  refine x_iadd C dX5_readsWord_48 ?_
  rw [show nI (a + 2) + 1 = nI (a + 3) from nI_1 _]
  refine x_put (ty := .int) C kf_X5_149 mput_0 rfl (by decide +kernel) rfl rfl (Nat.le_of_ble_eq_true rfl) (mput_s4 _) dX5_readsWord_49 ?_
  refine x_goto C 4 dX5_readsWord_52 (by decide) ?_
  refine x_iload_n C dX5_readsWord_4 rfl ?_
  refine x_iconst (v := 3) C dX5_readsWord_5 (by decide) ?_
  refine x_ic_ge C 55 dX5_readsWord_6 (by decide) (fun _ => ?_) (fun h => absurd (by decide) h)
  refine x_aload_n C dX5_readsWord_55 rfl ?_
  refine x_iload_n C dX5_readsWord_56 rfl ?_
  refine x_iconst (v := 1) C dX5_readsWord_57 (by decide) ?_
  refine x_ic_ne C 65 dX5_readsWord_58 (by decide) (fun _ => ?_) (fun h => absurd h (by decide))
  refine x_iload_n C dX5_readsWord_65 rfl ?_
  refine x_iconst (v := 2) C dX5_readsWord_66 (by decide) ?_
  refine x_ic_ne C 76 dX5_readsWord_67 (by decide) (fun _ => ?_) (fun h => absurd h (by decide))
  refine x_iload_n C dX5_readsWord_76 rfl ?_
  refine x_bipush (v := 6) C dX5_readsWord_77 (by decide) ?_
  refine x_iadd C dX5_readsWord_79 ?_
  refine x_put (ty := .int) C kf_X5_162 mput_0 rfl (by decide +kernel) rfl rfl (Nat.le_of_ble_eq_true rfl) (mput_s8 _) dX5_readsWord_80 ?_
  refine x_iload_n C dX5_readsWord_83 rfl ?_
  refine x_if_le C 91 dX5_readsWord_84 (by decide) (fun h => absurd h (by decide)) (fun _ => ?_)
  refine x_iconst (v := 1) C dX5_readsWord_87 (by decide) ?_
  refine x_goto C 92 dX5_readsWord_88 (by decide) ?_
  exact x_zret C Z dX5_readsWord_92 rfl (Nat.le_of_ble_eq_true rfl) (Nat.le_of_ble_eq_true rfl) rfl (by rw [upd_u, upd_u]; rfl) rfl
set_option maxRecDepth 100000 in
set_option maxHeartbeats 1000000 in
theorem c_X5_readsWord_110 {l : Launch} {E : xEnv} {B N : Nat} {σ : Sg} {M : Nat} {U : Vs} {kp ho tx sc : Fn} {n : Nat} (hn : n ≤ 80) (h1 : sc 1 = nI n) {a : Nat} (ha : a < 2 ^ 30) (h4 : sc 4 = nI a) (e0 : chM n tx a = 110) (e1 : chM n tx (a + 1) = 110) (e2 : chM n tx (a + 2) = 119) : xM l yX5_readsWord cX5_readsWord 3 (some .boolean) 2 41 0 0 E B [.ref M] N (mput E σ M U kp ho tx sc) N (mput E σ M U kp ho tx (upd (upd sc 4 (nI (a + 3))) 8 (nI 12))) (some (.int 1)) := by
  refine xM_of [some (.ref _), none, none] (by decide +kernel) (Nat.le_of_ble_eq_true rfl) rfl (fun k0 C Z => ?_)
  refine x_iconst (v := 0) C dX5_readsWord_0 (by decide) ?_
  refine x_istore_n C dX5_readsWord_1 (by decide) rfl ?_
  refine x_iconst (v := 0) C dX5_readsWord_2 (by decide) ?_
  refine x_istore_n C dX5_readsWord_3 (by decide) rfl ?_
  refine x_iload_n C dX5_readsWord_4 rfl ?_
  refine x_iconst (v := 3) C dX5_readsWord_5 (by decide) ?_
  refine x_ic_ge C 55 dX5_readsWord_6 (by decide) (fun h => absurd h (by decide)) (fun _ => ?_)
  refine x_aload_n C dX5_readsWord_9 rfl ?_
  refine x_callV C (c_X5_isGesture (a := a) hn h1 (by omega) h4) kv_X5_isGesture kl_X5_158 dX5_readsWord_10 mput_0 rfl rfl rfl rfl (Nat.le_of_ble_eq_true rfl) (Nat.le_of_ble_eq_true rfl) (Nat.le_of_ble_eq_true rfl) (Nat.le_of_ble_eq_true rfl) (Nat.le_of_ble_eq_true rfl) ?_
  refine x_beq C 55 dX5_readsWord_13 (by decide) (fun h => absurd (Or.inr e0) h) (fun _ => ?_)
  refine x_iconst (v := 2) C dX5_readsWord_16 (by decide) ?_
  refine x_iload_n C dX5_readsWord_17 rfl ?_
  refine x_imul C dX5_readsWord_18 ?_
  refine x_aload_n C dX5_readsWord_19 rfl ?_
  refine x_aload_n C dX5_readsWord_20 rfl ?_
  refine x_get C kf_X5_149 mput_0 rfl dX5_readsWord_21 ?_
  rw [h4]
  refine x_callV C (c_X5_character (j := a) hn h1 (by omega)) kv_X5_character kl_X5_152 dX5_readsWord_24 mput_0 rfl rfl rfl rfl (Nat.le_of_ble_eq_true rfl) (Nat.le_of_ble_eq_true rfl) (Nat.le_of_ble_eq_true rfl) (Nat.le_of_ble_eq_true rfl) (Nat.le_of_ble_eq_true rfl) ?_
  refine x_bipush (v := 110) C dX5_readsWord_27 (by decide) ?_
  refine x_ic_ne C 36 dX5_readsWord_29 (by decide) (fun h => absurd e0 h) (fun _ => ?_)
  refine x_iconst (v := 1) C dX5_readsWord_32 (by decide) ?_
  refine x_goto C 37 dX5_readsWord_33 (by decide) ?_
  refine x_iadd C dX5_readsWord_37 ?_
  refine x_istore_n C dX5_readsWord_38 (by decide) rfl ?_
  refine x_iinc C dX5_readsWord_39 rfl (inc1 _) (by decide) rfl ?_
  refine x_aload_n C dX5_readsWord_42 rfl ?_
  refine x_dup C dX5_readsWord_43 rfl ?_
  refine x_get C kf_X5_149 mput_0 rfl dX5_readsWord_44 ?_
  rw [h4]
  refine x_iconst (v := 1) C dX5_readsWord_47 (by decide) ?_
  refine x_iadd C dX5_readsWord_48 ?_
  rw [show nI a + 1 = nI (a + 1) from nI_1 _]
  refine x_put (ty := .int) C kf_X5_149 mput_0 rfl (by decide +kernel) rfl rfl (Nat.le_of_ble_eq_true rfl) (mput_s4 _) dX5_readsWord_49 ?_
  refine x_goto C 4 dX5_readsWord_52 (by decide) ?_
  refine x_iload_n C dX5_readsWord_4 rfl ?_
  refine x_iconst (v := 3) C dX5_readsWord_5 (by decide) ?_
  refine x_ic_ge C 55 dX5_readsWord_6 (by decide) (fun h => absurd h (by decide)) (fun _ => ?_)
  refine x_aload_n C dX5_readsWord_9 rfl ?_
  refine x_callV C (c_X5_isGesture (a := a + 1) hn (by simp [upd, h1]) (by omega) (by simp [upd])) kv_X5_isGesture kl_X5_158 dX5_readsWord_10 mput_0 rfl rfl rfl rfl (Nat.le_of_ble_eq_true rfl) (Nat.le_of_ble_eq_true rfl) (Nat.le_of_ble_eq_true rfl) (Nat.le_of_ble_eq_true rfl) (Nat.le_of_ble_eq_true rfl) ?_
  refine x_beq C 55 dX5_readsWord_13 (by decide) (fun h => absurd (Or.inr e1) h) (fun _ => ?_)
  refine x_iconst (v := 2) C dX5_readsWord_16 (by decide) ?_
  refine x_iload_n C dX5_readsWord_17 rfl ?_
  refine x_imul C dX5_readsWord_18 ?_
  refine x_aload_n C dX5_readsWord_19 rfl ?_
  refine x_aload_n C dX5_readsWord_20 rfl ?_
  refine x_get C kf_X5_149 mput_0 rfl dX5_readsWord_21 ?_
  rw [pk_us]
  refine x_callV C (c_X5_character (j := a + 1) hn (by simp [upd, h1]) (by omega)) kv_X5_character kl_X5_152 dX5_readsWord_24 mput_0 rfl rfl rfl rfl (Nat.le_of_ble_eq_true rfl) (Nat.le_of_ble_eq_true rfl) (Nat.le_of_ble_eq_true rfl) (Nat.le_of_ble_eq_true rfl) (Nat.le_of_ble_eq_true rfl) ?_
  refine x_bipush (v := 110) C dX5_readsWord_27 (by decide) ?_
  refine x_ic_ne C 36 dX5_readsWord_29 (by decide) (fun h => absurd e1 h) (fun _ => ?_)
  refine x_iconst (v := 1) C dX5_readsWord_32 (by decide) ?_
  refine x_goto C 37 dX5_readsWord_33 (by decide) ?_
  refine x_iadd C dX5_readsWord_37 ?_
  refine x_istore_n C dX5_readsWord_38 (by decide) rfl ?_
  refine x_iinc C dX5_readsWord_39 rfl (inc1 _) (by decide) rfl ?_
  refine x_aload_n C dX5_readsWord_42 rfl ?_
  refine x_dup C dX5_readsWord_43 rfl ?_
  refine x_get C kf_X5_149 mput_0 rfl dX5_readsWord_44 ?_
  rw [pk_us]
  refine x_iconst (v := 1) C dX5_readsWord_47 (by decide) ?_
  refine x_iadd C dX5_readsWord_48 ?_
  rw [show nI (a + 1) + 1 = nI (a + 2) from nI_1 _]
  refine x_put (ty := .int) C kf_X5_149 mput_0 rfl (by decide +kernel) rfl rfl (Nat.le_of_ble_eq_true rfl) (mput_s4 _) dX5_readsWord_49 ?_
  refine x_goto C 4 dX5_readsWord_52 (by decide) ?_
  refine x_iload_n C dX5_readsWord_4 rfl ?_
  refine x_iconst (v := 3) C dX5_readsWord_5 (by decide) ?_
  refine x_ic_ge C 55 dX5_readsWord_6 (by decide) (fun h => absurd h (by decide)) (fun _ => ?_)
  refine x_aload_n C dX5_readsWord_9 rfl ?_
  refine x_callV C (c_X5_isGesture (a := a + 2) hn (by simp [upd, h1]) (by omega) (by simp [upd])) kv_X5_isGesture kl_X5_158 dX5_readsWord_10 mput_0 rfl rfl rfl rfl (Nat.le_of_ble_eq_true rfl) (Nat.le_of_ble_eq_true rfl) (Nat.le_of_ble_eq_true rfl) (Nat.le_of_ble_eq_true rfl) (Nat.le_of_ble_eq_true rfl) ?_
  refine x_beq C 55 dX5_readsWord_13 (by decide) (fun h => absurd (Or.inl e2) h) (fun _ => ?_)
  refine x_iconst (v := 2) C dX5_readsWord_16 (by decide) ?_
  refine x_iload_n C dX5_readsWord_17 rfl ?_
  refine x_imul C dX5_readsWord_18 ?_
  refine x_aload_n C dX5_readsWord_19 rfl ?_
  refine x_aload_n C dX5_readsWord_20 rfl ?_
  refine x_get C kf_X5_149 mput_0 rfl dX5_readsWord_21 ?_
  rw [pk_us]
  refine x_callV C (c_X5_character (j := a + 2) hn (by simp [upd, h1]) (by omega)) kv_X5_character kl_X5_152 dX5_readsWord_24 mput_0 rfl rfl rfl rfl (Nat.le_of_ble_eq_true rfl) (Nat.le_of_ble_eq_true rfl) (Nat.le_of_ble_eq_true rfl) (Nat.le_of_ble_eq_true rfl) (Nat.le_of_ble_eq_true rfl) ?_
  refine x_bipush (v := 110) C dX5_readsWord_27 (by decide) ?_
  refine x_ic_ne C 36 dX5_readsWord_29 (by decide) (fun _ => ?_) (fun h => absurd h (by rw [e2]; decide))
  refine x_iconst (v := 0) C dX5_readsWord_36 (by decide) ?_
  refine x_iadd C dX5_readsWord_37 ?_
  refine x_istore_n C dX5_readsWord_38 (by decide) rfl ?_
  refine x_iinc C dX5_readsWord_39 rfl (inc1 _) (by decide) rfl ?_
  refine x_aload_n C dX5_readsWord_42 rfl ?_
  refine x_dup C dX5_readsWord_43 rfl ?_
  refine x_get C kf_X5_149 mput_0 rfl dX5_readsWord_44 ?_
  rw [pk_us]
  refine x_iconst (v := 1) C dX5_readsWord_47 (by decide) ?_
  refine x_iadd C dX5_readsWord_48 ?_
  rw [show nI (a + 2) + 1 = nI (a + 3) from nI_1 _]
  refine x_put (ty := .int) C kf_X5_149 mput_0 rfl (by decide +kernel) rfl rfl (Nat.le_of_ble_eq_true rfl) (mput_s4 _) dX5_readsWord_49 ?_
  refine x_goto C 4 dX5_readsWord_52 (by decide) ?_
  refine x_iload_n C dX5_readsWord_4 rfl ?_
  refine x_iconst (v := 3) C dX5_readsWord_5 (by decide) ?_
  refine x_ic_ge C 55 dX5_readsWord_6 (by decide) (fun _ => ?_) (fun h => absurd (by decide) h)
  refine x_aload_n C dX5_readsWord_55 rfl ?_
  refine x_iload_n C dX5_readsWord_56 rfl ?_
  refine x_iconst (v := 1) C dX5_readsWord_57 (by decide) ?_
  refine x_ic_ne C 65 dX5_readsWord_58 (by decide) (fun _ => ?_) (fun h => absurd h (by decide))
  refine x_iload_n C dX5_readsWord_65 rfl ?_
  refine x_iconst (v := 2) C dX5_readsWord_66 (by decide) ?_
  refine x_ic_ne C 76 dX5_readsWord_67 (by decide) (fun _ => ?_) (fun h => absurd h (by decide))
  refine x_iload_n C dX5_readsWord_76 rfl ?_
  refine x_bipush (v := 6) C dX5_readsWord_77 (by decide) ?_
  refine x_iadd C dX5_readsWord_79 ?_
  refine x_put (ty := .int) C kf_X5_162 mput_0 rfl (by decide +kernel) rfl rfl (Nat.le_of_ble_eq_true rfl) (mput_s8 _) dX5_readsWord_80 ?_
  refine x_iload_n C dX5_readsWord_83 rfl ?_
  refine x_if_le C 91 dX5_readsWord_84 (by decide) (fun h => absurd h (by decide)) (fun _ => ?_)
  refine x_iconst (v := 1) C dX5_readsWord_87 (by decide) ?_
  refine x_goto C 92 dX5_readsWord_88 (by decide) ?_
  exact x_zret C Z dX5_readsWord_92 rfl (Nat.le_of_ble_eq_true rfl) (Nat.le_of_ble_eq_true rfl) rfl (by rw [upd_u, upd_u]; rfl) rfl
set_option maxRecDepth 100000 in
set_option maxHeartbeats 1000000 in
theorem c_X5_readsWord_111 {l : Launch} {E : xEnv} {B N : Nat} {σ : Sg} {M : Nat} {U : Vs} {kp ho tx sc : Fn} {n : Nat} (hn : n ≤ 80) (h1 : sc 1 = nI n) {a : Nat} (ha : a < 2 ^ 30) (h4 : sc 4 = nI a) (e0 : chM n tx a = 110) (e1 : chM n tx (a + 1) = 110) (e2 : chM n tx (a + 2) = 110) : xM l yX5_readsWord cX5_readsWord 3 (some .boolean) 2 41 0 0 E B [.ref M] N (mput E σ M U kp ho tx sc) N (mput E σ M U kp ho tx (upd (upd sc 4 (nI (a + 3))) 8 (nI 13))) (some (.int 1)) := by
  refine xM_of [some (.ref _), none, none] (by decide +kernel) (Nat.le_of_ble_eq_true rfl) rfl (fun k0 C Z => ?_)
  refine x_iconst (v := 0) C dX5_readsWord_0 (by decide) ?_
  refine x_istore_n C dX5_readsWord_1 (by decide) rfl ?_
  refine x_iconst (v := 0) C dX5_readsWord_2 (by decide) ?_
  refine x_istore_n C dX5_readsWord_3 (by decide) rfl ?_
  refine x_iload_n C dX5_readsWord_4 rfl ?_
  refine x_iconst (v := 3) C dX5_readsWord_5 (by decide) ?_
  refine x_ic_ge C 55 dX5_readsWord_6 (by decide) (fun h => absurd h (by decide)) (fun _ => ?_)
  refine x_aload_n C dX5_readsWord_9 rfl ?_
  refine x_callV C (c_X5_isGesture (a := a) hn h1 (by omega) h4) kv_X5_isGesture kl_X5_158 dX5_readsWord_10 mput_0 rfl rfl rfl rfl (Nat.le_of_ble_eq_true rfl) (Nat.le_of_ble_eq_true rfl) (Nat.le_of_ble_eq_true rfl) (Nat.le_of_ble_eq_true rfl) (Nat.le_of_ble_eq_true rfl) ?_
  refine x_beq C 55 dX5_readsWord_13 (by decide) (fun h => absurd (Or.inr e0) h) (fun _ => ?_)
  refine x_iconst (v := 2) C dX5_readsWord_16 (by decide) ?_
  refine x_iload_n C dX5_readsWord_17 rfl ?_
  refine x_imul C dX5_readsWord_18 ?_
  refine x_aload_n C dX5_readsWord_19 rfl ?_
  refine x_aload_n C dX5_readsWord_20 rfl ?_
  refine x_get C kf_X5_149 mput_0 rfl dX5_readsWord_21 ?_
  rw [h4]
  refine x_callV C (c_X5_character (j := a) hn h1 (by omega)) kv_X5_character kl_X5_152 dX5_readsWord_24 mput_0 rfl rfl rfl rfl (Nat.le_of_ble_eq_true rfl) (Nat.le_of_ble_eq_true rfl) (Nat.le_of_ble_eq_true rfl) (Nat.le_of_ble_eq_true rfl) (Nat.le_of_ble_eq_true rfl) ?_
  refine x_bipush (v := 110) C dX5_readsWord_27 (by decide) ?_
  refine x_ic_ne C 36 dX5_readsWord_29 (by decide) (fun h => absurd e0 h) (fun _ => ?_)
  refine x_iconst (v := 1) C dX5_readsWord_32 (by decide) ?_
  refine x_goto C 37 dX5_readsWord_33 (by decide) ?_
  refine x_iadd C dX5_readsWord_37 ?_
  refine x_istore_n C dX5_readsWord_38 (by decide) rfl ?_
  refine x_iinc C dX5_readsWord_39 rfl (inc1 _) (by decide) rfl ?_
  refine x_aload_n C dX5_readsWord_42 rfl ?_
  refine x_dup C dX5_readsWord_43 rfl ?_
  refine x_get C kf_X5_149 mput_0 rfl dX5_readsWord_44 ?_
  rw [h4]
  refine x_iconst (v := 1) C dX5_readsWord_47 (by decide) ?_
  refine x_iadd C dX5_readsWord_48 ?_
  rw [show nI a + 1 = nI (a + 1) from nI_1 _]
  refine x_put (ty := .int) C kf_X5_149 mput_0 rfl (by decide +kernel) rfl rfl (Nat.le_of_ble_eq_true rfl) (mput_s4 _) dX5_readsWord_49 ?_
  refine x_goto C 4 dX5_readsWord_52 (by decide) ?_
  refine x_iload_n C dX5_readsWord_4 rfl ?_
  refine x_iconst (v := 3) C dX5_readsWord_5 (by decide) ?_
  refine x_ic_ge C 55 dX5_readsWord_6 (by decide) (fun h => absurd h (by decide)) (fun _ => ?_)
  refine x_aload_n C dX5_readsWord_9 rfl ?_
  refine x_callV C (c_X5_isGesture (a := a + 1) hn (by simp [upd, h1]) (by omega) (by simp [upd])) kv_X5_isGesture kl_X5_158 dX5_readsWord_10 mput_0 rfl rfl rfl rfl (Nat.le_of_ble_eq_true rfl) (Nat.le_of_ble_eq_true rfl) (Nat.le_of_ble_eq_true rfl) (Nat.le_of_ble_eq_true rfl) (Nat.le_of_ble_eq_true rfl) ?_
  refine x_beq C 55 dX5_readsWord_13 (by decide) (fun h => absurd (Or.inr e1) h) (fun _ => ?_)
  refine x_iconst (v := 2) C dX5_readsWord_16 (by decide) ?_
  refine x_iload_n C dX5_readsWord_17 rfl ?_
  refine x_imul C dX5_readsWord_18 ?_
  refine x_aload_n C dX5_readsWord_19 rfl ?_
  refine x_aload_n C dX5_readsWord_20 rfl ?_
  refine x_get C kf_X5_149 mput_0 rfl dX5_readsWord_21 ?_
  rw [pk_us]
  refine x_callV C (c_X5_character (j := a + 1) hn (by simp [upd, h1]) (by omega)) kv_X5_character kl_X5_152 dX5_readsWord_24 mput_0 rfl rfl rfl rfl (Nat.le_of_ble_eq_true rfl) (Nat.le_of_ble_eq_true rfl) (Nat.le_of_ble_eq_true rfl) (Nat.le_of_ble_eq_true rfl) (Nat.le_of_ble_eq_true rfl) ?_
  refine x_bipush (v := 110) C dX5_readsWord_27 (by decide) ?_
  refine x_ic_ne C 36 dX5_readsWord_29 (by decide) (fun h => absurd e1 h) (fun _ => ?_)
  refine x_iconst (v := 1) C dX5_readsWord_32 (by decide) ?_
  refine x_goto C 37 dX5_readsWord_33 (by decide) ?_
  refine x_iadd C dX5_readsWord_37 ?_
  refine x_istore_n C dX5_readsWord_38 (by decide) rfl ?_
  refine x_iinc C dX5_readsWord_39 rfl (inc1 _) (by decide) rfl ?_
  refine x_aload_n C dX5_readsWord_42 rfl ?_
  refine x_dup C dX5_readsWord_43 rfl ?_
  refine x_get C kf_X5_149 mput_0 rfl dX5_readsWord_44 ?_
  rw [pk_us]
  refine x_iconst (v := 1) C dX5_readsWord_47 (by decide) ?_
  refine x_iadd C dX5_readsWord_48 ?_
  rw [show nI (a + 1) + 1 = nI (a + 2) from nI_1 _]
  refine x_put (ty := .int) C kf_X5_149 mput_0 rfl (by decide +kernel) rfl rfl (Nat.le_of_ble_eq_true rfl) (mput_s4 _) dX5_readsWord_49 ?_
  refine x_goto C 4 dX5_readsWord_52 (by decide) ?_
  refine x_iload_n C dX5_readsWord_4 rfl ?_
  refine x_iconst (v := 3) C dX5_readsWord_5 (by decide) ?_
  refine x_ic_ge C 55 dX5_readsWord_6 (by decide) (fun h => absurd h (by decide)) (fun _ => ?_)
  refine x_aload_n C dX5_readsWord_9 rfl ?_
  refine x_callV C (c_X5_isGesture (a := a + 2) hn (by simp [upd, h1]) (by omega) (by simp [upd])) kv_X5_isGesture kl_X5_158 dX5_readsWord_10 mput_0 rfl rfl rfl rfl (Nat.le_of_ble_eq_true rfl) (Nat.le_of_ble_eq_true rfl) (Nat.le_of_ble_eq_true rfl) (Nat.le_of_ble_eq_true rfl) (Nat.le_of_ble_eq_true rfl) ?_
  refine x_beq C 55 dX5_readsWord_13 (by decide) (fun h => absurd (Or.inr e2) h) (fun _ => ?_)
  refine x_iconst (v := 2) C dX5_readsWord_16 (by decide) ?_
  refine x_iload_n C dX5_readsWord_17 rfl ?_
  refine x_imul C dX5_readsWord_18 ?_
  refine x_aload_n C dX5_readsWord_19 rfl ?_
  refine x_aload_n C dX5_readsWord_20 rfl ?_
  refine x_get C kf_X5_149 mput_0 rfl dX5_readsWord_21 ?_
  rw [pk_us]
  refine x_callV C (c_X5_character (j := a + 2) hn (by simp [upd, h1]) (by omega)) kv_X5_character kl_X5_152 dX5_readsWord_24 mput_0 rfl rfl rfl rfl (Nat.le_of_ble_eq_true rfl) (Nat.le_of_ble_eq_true rfl) (Nat.le_of_ble_eq_true rfl) (Nat.le_of_ble_eq_true rfl) (Nat.le_of_ble_eq_true rfl) ?_
  refine x_bipush (v := 110) C dX5_readsWord_27 (by decide) ?_
  refine x_ic_ne C 36 dX5_readsWord_29 (by decide) (fun h => absurd e2 h) (fun _ => ?_)
  refine x_iconst (v := 1) C dX5_readsWord_32 (by decide) ?_
  refine x_goto C 37 dX5_readsWord_33 (by decide) ?_
  refine x_iadd C dX5_readsWord_37 ?_
  refine x_istore_n C dX5_readsWord_38 (by decide) rfl ?_
  refine x_iinc C dX5_readsWord_39 rfl (inc1 _) (by decide) rfl ?_
  refine x_aload_n C dX5_readsWord_42 rfl ?_
  refine x_dup C dX5_readsWord_43 rfl ?_
  refine x_get C kf_X5_149 mput_0 rfl dX5_readsWord_44 ?_
  rw [pk_us]
  refine x_iconst (v := 1) C dX5_readsWord_47 (by decide) ?_
  refine x_iadd C dX5_readsWord_48 ?_
  rw [show nI (a + 2) + 1 = nI (a + 3) from nI_1 _]
  refine x_put (ty := .int) C kf_X5_149 mput_0 rfl (by decide +kernel) rfl rfl (Nat.le_of_ble_eq_true rfl) (mput_s4 _) dX5_readsWord_49 ?_
  refine x_goto C 4 dX5_readsWord_52 (by decide) ?_
  refine x_iload_n C dX5_readsWord_4 rfl ?_
  refine x_iconst (v := 3) C dX5_readsWord_5 (by decide) ?_
  refine x_ic_ge C 55 dX5_readsWord_6 (by decide) (fun _ => ?_) (fun h => absurd (by decide) h)
  refine x_aload_n C dX5_readsWord_55 rfl ?_
  refine x_iload_n C dX5_readsWord_56 rfl ?_
  refine x_iconst (v := 1) C dX5_readsWord_57 (by decide) ?_
  refine x_ic_ne C 65 dX5_readsWord_58 (by decide) (fun _ => ?_) (fun h => absurd h (by decide))
  refine x_iload_n C dX5_readsWord_65 rfl ?_
  refine x_iconst (v := 2) C dX5_readsWord_66 (by decide) ?_
  refine x_ic_ne C 76 dX5_readsWord_67 (by decide) (fun _ => ?_) (fun h => absurd h (by decide))
  refine x_iload_n C dX5_readsWord_76 rfl ?_
  refine x_bipush (v := 6) C dX5_readsWord_77 (by decide) ?_
  refine x_iadd C dX5_readsWord_79 ?_
  refine x_put (ty := .int) C kf_X5_162 mput_0 rfl (by decide +kernel) rfl rfl (Nat.le_of_ble_eq_true rfl) (mput_s8 _) dX5_readsWord_80 ?_
  refine x_iload_n C dX5_readsWord_83 rfl ?_
  refine x_if_le C 91 dX5_readsWord_84 (by decide) (fun h => absurd h (by decide)) (fun _ => ?_)
  refine x_iconst (v := 1) C dX5_readsWord_87 (by decide) ?_
  refine x_goto C 92 dX5_readsWord_88 (by decide) ?_
  exact x_zret C Z dX5_readsWord_92 rfl (Nat.le_of_ble_eq_true rfl) (Nat.le_of_ble_eq_true rfl) rfl (by rw [upd_u, upd_u]; rfl) rfl
