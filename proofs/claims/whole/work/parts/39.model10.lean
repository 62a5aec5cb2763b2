/-! the model's digest -/
def dmA (U : Vs) (h : Int64) : Nat → Int64
  | 0 => h
  | n + 1 => mxS (dmA U h n) (muS U n)
def dmV (U : Vs) : Int64 := dgE U (dgD U (dgC U (dgB U (dmA U 473 7) 4) 8) 6) 8
set_option maxRecDepth 100000 in
set_option maxHeartbeats 1000000 in
theorem c_X5_digest {l : Launch} {E : xEnv} {B N : Nat} {σ : Sg} {M : Nat} {U : Vs} {kp ho tx sc : Fn} : xM l yX5_digest cX5_digest 5 (some .long) 5 117 0 0 E B [.ref M] N (mput E σ M U kp ho tx sc) N (mput E σ M U kp ho tx sc) (some (.long (dmV U))) := by
  refine xM_of [some (.ref _), none, none, none, none] (by decide +kernel) (Nat.le_of_ble_eq_true rfl) rfl (fun k0 C Z => ?_)
  have hl5 : ∀ i, i ≤ 8 → xX k0 N 0 0 (mput E σ M U kp ho tx sc) 181 [some (.ref M), some (.long (dgE U (dgD U (dgC U (dgB U (dmA U 473 7) 4) 8) 6) i)), none, some (.int (nI i)), none] [] := by
    refine x_for 8 ?_ ?_
    · refine x_iload_n C dX5_digest_181 rfl ?_
      refine x_bipush (v := 8) C dX5_digest_182 (by decide) ?_
      refine x_ic_ge C 258 dX5_digest_184 (by decide) (fun _ => ?_) (fun h => absurd (nI_le (a := 8) (Nat.le_refl _) (by omega)) h)
      refine x_lload_n C dX5_digest_258 rfl ?_
      exact x_lret C Z dX5_digest_259 (Nat.le_of_ble_eq_true rfl) (Nat.le_of_ble_eq_true rfl) rfl rfl rfl
    · intro i hi ih
      by_cases hp : U 10 i = 1
      · have hl6 : ∀ t, t ≤ (7 - i) → xX k0 N 0 0 (mput E σ M U kp ho tx sc) 192 [some (.ref M), some (.long (dgP U i (dgE U (dgD U (dgC U (dgB U (dmA U 473 7) 4) 8) 6) i) t)), none, some (.int (nI i)), some (.int (nI (i + 1 + t)))] [] := by
          refine x_for (7 - i) ?_ ?_
          · refine x_iload C dX5_digest_192 rfl ?_
            refine x_bipush (v := 8) C dX5_digest_194 (by decide) ?_
            refine x_ic_ge C 252 dX5_digest_196 (by decide) (fun _ => ?_) (fun h => absurd (nI_le (a := 8) (by omega) (by omega)) h)
            refine x_iinc C dX5_digest_252 rfl (nI_inc _) (by decide) rfl ?_
            refine x_goto C 181 dX5_digest_255 (by decide) ?_
            refine xX.cl ih rfl (And.intro rfl (And.intro ?_ (And.intro rfl trivial))) rfl
            rw [dgE, dgQ, if_pos hp]; rfl
          · intro t ht ih2
            have ht8 : i + 1 + t < 8 := by omega
            refine x_iload C dX5_digest_192 rfl ?_
            refine x_bipush (v := 8) C dX5_digest_194 (by decide) ?_
            refine x_ic_ge C 252 dX5_digest_196 (by decide) (fun h => absurd h (nI_ge (b := 8) (by omega) (by omega))) (fun _ => ?_)
            refine x_aload_n C dX5_digest_199 rfl ?_
            refine x_iload_n C dX5_digest_200 rfl ?_
            refine x_callV C (c_X5_isSpeaker_k hi) kv_X5_isSpeaker kl_X5_45 dX5_digest_201 mput_0 rfl rfl rfl rfl (Nat.le_of_ble_eq_true rfl) (Nat.le_of_ble_eq_true rfl) (Nat.le_of_ble_eq_true rfl) (Nat.le_of_ble_eq_true rfl) (Nat.le_of_ble_eq_true rfl) ?_
            refine x_beq C 246 dX5_digest_204 (by decide) (fun h => absurd hp h) (fun _ => ?_)
            refine x_aload_n C dX5_digest_207 rfl ?_
            refine x_iload C dX5_digest_208 rfl ?_
            refine x_callV C (c_X5_isSpeaker_k ht8) kv_X5_isSpeaker kl_X5_45 dX5_digest_210 mput_0 rfl rfl rfl rfl (Nat.le_of_ble_eq_true rfl) (Nat.le_of_ble_eq_true rfl) (Nat.le_of_ble_eq_true rfl) (Nat.le_of_ble_eq_true rfl) (Nat.le_of_ble_eq_true rfl) ?_
            refine x_beq C 246 dX5_digest_213 (by decide) (fun h213 => ?_) (fun h213 => ?_)
            · refine x_iinc C dX5_digest_246 rfl (nI_inc _) (by decide) rfl ?_
              refine x_goto C 192 dX5_digest_249 (by decide) ?_
              refine xX.cl ih2 rfl (And.intro rfl (And.intro ?_ (And.intro rfl (And.intro rfl trivial)))) rfl
              rw [dgP, if_neg h213]; rfl
            · refine x_ldc2 C kk_X5_188 dX5_digest_216 ?_
              refine x_lload_n C dX5_digest_219 rfl ?_
              refine x_lmul C dX5_digest_220 ?_
              refine x_aload_n C dX5_digest_221 rfl ?_
              refine x_iload_n C dX5_digest_222 rfl ?_
              refine x_iload C dX5_digest_223 rfl ?_
              refine x_callV C (c_X5_agreements hi ht8) kv_X5_agreements kl_X5_137 dX5_digest_225 mput_0 rfl rfl rfl rfl (Nat.le_of_ble_eq_true rfl) (Nat.le_of_ble_eq_true rfl) (Nat.le_of_ble_eq_true rfl) (Nat.le_of_ble_eq_true rfl) (Nat.le_of_ble_eq_true rfl) ?_
              refine x_i2l C dX5_digest_228 ?_
              refine x_ladd C dX5_digest_229 ?_
              refine x_lstore_n C dX5_digest_230 (by decide) rfl ?_
              refine x_ldc2 C kk_X5_188 dX5_digest_231 ?_
              refine x_lload_n C dX5_digest_234 rfl ?_
              refine x_lmul C dX5_digest_235 ?_
              refine x_aload_n C dX5_digest_236 rfl ?_
              refine x_iload_n C dX5_digest_237 rfl ?_
              refine x_iload C dX5_digest_238 rfl ?_
              refine x_callV C (c_X5_understood hi ht8) kv_X5_understood kl_X5_140 dX5_digest_240 mput_0 rfl rfl rfl rfl (Nat.le_of_ble_eq_true rfl) (Nat.le_of_ble_eq_true rfl) (Nat.le_of_ble_eq_true rfl) (Nat.le_of_ble_eq_true rfl) (Nat.le_of_ble_eq_true rfl) ?_
              refine x_i2l C dX5_digest_243 ?_
              refine x_ladd C dX5_digest_244 ?_
              refine x_lstore_n C dX5_digest_245 (by decide) rfl ?_
              refine x_iinc C dX5_digest_246 rfl (nI_inc _) (by decide) rfl ?_
              refine x_goto C 192 dX5_digest_249 (by decide) ?_
              refine xX.cl ih2 rfl (And.intro rfl (And.intro ?_ (And.intro rfl (And.intro rfl trivial)))) rfl
              rw [dgP, if_pos h213]; rfl
        refine x_iload_n C dX5_digest_181 rfl ?_
        refine x_bipush (v := 8) C dX5_digest_182 (by decide) ?_
        refine x_ic_ge C 258 dX5_digest_184 (by decide) (fun h => absurd h (nI_ge (b := 8) hi (by omega))) (fun _ => ?_)
        refine x_iload_n C dX5_digest_187 rfl ?_
        refine x_iconst (v := 1) C dX5_digest_188 (by decide) ?_
        refine x_iadd C dX5_digest_189 ?_
        refine x_istore C dX5_digest_190 (by decide) rfl ?_
        refine xX.cl (hl6 0 (Nat.zero_le _)) rfl (And.intro rfl (And.intro rfl (And.intro rfl (And.intro (congrArg (fun z => some (some (Value.int z))) (nI_1 i)) trivial)))) rfl
      · have hl6 : ∀ t, t ≤ (7 - i) → xX k0 N 0 0 (mput E σ M U kp ho tx sc) 192 [some (.ref M), some (.long (dgE U (dgD U (dgC U (dgB U (dmA U 473 7) 4) 8) 6) i)), none, some (.int (nI i)), some (.int (nI (i + 1 + t)))] [] := by
          refine x_for (7 - i) ?_ ?_
          · refine x_iload C dX5_digest_192 rfl ?_
            refine x_bipush (v := 8) C dX5_digest_194 (by decide) ?_
            refine x_ic_ge C 252 dX5_digest_196 (by decide) (fun _ => ?_) (fun h => absurd (nI_le (a := 8) (by omega) (by omega)) h)
            refine x_iinc C dX5_digest_252 rfl (nI_inc _) (by decide) rfl ?_
            refine x_goto C 181 dX5_digest_255 (by decide) ?_
            refine xX.cl ih rfl (And.intro rfl (And.intro ?_ (And.intro rfl trivial))) rfl
            rw [dgE, dgQ, if_neg hp]; rfl
          · intro t ht ih2
            have ht8 : i + 1 + t < 8 := by omega
            refine x_iload C dX5_digest_192 rfl ?_
            refine x_bipush (v := 8) C dX5_digest_194 (by decide) ?_
            refine x_ic_ge C 252 dX5_digest_196 (by decide) (fun h => absurd h (nI_ge (b := 8) (by omega) (by omega))) (fun _ => ?_)
            refine x_aload_n C dX5_digest_199 rfl ?_
            refine x_iload_n C dX5_digest_200 rfl ?_
            refine x_callV C (c_X5_isSpeaker_k hi) kv_X5_isSpeaker kl_X5_45 dX5_digest_201 mput_0 rfl rfl rfl rfl (Nat.le_of_ble_eq_true rfl) (Nat.le_of_ble_eq_true rfl) (Nat.le_of_ble_eq_true rfl) (Nat.le_of_ble_eq_true rfl) (Nat.le_of_ble_eq_true rfl) ?_
            refine x_beq C 246 dX5_digest_204 (by decide) (fun _ => ?_) (fun h => absurd h hp)
            refine x_iinc C dX5_digest_246 rfl (nI_inc _) (by decide) rfl ?_
            refine x_goto C 192 dX5_digest_249 (by decide) ?_
            refine xX.cl ih2 rfl (And.intro rfl (And.intro rfl (And.intro rfl (And.intro rfl trivial)))) rfl
        refine x_iload_n C dX5_digest_181 rfl ?_
        refine x_bipush (v := 8) C dX5_digest_182 (by decide) ?_
        refine x_ic_ge C 258 dX5_digest_184 (by decide) (fun h => absurd h (nI_ge (b := 8) hi (by omega))) (fun _ => ?_)
        refine x_iload_n C dX5_digest_187 rfl ?_
        refine x_iconst (v := 1) C dX5_digest_188 (by decide) ?_
        refine x_iadd C dX5_digest_189 ?_
        refine x_istore C dX5_digest_190 (by decide) rfl ?_
        refine xX.cl (hl6 0 (Nat.zero_le _)) rfl (And.intro rfl (And.intro rfl (And.intro rfl (And.intro (congrArg (fun z => some (some (Value.int z))) (nI_1 i)) trivial)))) rfl
  have hl4 : ∀ i, i ≤ 6 → xX k0 N 0 0 (mput E σ M U kp ho tx sc) 154 [some (.ref M), some (.long (dgD U (dgC U (dgB U (dmA U 473 7) 4) 8) i)), none, some (.int (nI i)), none] [] := by
    refine x_for 6 ?_ ?_
    · refine x_iload_n C dX5_digest_154 rfl ?_
      refine x_bipush (v := 6) C dX5_digest_155 (by decide) ?_
      refine x_ic_ge C 179 dX5_digest_157 (by decide) (fun _ => ?_) (fun h => absurd (nI_le (a := 6) (Nat.le_refl _) (by omega)) h)
      refine x_iconst (v := 0) C dX5_digest_179 (by decide) ?_
      refine x_istore_n C dX5_digest_180 (by decide) rfl ?_
      refine xX.cl (hl5 0 (by omega)) rfl (And.intro rfl (And.intro rfl (And.intro rfl trivial))) rfl
    · intro i hi ih
      refine x_iload_n C dX5_digest_154 rfl ?_
      refine x_bipush (v := 6) C dX5_digest_155 (by decide) ?_
      refine x_ic_ge C 179 dX5_digest_157 (by decide) (fun h => absurd h (nI_ge (b := 6) hi (by omega))) (fun _ => ?_)
      refine x_ldc2 C kk_X5_188 dX5_digest_160 ?_
      refine x_lload_n C dX5_digest_163 rfl ?_
      refine x_lmul C dX5_digest_164 ?_
      refine x_aload_n C dX5_digest_165 rfl ?_
      refine x_iload_n C dX5_digest_166 rfl ?_
      refine x_callV C (c_X5_commonOf hi) kv_X5_commonOf kl_X5_143 dX5_digest_167 mput_0 rfl rfl rfl rfl (Nat.le_of_ble_eq_true rfl) (Nat.le_of_ble_eq_true rfl) (Nat.le_of_ble_eq_true rfl) (Nat.le_of_ble_eq_true rfl) (Nat.le_of_ble_eq_true rfl) ?_
      refine x_i2l C dX5_digest_170 ?_
      refine x_ladd C dX5_digest_171 ?_
      refine x_lstore_n C dX5_digest_172 (by decide) rfl ?_
      refine x_iinc C dX5_digest_173 rfl (nI_inc _) (by decide) rfl ?_
      refine x_goto C 154 dX5_digest_176 (by decide) ?_
      refine xX.cl ih rfl (And.intro rfl (And.intro rfl (And.intro rfl trivial))) rfl
  have hl3 : ∀ i, i ≤ 8 → xX k0 N 0 0 (mput E σ M U kp ho tx sc) 62 [some (.ref M), some (.long (dgC U (dgB U (dmA U 473 7) 4) i)), none, some (.int (nI i)), none] [] := by
    refine x_for 8 ?_ ?_
    · refine x_iload_n C dX5_digest_62 rfl ?_
      refine x_bipush (v := 8) C dX5_digest_63 (by decide) ?_
      refine x_ic_ge C 152 dX5_digest_65 (by decide) (fun _ => ?_) (fun h => absurd (nI_le (a := 8) (Nat.le_refl _) (by omega)) h)
      refine x_iconst (v := 0) C dX5_digest_152 (by decide) ?_
      refine x_istore_n C dX5_digest_153 (by decide) rfl ?_
      refine xX.cl (hl4 0 (by omega)) rfl (And.intro rfl (And.intro rfl (And.intro rfl trivial))) rfl
    · intro i hi ih
      refine x_iload_n C dX5_digest_62 rfl ?_
      refine x_bipush (v := 8) C dX5_digest_63 (by decide) ?_
      refine x_ic_ge C 152 dX5_digest_65 (by decide) (fun h => absurd h (nI_ge (b := 8) hi (by omega))) (fun _ => ?_)
      refine x_aload_n C dX5_digest_68 rfl ?_
      refine x_iload_n C dX5_digest_69 rfl ?_
      refine x_callV C (c_X5_isSpeaker_k hi) kv_X5_isSpeaker kl_X5_45 dX5_digest_70 mput_0 rfl rfl rfl rfl (Nat.le_of_ble_eq_true rfl) (Nat.le_of_ble_eq_true rfl) (Nat.le_of_ble_eq_true rfl) (Nat.le_of_ble_eq_true rfl) (Nat.le_of_ble_eq_true rfl) ?_
      refine x_beq C 146 dX5_digest_73 (by decide) (fun h73 => ?_) (fun h73 => ?_)
      · refine x_iinc C dX5_digest_146 rfl (nI_inc _) (by decide) rfl ?_
        refine x_goto C 62 dX5_digest_149 (by decide) ?_
        refine xX.cl ih rfl (And.intro rfl (And.intro ?_ (And.intro rfl trivial))) rfl
        rw [dgC, dgS, if_neg h73]; rfl
      · have hm2 : ∀ j, j ≤ 6 → xX k0 N 0 0 (mput E σ M U kp ho tx sc) 118 [some (.ref M), some (.long (dgS2 U i (dgS1 U i (mxS (dgC U (dgB U (dmA U 473 7) 4) i) (nI i)) 5) j)), none, some (.int (nI i)), some (.int (nI j))] [] := by
          refine x_for 6 ?_ ?_
          · refine x_iload C dX5_digest_118 rfl ?_
            refine x_bipush (v := 6) C dX5_digest_120 (by decide) ?_
            refine x_ic_ge C 146 dX5_digest_122 (by decide) (fun _ => ?_) (fun h => absurd (nI_le (a := 6) (Nat.le_refl _) (by omega)) h)
            refine x_iinc C dX5_digest_146 rfl (nI_inc _) (by decide) rfl ?_
            refine x_goto C 62 dX5_digest_149 (by decide) ?_
            refine xX.cl ih rfl (And.intro rfl (And.intro ?_ (And.intro rfl trivial))) rfl
            rw [dgC, dgS, if_pos h73]; rfl
          · intro j hj ih2
            refine x_iload C dX5_digest_118 rfl ?_
            refine x_bipush (v := 6) C dX5_digest_120 (by decide) ?_
            refine x_ic_ge C 146 dX5_digest_122 (by decide) (fun h => absurd h (nI_ge (b := 6) hj (by omega))) (fun _ => ?_)
            refine x_ldc2 C kk_X5_188 dX5_digest_125 ?_
            refine x_lload_n C dX5_digest_128 rfl ?_
            refine x_lmul C dX5_digest_129 ?_
            refine x_aload_n C dX5_digest_130 rfl ?_
            refine x_iload_n C dX5_digest_131 rfl ?_
            refine x_iload C dX5_digest_132 rfl ?_
            refine x_callV C (c_X5_wordFor hi hj) kv_X5_wordFor kl_X5_58 dX5_digest_134 mput_0 rfl rfl rfl rfl (Nat.le_of_ble_eq_true rfl) (Nat.le_of_ble_eq_true rfl) (Nat.le_of_ble_eq_true rfl) (Nat.le_of_ble_eq_true rfl) (Nat.le_of_ble_eq_true rfl) ?_
            refine x_i2l C dX5_digest_137 ?_
            refine x_ladd C dX5_digest_138 ?_
            refine x_lstore_n C dX5_digest_139 (by decide) rfl ?_
            refine x_iinc C dX5_digest_140 rfl (nI_inc _) (by decide) rfl ?_
            refine x_goto C 118 dX5_digest_143 (by decide) ?_
            refine xX.cl ih2 rfl (And.intro rfl (And.intro rfl (And.intro rfl (And.intro rfl trivial)))) rfl
        have hm1 : ∀ j, j ≤ 5 → xX k0 N 0 0 (mput E σ M U kp ho tx sc) 88 [some (.ref M), some (.long (dgS1 U i (mxS (dgC U (dgB U (dmA U 473 7) 4) i) (nI i)) j)), none, some (.int (nI i)), some (.int (nI j))] [] := by
          refine x_for 5 ?_ ?_
          · refine x_iload C dX5_digest_88 rfl ?_
            refine x_iconst (v := 4) C dX5_digest_90 (by decide) ?_
            refine x_ic_gt C 115 dX5_digest_91 (by decide) (fun _ => ?_) (fun h => absurd (by decide) h)
            refine x_iconst (v := 0) C dX5_digest_115 (by decide) ?_
            refine x_istore C dX5_digest_116 (by decide) rfl ?_
            refine xX.cl (hm2 0 (Nat.zero_le _)) rfl (And.intro rfl (And.intro rfl (And.intro rfl (And.intro rfl trivial)))) rfl
          · intro j hj ih2
            refine x_iload C dX5_digest_88 rfl ?_
            refine x_iconst (v := 4) C dX5_digest_90 (by decide) ?_
            refine x_ic_gt C 115 dX5_digest_91 (by decide) (fun h => absurd h (nI_nlt (a := 4) (b := j) (by omega) (by omega))) (fun _ => ?_)
            refine x_ldc2 C kk_X5_188 dX5_digest_94 ?_
            refine x_lload_n C dX5_digest_97 rfl ?_
            refine x_lmul C dX5_digest_98 ?_
            refine x_aload_n C dX5_digest_99 rfl ?_
            refine x_iload_n C dX5_digest_100 rfl ?_
            refine x_iload C dX5_digest_101 rfl ?_
            refine x_callV C (c_X5_ofSpeaker hi hj) kv_X5_ofSpeaker kl_X5_134 dX5_digest_103 mput_0 rfl rfl rfl rfl (Nat.le_of_ble_eq_true rfl) (Nat.le_of_ble_eq_true rfl) (Nat.le_of_ble_eq_true rfl) (Nat.le_of_ble_eq_true rfl) (Nat.le_of_ble_eq_true rfl) ?_
            refine x_i2l C dX5_digest_106 ?_
            refine x_ladd C dX5_digest_107 ?_
            refine x_lstore_n C dX5_digest_108 (by decide) rfl ?_
            refine x_iinc C dX5_digest_109 rfl (nI_inc _) (by decide) rfl ?_
            refine x_goto C 88 dX5_digest_112 (by decide) ?_
            refine xX.cl ih2 rfl (And.intro rfl (And.intro rfl (And.intro rfl (And.intro rfl trivial)))) rfl
        refine x_ldc2 C kk_X5_188 dX5_digest_76 ?_
        refine x_lload_n C dX5_digest_79 rfl ?_
        refine x_lmul C dX5_digest_80 ?_
        refine x_iload_n C dX5_digest_81 rfl ?_
        refine x_i2l C dX5_digest_82 ?_
        refine x_ladd C dX5_digest_83 ?_
        refine x_lstore_n C dX5_digest_84 (by decide) rfl ?_
        refine x_iconst (v := 0) C dX5_digest_85 (by decide) ?_
        refine x_istore C dX5_digest_86 (by decide) rfl ?_
        refine xX.cl (hm1 0 (Nat.zero_le _)) rfl (And.intro rfl (And.intro rfl (And.intro rfl (And.intro rfl trivial)))) rfl
  have hl2 : ∀ i, i ≤ 4 → xX k0 N 0 0 (mput E σ M U kp ho tx sc) 33 [some (.ref M), some (.long (dgB U (dmA U 473 7) i)), none, some (.int (nI i)), none] [] := by
    refine x_for 4 ?_ ?_
    · refine x_iload_n C dX5_digest_33 rfl ?_
      refine x_iconst (v := 4) C dX5_digest_34 (by decide) ?_
      refine x_ic_ge C 60 dX5_digest_35 (by decide) (fun _ => ?_) (fun h => absurd (nI_le (a := 4) (Nat.le_refl _) (by omega)) h)
      refine x_iconst (v := 0) C dX5_digest_60 (by decide) ?_
      refine x_istore_n C dX5_digest_61 (by decide) rfl ?_
      refine xX.cl (hl3 0 (by omega)) rfl (And.intro rfl (And.intro rfl (And.intro rfl trivial))) rfl
    · intro i hi ih
      refine x_iload_n C dX5_digest_33 rfl ?_
      refine x_iconst (v := 4) C dX5_digest_34 (by decide) ?_
      refine x_ic_ge C 60 dX5_digest_35 (by decide) (fun h => absurd h (nI_ge (b := 4) hi (by omega))) (fun _ => ?_)
      refine x_ldc2 C kk_X5_188 dX5_digest_38 ?_
      refine x_lload_n C dX5_digest_41 rfl ?_
      refine x_lmul C dX5_digest_42 ?_
      refine x_aload_n C dX5_digest_43 rfl ?_
      refine x_get C kf_X5_7 mput_0 rfl dX5_digest_44 ?_
      refine x_iconst (v := 5) C dX5_digest_47 (by decide) ?_
      refine x_iload_n C dX5_digest_48 rfl ?_
      refine x_iadd C dX5_digest_49 ?_
      refine x_iald2 C mput_1 (ix_8 _) (by omega) (by decide) dX5_digest_50 ?_
      rw [fl_8 hi]
      refine x_i2l C dX5_digest_51 ?_
      refine x_ladd C dX5_digest_52 ?_
      refine x_lstore_n C dX5_digest_53 (by decide) rfl ?_
      refine x_iinc C dX5_digest_54 rfl (nI_inc _) (by decide) rfl ?_
      refine x_goto C 33 dX5_digest_57 (by decide) ?_
      refine xX.cl ih rfl (And.intro rfl (And.intro rfl (And.intro rfl trivial))) rfl
  have hl1 : ∀ i, i ≤ 7 → xX k0 N 0 0 (mput E σ M U kp ho tx sc) 6 [some (.ref M), some (.long (dmA U 473 i)), none, some (.int (nI i)), none] [] := by
    refine x_for 7 ?_ ?_
    · refine x_iload_n C dX5_digest_6 rfl ?_
      refine x_bipush (v := 6) C dX5_digest_7 (by decide) ?_
      refine x_ic_gt C 31 dX5_digest_9 (by decide) (fun _ => ?_) (fun h => absurd (by decide) h)
      refine x_iconst (v := 0) C dX5_digest_31 (by decide) ?_
      refine x_istore_n C dX5_digest_32 (by decide) rfl ?_
      refine xX.cl (hl2 0 (by omega)) rfl (And.intro rfl (And.intro rfl (And.intro rfl trivial))) rfl
    · intro i hi ih
      refine x_iload_n C dX5_digest_6 rfl ?_
      refine x_bipush (v := 6) C dX5_digest_7 (by decide) ?_
      refine x_ic_gt C 31 dX5_digest_9 (by decide) (fun h => absurd h (nI_nlt (a := 6) (b := i) (by omega) (by omega))) (fun _ => ?_)
      refine x_ldc2 C kk_X5_188 dX5_digest_12 ?_
      refine x_lload_n C dX5_digest_15 rfl ?_
      refine x_lmul C dX5_digest_16 ?_
      refine x_aload_n C dX5_digest_17 rfl ?_
      refine x_iload_n C dX5_digest_18 rfl ?_
      refine x_callV C (c_X5_countOf hi) kv_X5_countOf kl_X5_125 dX5_digest_19 mput_0 rfl rfl rfl rfl (Nat.le_of_ble_eq_true rfl) (Nat.le_of_ble_eq_true rfl) (Nat.le_of_ble_eq_true rfl) (Nat.le_of_ble_eq_true rfl) (Nat.le_of_ble_eq_true rfl) ?_
      refine x_i2l C dX5_digest_22 ?_
      refine x_ladd C dX5_digest_23 ?_
      refine x_lstore_n C dX5_digest_24 (by decide) rfl ?_
      refine x_iinc C dX5_digest_25 rfl (nI_inc _) (by decide) rfl ?_
      refine x_goto C 6 dX5_digest_28 (by decide) ?_
      refine xX.cl ih rfl (And.intro rfl (And.intro rfl (And.intro rfl trivial))) rfl
  refine x_ldc2 C kk_X5_186 dX5_digest_0 ?_
  refine x_lstore_n C dX5_digest_3 (by decide) rfl ?_
  refine x_iconst (v := 0) C dX5_digest_4 (by decide) ?_
  refine x_istore_n C dX5_digest_5 (by decide) rfl ?_
  refine xX.cl (hl1 0 (by omega)) rfl (And.intro rfl (And.intro rfl (And.intro rfl trivial))) rfl
