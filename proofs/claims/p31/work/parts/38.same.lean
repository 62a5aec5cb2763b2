/-! the law's comparison of all that can be asked -/
set_option maxRecDepth 100000 in
set_option maxHeartbeats 4000000 in
theorem sm_A {k0 : xT} {l : Launch} {E : xEnv} {B N : Nat} {σ : Sg} {VV : Cs} {p z n : Nat} {tx : Fn} {Q : Fn} {R : Nat → Fn} {i : Nat} {x6 S : Int32} (hi : i < 4) (hp : VV 0 10 i = 1) (H : LR (VV 0) Q R 99 0 0) (C : xC k0 l E B cL_same 21 (some .boolean) yL_same.cls yL_same.name 6 136 6 60) (kk : xX k0 N 0 0 (wput E (cput E σ B VV (nI p) (nI z) (nI n) tx) (B + 165) Q R) 285 [some (.ref B), some (.ref (B + 165)), some (.ref (B + 165 + 1)), some (.ref (B + 165 + 2)), some (.ref (B + 165 + 3)), some (.ref (B + 165 + 4)), some (.int x6), some (.int (S + smL (VV 0 i) 84)), some (.int (nI i)), some (.ref (B + 165 + 1 + i)), some (.int (nI (cwN (VV 0 i) 6))), some (.int (nI (twT (VV 0 i) 6))), none, none, none, none, none, none, none, none, none] []) : xX k0 N 0 0 (wput E (cput E σ B VV (nI p) (nI z) (nI n) tx) (B + 165) Q R) 65 [some (.ref B), some (.ref (B + 165)), some (.ref (B + 165 + 1)), some (.ref (B + 165 + 2)), some (.ref (B + 165 + 3)), some (.ref (B + 165 + 4)), some (.int x6), some (.int S), some (.int (nI i)), some (.ref (B + 165 + 1 + i)), none, none, none, none, none, none, none, none, none, none, none] [] := by
  have hr : WR1 (R i) (VV 0 i) := H.row hi hp
  have h5 : ∀ j, j ≤ 14 → xX k0 N 0 0 (wput E (cput E σ B VV (nI p) (nI z) (nI n) tx) (B + 165) Q R) 252 [some (.ref B), some (.ref (B + 165)), some (.ref (B + 165 + 1)), some (.ref (B + 165 + 2)), some (.ref (B + 165 + 3)), some (.ref (B + 165 + 4)), some (.int x6), some (.int (S + smL (VV 0 i) 84)), some (.int (nI i)), some (.ref (B + 165 + 1 + i)), some (.int (nI (cwN (VV 0 i) 6))), some (.int (nI (twT (VV 0 i) 6))), some (.int (nI j)), none, none, none, none, none, none, none, none] [] := by
    refine x_for 14 ?_ ?_
    · refine x_iload C dL_same_252 rfl ?_
      refine x_bipush (v := 14) C dL_same_254 (by decide) ?_
      refine x_ic_ge C 285 dL_same_256 (by decide) (fun _ => ?_) (fun h => absurd (nI_le (a := 14) (Nat.le_refl _) (by decide)) h)
      refine xX.cl (kk) rfl (And.intro rfl (And.intro rfl (And.intro rfl (And.intro rfl (And.intro rfl (And.intro rfl (And.intro rfl (And.intro rfl (And.intro rfl (And.intro rfl (And.intro rfl (And.intro rfl trivial)))))))))))) rfl
    · intro j hj ih
      by_cases h10 : j < 10
      · refine x_iload C dL_same_252 rfl ?_
        refine x_bipush (v := 14) C dL_same_254 (by decide) ?_
        refine x_ic_ge C 285 dL_same_256 (by decide) (fun h => absurd h (nI_ge (b := 14) hj (by decide))) (fun _ => ?_)
        refine x_aload_n C dL_same_259 rfl ?_
        refine x_iload C dL_same_260 rfl ?_
        refine x_iload C dL_same_262 rfl ?_
        refine x_callV C (c_X4_hears_ok (by omega) hp hj) kv_X4_hears kl_L_52 dL_same_264 wput_0 wput_cs wput_cs.symm rfl rfl (Nat.le_of_ble_eq_true rfl) (Nat.le_of_ble_eq_true rfl) (Nat.le_of_ble_eq_true rfl) (Nat.le_of_ble_eq_true rfl) (Nat.le_of_ble_eq_true rfl) ?_
        refine x_iload C dL_same_267 rfl ?_
        refine x_aload C dL_same_269 rfl ?_
        refine x_callS C (c_L_heard (wput_r hi) h10) ks_L_heard kl_L_22 dL_same_271 rfl rfl rfl rfl (Nat.le_of_ble_eq_true rfl) (Nat.le_of_ble_eq_true rfl) (Nat.le_of_ble_eq_true rfl) (Nat.le_of_ble_eq_true rfl) (Nat.le_of_ble_eq_true rfl) ?_
        refine x_ic_eq C 279 dL_same_274 (by decide) (fun _ => ?_) (fun h => absurd (congrArg oI (hd_e hr h10).symm) h)
        refine x_iinc C dL_same_279 rfl (nI_inc _) (by decide) rfl ?_
        refine x_goto C 252 dL_same_282 (by decide) ?_
        refine xX.cl (ih) rfl (And.intro rfl (And.intro rfl (And.intro rfl (And.intro rfl (And.intro rfl (And.intro rfl (And.intro rfl (And.intro rfl (And.intro rfl (And.intro rfl (And.intro rfl (And.intro rfl (And.intro rfl trivial))))))))))))) rfl
      · refine x_iload C dL_same_252 rfl ?_
        refine x_bipush (v := 14) C dL_same_254 (by decide) ?_
        refine x_ic_ge C 285 dL_same_256 (by decide) (fun h => absurd h (nI_ge (b := 14) hj (by decide))) (fun _ => ?_)
        refine x_aload_n C dL_same_259 rfl ?_
        refine x_iload C dL_same_260 rfl ?_
        refine x_iload C dL_same_262 rfl ?_
        refine x_callV C (c_X4_hears_ok (by omega) hp hj) kv_X4_hears kl_L_52 dL_same_264 wput_0 wput_cs wput_cs.symm rfl rfl (Nat.le_of_ble_eq_true rfl) (Nat.le_of_ble_eq_true rfl) (Nat.le_of_ble_eq_true rfl) (Nat.le_of_ble_eq_true rfl) (Nat.le_of_ble_eq_true rfl) ?_
        refine x_iload C dL_same_267 rfl ?_
        refine x_aload C dL_same_269 rfl ?_
        refine x_callS C (c_L_heard_z (by omega) (by omega)) ks_L_heard kl_L_22 dL_same_271 rfl rfl rfl rfl (Nat.le_of_ble_eq_true rfl) (Nat.le_of_ble_eq_true rfl) (Nat.le_of_ble_eq_true rfl) (Nat.le_of_ble_eq_true rfl) (Nat.le_of_ble_eq_true rfl) ?_
        refine x_ic_eq C 279 dL_same_274 (by decide) (fun _ => ?_) (fun h => absurd (by rw [hd_z hr (by omega) hj]; rfl) h)
        refine x_iinc C dL_same_279 rfl (nI_inc _) (by decide) rfl ?_
        refine x_goto C 252 dL_same_282 (by decide) ?_
        refine xX.cl (ih) rfl (And.intro rfl (And.intro rfl (And.intro rfl (And.intro rfl (And.intro rfl (And.intro rfl (And.intro rfl (And.intro rfl (And.intro rfl (And.intro rfl (And.intro rfl (And.intro rfl (And.intro rfl trivial))))))))))))) rfl
  have h2 : ∀ j, j ≤ 6 → xX k0 N 0 0 (wput E (cput E σ B VV (nI p) (nI z) (nI n) tx) (B + 165) Q R) 74 [some (.ref B), some (.ref (B + 165)), some (.ref (B + 165 + 1)), some (.ref (B + 165 + 2)), some (.ref (B + 165 + 3)), some (.ref (B + 165 + 4)), some (.int x6), some (.int (S + smL (VV 0 i) (14 * j))), some (.int (nI i)), some (.ref (B + 165 + 1 + i)), some (.int (nI (cwN (VV 0 i) j))), some (.int (nI (twT (VV 0 i) j))), some (.int (nI j)), none, none, none, none, none, none, none, none] [] := by
    refine x_for 6 ?_ ?_
    · refine x_iload C dL_same_74 rfl ?_
      refine x_bipush (v := 6) C dL_same_76 (by decide) ?_
      refine x_ic_ge C 249 dL_same_78 (by decide) (fun _ => ?_) (fun h => absurd (nI_le (a := 6) (Nat.le_refl _) (by decide)) h)
      refine x_iconst (v := 0) C dL_same_249 (by decide) ?_
      refine x_istore C dL_same_250 (by decide) rfl ?_
      refine xX.cl (h5 0 (by omega)) rfl (And.intro rfl (And.intro rfl (And.intro rfl (And.intro rfl (And.intro rfl (And.intro rfl (And.intro rfl (And.intro rfl (And.intro rfl (And.intro rfl (And.intro rfl (And.intro rfl (And.intro rfl trivial))))))))))))) rfl
    · intro j hj ih
      have h4 : ∀ k, k ≤ 14 → xX k0 N 0 0 (wput E (cput E σ B VV (nI p) (nI z) (nI n) tx) (B + 165) Q R) 166 [some (.ref B), some (.ref (B + 165)), some (.ref (B + 165 + 1)), some (.ref (B + 165 + 2)), some (.ref (B + 165 + 3)), some (.ref (B + 165 + 4)), some (.int x6), some (.int (S + smL (VV 0 i) (14 * j + k))), some (.int (nI i)), some (.ref (B + 165 + 1 + i)), some (.int (nI (cwN (VV 0 i) (j + 1)))), some (.int (nI (twT (VV 0 i) (j + 1)))), some (.int (nI j)), none, some (.int (nI k)), none, none, none, none, none, none] [] := by
        refine x_for 14 ?_ ?_
        · refine x_iload C dL_same_166 rfl ?_
          refine x_bipush (v := 14) C dL_same_168 (by decide) ?_
          refine x_ic_ge C 243 dL_same_170 (by decide) (fun _ => ?_) (fun h => absurd (nI_le (a := 14) (Nat.le_refl _) (by decide)) h)
          refine x_iinc C dL_same_243 rfl (nI_inc _) (by decide) rfl ?_
          refine x_goto C 74 dL_same_246 (by decide) ?_
          refine xX.cl (ih) rfl (And.intro rfl (And.intro rfl (And.intro rfl (And.intro rfl (And.intro rfl (And.intro rfl (And.intro rfl (And.intro rfl (And.intro rfl (And.intro rfl (And.intro rfl (And.intro rfl (And.intro rfl trivial))))))))))))) rfl
        · intro k hk ih4
          refine x_iload C dL_same_166 rfl ?_
          refine x_bipush (v := 14) C dL_same_168 (by decide) ?_
          refine x_ic_ge C 243 dL_same_170 (by decide) (fun h => absurd h (nI_ge (b := 14) hk (by decide))) (fun _ => ?_)
          refine x_iload C dL_same_173 rfl ?_
          refine xX.mrg 197 ((VV 0 i) (14 * j + k)) (fun hk197 => ?_) ?_
          · refine x_iload C dL_same_175 rfl ?_
            refine x_bipush (v := 10) C dL_same_177 (by decide) ?_
            refine x_ic_ge C 196 dL_same_179 (by decide) (fun h179 => ?_) (fun h179 => ?_)
            · have g179 : 10 ≤ k := (nI_leI (a := 10) (by decide) (by omega)).mp h179
              refine x_iconst (v := 0) C dL_same_196 (by decide) ?_
              exact xX.vl hk197 (hr.2 j k hj g179 hk)
            · have g179 : k < 10 := Nat.not_le.mp (fun z => h179 (nI_le (a := 10) z (by omega)))
              refine x_aload C dL_same_182 rfl ?_
              refine x_bipush (v := 10) C dL_same_184 (by decide) ?_
              refine x_iload C dL_same_186 rfl ?_
              refine x_imul C dL_same_188 ?_
              refine x_iload C dL_same_189 rfl ?_
              refine x_iadd C dL_same_191 ?_
              refine x_iald2 C (wput_r hi) (ix10 j k) (by omega) (by decide) dL_same_192 ?_
              refine x_goto C 197 dL_same_193 (by decide) ?_
              exact xX.vl hk197 ((hr.1 j k hj g179).symm)
          refine x_iadd C dL_same_197 ?_
          refine x_istore C dL_same_198 (by decide) rfl ?_
          refine x_aload_n C dL_same_200 rfl ?_
          refine x_iload C dL_same_201 rfl ?_
          refine x_iload C dL_same_203 rfl ?_
          refine x_iload C dL_same_205 rfl ?_
          refine x_callV C (c_X4_weight_ok (by omega) hp hj hk) kv_X4_weight kl_L_48 dL_same_207 wput_0 wput_cs wput_cs.symm rfl rfl (Nat.le_of_ble_eq_true rfl) (Nat.le_of_ble_eq_true rfl) (Nat.le_of_ble_eq_true rfl) (Nat.le_of_ble_eq_true rfl) (Nat.le_of_ble_eq_true rfl) ?_
          refine xX.mrg 232 ((VV 0 i) (14 * j + k)) (fun hk232 => ?_) ?_
          · refine x_iload C dL_same_210 rfl ?_
            refine x_bipush (v := 10) C dL_same_212 (by decide) ?_
            refine x_ic_ge C 231 dL_same_214 (by decide) (fun h214 => ?_) (fun h214 => ?_)
            · have g214 : 10 ≤ k := (nI_leI (a := 10) (by decide) (by omega)).mp h214
              refine x_iconst (v := 0) C dL_same_231 (by decide) ?_
              exact xX.vl hk232 (hr.2 j k hj g214 hk)
            · have g214 : k < 10 := Nat.not_le.mp (fun z => h214 (nI_le (a := 10) z (by omega)))
              refine x_aload C dL_same_217 rfl ?_
              refine x_bipush (v := 10) C dL_same_219 (by decide) ?_
              refine x_iload C dL_same_221 rfl ?_
              refine x_imul C dL_same_223 ?_
              refine x_iload C dL_same_224 rfl ?_
              refine x_iadd C dL_same_226 ?_
              refine x_iald2 C (wput_r hi) (ix10 j k) (by omega) (by decide) dL_same_227 ?_
              refine x_goto C 232 dL_same_228 (by decide) ?_
              exact xX.vl hk232 ((hr.1 j k hj g214).symm)
          refine x_ic_eq C 237 dL_same_232 (by decide) (fun _ => ?_) (fun h => absurd rfl h)
          refine x_iinc C dL_same_237 rfl (nI_inc _) (by decide) rfl ?_
          refine x_goto C 166 dL_same_240 (by decide) ?_
          refine xX.cl (ih4) rfl (And.intro rfl (And.intro rfl (And.intro rfl (And.intro rfl (And.intro rfl (And.intro rfl (And.intro rfl (And.intro (congrArg (fun z => some (some (Value.int z))) (Int32.add_assoc _ _ _)) (And.intro rfl (And.intro rfl (And.intro rfl (And.intro rfl (And.intro rfl (And.intro rfl trivial)))))))))))))) rfl
      have h3 : ∀ k, k ≤ j → xX k0 N 0 0 (wput E (cput E σ B VV (nI p) (nI z) (nI n) tx) (B + 165) Q R) 108 [some (.ref B), some (.ref (B + 165)), some (.ref (B + 165 + 1)), some (.ref (B + 165 + 2)), some (.ref (B + 165 + 3)), some (.ref (B + 165 + 4)), some (.int x6), some (.int (S + smL (VV 0 i) (14 * j))), some (.int (nI i)), some (.ref (B + 165 + 1 + i)), some (.int (nI (cwN (VV 0 i) (j + 1)))), some (.int (nI (twT (VV 0 i) j + twN (VV 0 i) j k))), some (.int (nI j)), some (.int (oI (wfS (VV 0 i) j))), some (.int (nI k)), none, none, none, none, none, none] [] := by
        refine x_for j ?_ ?_
        · refine x_iload C dL_same_108 rfl ?_
          refine x_iload C dL_same_110 rfl ?_
          refine x_ic_ge C 148 dL_same_112 (by decide) (fun _ => ?_) (fun h => absurd (Int32.le_refl _) h)
          refine x_aload_n C dL_same_148 rfl ?_
          refine x_iload C dL_same_149 rfl ?_
          refine x_iload C dL_same_151 rfl ?_
          refine x_callV C (c_X4_wordOf_ok (by omega) hp hj) kv_X4_wordOf kl_L_45 dL_same_153 wput_0 wput_cs wput_cs.symm rfl rfl (Nat.le_of_ble_eq_true rfl) (Nat.le_of_ble_eq_true rfl) (Nat.le_of_ble_eq_true rfl) (Nat.le_of_ble_eq_true rfl) (Nat.le_of_ble_eq_true rfl) ?_
          refine x_iload C dL_same_156 rfl ?_
          refine x_ic_eq C 163 dL_same_158 (by decide) (fun _ => ?_) (fun h => absurd rfl h)
          refine x_iconst (v := 0) C dL_same_163 (by decide) ?_
          refine x_istore C dL_same_164 (by decide) rfl ?_
          refine xX.cl (h4 0 (by omega)) rfl (And.intro rfl (And.intro rfl (And.intro rfl (And.intro rfl (And.intro rfl (And.intro rfl (And.intro rfl (And.intro rfl (And.intro rfl (And.intro rfl (And.intro rfl (And.intro rfl (And.intro rfl (And.intro rfl trivial)))))))))))))) rfl
        · intro k hk ih3
          refine x_iload C dL_same_108 rfl ?_
          refine x_iload C dL_same_110 rfl ?_
          refine x_ic_ge C 148 dL_same_112 (by decide) (fun h => absurd h (nI_ge hk (by omega))) (fun _ => ?_)
          refine x_iload C dL_same_115 rfl ?_
          refine xX.mrg 139 (if wfS (VV 0 i) j ≠ none ∧ wfS (VV 0 i) k = wfS (VV 0 i) j then 1 else 0) (fun hk139 => ?_) ?_
          · refine x_iload C dL_same_117 rfl ?_
            refine x_if_lt C 138 dL_same_119 (by decide) (fun h119 => ?_) (fun h119 => ?_)
            · refine x_iconst (v := 0) C dL_same_138 (by decide) ?_
              exact xX.vl hk139 (if_neg (fun z => z.1 (wfS_lt.mp h119)))
            · refine x_iload C dL_same_122 rfl ?_
              refine x_aload C dL_same_124 rfl ?_
              refine x_callS C (c_L_word (wput_r hi) (show k < 6 by omega)) ks_L_word kl_L_16 dL_same_126 rfl rfl rfl rfl (Nat.le_of_ble_eq_true rfl) (Nat.le_of_ble_eq_true rfl) (Nat.le_of_ble_eq_true rfl) (Nat.le_of_ble_eq_true rfl) (Nat.le_of_ble_eq_true rfl) ?_
              rw [wd_e hr (show k < 6 by omega)]
              refine x_iload C dL_same_129 rfl ?_
              refine x_ic_ne C 138 dL_same_131 (by decide) (fun h131 => ?_) (fun h131 => ?_)
              · refine x_iconst (v := 0) C dL_same_138 (by decide) ?_
                exact xX.vl hk139 (if_neg (fun z => h131 (congrArg oI z.2)))
              · refine x_iconst (v := 1) C dL_same_134 (by decide) ?_
                refine x_goto C 139 dL_same_135 (by decide) ?_
                exact xX.vl hk139 (if_pos ⟨fun z => h119 (wfS_lt.mpr z), wfS_ij.mp h131⟩)
          refine x_iadd C dL_same_139 ?_
          refine x_istore C dL_same_140 (by decide) rfl ?_
          refine x_iinc C dL_same_142 rfl (nI_inc _) (by decide) rfl ?_
          refine x_goto C 108 dL_same_145 (by decide) ?_
          refine xX.cl (ih3) rfl (And.intro rfl (And.intro rfl (And.intro rfl (And.intro rfl (And.intro rfl (And.intro rfl (And.intro rfl (And.intro rfl (And.intro rfl (And.intro rfl (And.intro rfl (And.intro (congrArg (fun z => some (some (Value.int z))) tw_s) (And.intro rfl (And.intro rfl (And.intro rfl trivial))))))))))))))) rfl
      refine x_iload C dL_same_74 rfl ?_
      refine x_bipush (v := 6) C dL_same_76 (by decide) ?_
      refine x_ic_ge C 249 dL_same_78 (by decide) (fun h => absurd h (nI_ge (b := 6) hj (by decide))) (fun _ => ?_)
      refine x_iload C dL_same_81 rfl ?_
      refine x_aload C dL_same_83 rfl ?_
      refine x_callS C (c_L_word (wput_r hi) hj) ks_L_word kl_L_16 dL_same_85 rfl rfl rfl rfl (Nat.le_of_ble_eq_true rfl) (Nat.le_of_ble_eq_true rfl) (Nat.le_of_ble_eq_true rfl) (Nat.le_of_ble_eq_true rfl) (Nat.le_of_ble_eq_true rfl) ?_
      rw [wd_e hr hj]
      refine x_istore C dL_same_88 (by decide) rfl ?_
      refine x_iload C dL_same_90 rfl ?_
      refine xX.mrg 102 (if wfS (VV 0 i) j = none then 0 else 1) (fun hk102 => ?_) ?_
      · refine x_iload C dL_same_92 rfl ?_
        refine x_if_ge C 101 dL_same_94 (by decide) (fun h94 => ?_) (fun h94 => ?_)
        · refine x_iconst (v := 1) C dL_same_101 (by decide) ?_
          exact xX.vl hk102 (if_neg (wfS_ge.mp h94))
        · refine x_iconst (v := 0) C dL_same_97 (by decide) ?_
          refine x_goto C 102 dL_same_98 (by decide) ?_
          exact xX.vl hk102 (if_pos (wfS_lt.mp (Int32.not_le.mp h94)))
      refine x_iadd C dL_same_102 ?_
      refine x_istore C dL_same_103 (by decide) rfl ?_
      refine x_iconst (v := 0) C dL_same_105 (by decide) ?_
      refine x_istore C dL_same_106 (by decide) rfl ?_
      refine xX.cl (h3 0 (Nat.zero_le _)) rfl (And.intro rfl (And.intro rfl (And.intro rfl (And.intro rfl (And.intro rfl (And.intro rfl (And.intro rfl (And.intro rfl (And.intro rfl (And.intro rfl (And.intro (congrArg (fun z => some (some (Value.int z))) cw_s) (And.intro rfl (And.intro rfl (And.intro rfl (And.intro rfl trivial))))))))))))))) rfl
  refine x_iconst (v := 0) C dL_same_65 (by decide) ?_
  refine x_istore C dL_same_66 (by decide) rfl ?_
  refine x_iconst (v := 0) C dL_same_68 (by decide) ?_
  refine x_istore C dL_same_69 (by decide) rfl ?_
  refine x_iconst (v := 0) C dL_same_71 (by decide) ?_
  refine x_istore C dL_same_72 (by decide) rfl ?_
  refine xX.cl (h2 0 (by omega)) rfl (And.intro rfl (And.intro rfl (And.intro rfl (And.intro rfl (And.intro rfl (And.intro rfl (And.intro rfl (And.intro (congrArg (fun z => some (some (Value.int z))) (Int32.add_zero S).symm) (And.intro rfl (And.intro rfl (And.intro rfl (And.intro rfl (And.intro rfl trivial))))))))))))) rfl
set_option maxRecDepth 100000 in
set_option maxHeartbeats 4000000 in
theorem sm_B {k0 : xT} {l : Launch} {E : xEnv} {B N : Nat} {σ : Sg} {VV : Cs} {p z n : Nat} {tx : Fn} {Q : Fn} {R : Nat → Fn} {i : Nat} {x6 S : Int32} (hi : i < 4) (hp : VV 0 10 i = 1) (H : LR (VV 0) Q R 99 0 0) (C : xC k0 l E B cL_same 21 (some .boolean) yL_same.cls yL_same.name 6 136 6 60) (kk : xX k0 N 0 0 (wput E (cput E σ B VV (nI p) (nI z) (nI n) tx) (B + 165) Q R) 361 [some (.ref B), some (.ref (B + 165)), some (.ref (B + 165 + 1)), some (.ref (B + 165 + 2)), some (.ref (B + 165 + 3)), some (.ref (B + 165 + 4)), some (.int x6), some (.int S), some (.int (nI i)), some (.ref (B + 165 + 1 + i)), none, none, none, none, none, none, none, none, none, none, none] []) : xX k0 N 0 0 (wput E (cput E σ B VV (nI p) (nI z) (nI n) tx) (B + 165) Q R) 285 [some (.ref B), some (.ref (B + 165)), some (.ref (B + 165 + 1)), some (.ref (B + 165 + 2)), some (.ref (B + 165 + 3)), some (.ref (B + 165 + 4)), some (.int x6), some (.int S), some (.int (nI i)), some (.ref (B + 165 + 1 + i)), some (.int (nI (cwN (VV 0 i) 6))), some (.int (nI (twT (VV 0 i) 6))), none, none, none, none, none, none, none, none, none] [] := by
  obtain ⟨-, g9, g13, -⟩ := (H.sr hi).is hp
  have g5 : Q 5 = VV 0 8 0 := H.q5 (j := 0) (by decide)
  refine x_aload_n C dL_same_285 rfl ?_
  refine x_iload C dL_same_286 rfl ?_
  refine x_iconst (v := 0) C dL_same_288 (by decide) ?_
  refine x_callV C (c_X4_speaker_ok (by omega) hp (j := 0) (by decide)) kv_X4_speaker kl_L_39 dL_same_289 wput_0 wput_cs wput_cs.symm rfl rfl (Nat.le_of_ble_eq_true rfl) (Nat.le_of_ble_eq_true rfl) (Nat.le_of_ble_eq_true rfl) (Nat.le_of_ble_eq_true rfl) (Nat.le_of_ble_eq_true rfl) ?_
  refine x_aload_n C dL_same_292 rfl ?_
  refine x_bipush (v := 9) C dL_same_293 (by decide) ?_
  refine x_iload C dL_same_295 rfl ?_
  refine x_iadd C dL_same_297 ?_
  refine x_iald2 C wput_q (ix9 i) (by omega) (by decide) dL_same_298 ?_
  refine x_ic_ne C 359 dL_same_299 (by decide) (fun h => absurd (show nsS (VV 0) i 0 = Q (9 + i) from g9.symm) h) (fun _ => ?_)
  refine x_aload_n C dL_same_302 rfl ?_
  refine x_iload C dL_same_303 rfl ?_
  refine x_iconst (v := 1) C dL_same_305 (by decide) ?_
  refine x_callV C (c_X4_speaker_ok (by omega) hp (j := 1) (by decide)) kv_X4_speaker kl_L_39 dL_same_306 wput_0 wput_cs wput_cs.symm rfl rfl (Nat.le_of_ble_eq_true rfl) (Nat.le_of_ble_eq_true rfl) (Nat.le_of_ble_eq_true rfl) (Nat.le_of_ble_eq_true rfl) (Nat.le_of_ble_eq_true rfl) ?_
  refine x_iload C dL_same_309 rfl ?_
  refine x_aload_n C dL_same_311 rfl ?_
  refine x_callS C (c_L_learns wput_q hi) ks_L_learns kl_L_28 dL_same_312 rfl rfl rfl rfl (Nat.le_of_ble_eq_true rfl) (Nat.le_of_ble_eq_true rfl) (Nat.le_of_ble_eq_true rfl) (Nat.le_of_ble_eq_true rfl) (Nat.le_of_ble_eq_true rfl) ?_
  refine x_ic_ne C 359 dL_same_315 (by decide) (fun h => absurd (show nsS (VV 0) i 1 = lnS (Q (9 + i)) (Q 5) by rw [g9, g5]; rfl) h) (fun _ => ?_)
  refine x_aload_n C dL_same_318 rfl ?_
  refine x_iload C dL_same_319 rfl ?_
  refine x_iconst (v := 2) C dL_same_321 (by decide) ?_
  refine x_callV C (c_X4_speaker_ok (by omega) hp (j := 2) (by decide)) kv_X4_speaker kl_L_39 dL_same_322 wput_0 wput_cs wput_cs.symm rfl rfl (Nat.le_of_ble_eq_true rfl) (Nat.le_of_ble_eq_true rfl) (Nat.le_of_ble_eq_true rfl) (Nat.le_of_ble_eq_true rfl) (Nat.le_of_ble_eq_true rfl) ?_
  refine x_iload C dL_same_325 rfl ?_
  refine x_ic_ne C 359 dL_same_327 (by decide) (fun h => absurd rfl h) (fun _ => ?_)
  refine x_aload_n C dL_same_330 rfl ?_
  refine x_iload C dL_same_331 rfl ?_
  refine x_iconst (v := 3) C dL_same_333 (by decide) ?_
  refine x_callV C (c_X4_speaker_ok (by omega) hp (j := 3) (by decide)) kv_X4_speaker kl_L_39 dL_same_334 wput_0 wput_cs wput_cs.symm rfl rfl (Nat.le_of_ble_eq_true rfl) (Nat.le_of_ble_eq_true rfl) (Nat.le_of_ble_eq_true rfl) (Nat.le_of_ble_eq_true rfl) (Nat.le_of_ble_eq_true rfl) ?_
  refine x_iload C dL_same_337 rfl ?_
  refine x_ic_ne C 359 dL_same_339 (by decide) (fun h => absurd (congrArg nI tw_e.symm) h) (fun _ => ?_)
  refine x_aload_n C dL_same_342 rfl ?_
  refine x_iload C dL_same_343 rfl ?_
  refine x_iconst (v := 4) C dL_same_345 (by decide) ?_
  refine x_callV C (c_X4_speaker_ok (by omega) hp (j := 4) (by decide)) kv_X4_speaker kl_L_39 dL_same_346 wput_0 wput_cs wput_cs.symm rfl rfl (Nat.le_of_ble_eq_true rfl) (Nat.le_of_ble_eq_true rfl) (Nat.le_of_ble_eq_true rfl) (Nat.le_of_ble_eq_true rfl) (Nat.le_of_ble_eq_true rfl) ?_
  refine x_aload_n C dL_same_349 rfl ?_
  refine x_bipush (v := 13) C dL_same_350 (by decide) ?_
  refine x_iload C dL_same_352 rfl ?_
  refine x_iadd C dL_same_354 ?_
  refine x_iald2 C wput_q (ix13 i) (by omega) (by decide) dL_same_355 ?_
  refine x_ic_eq C 361 dL_same_356 (by decide) (fun _ => ?_) (fun h => absurd (show nsS (VV 0) i 4 = Q (13 + i) from g13.symm) h)
  refine xX.cl (kk) rfl (And.intro rfl (And.intro rfl (And.intro rfl (And.intro rfl (And.intro rfl (And.intro rfl (And.intro rfl (And.intro rfl (And.intro rfl (And.intro rfl trivial)))))))))) rfl
set_option maxRecDepth 100000 in
set_option maxHeartbeats 4000000 in
theorem sm_C {k0 : xT} {l : Launch} {E : xEnv} {B N : Nat} {σ : Sg} {VV : Cs} {p z n : Nat} {tx : Fn} {Q : Fn} {R : Nat → Fn} {i : Nat} {x6 S : Int32} (hi : i < 4) (hp : VV 0 10 i = 1) (H : LR (VV 0) Q R 99 0 0) (C : xC k0 l E B cL_same 21 (some .boolean) yL_same.cls yL_same.name 6 136 6 60) (kk : xX k0 N 0 0 (wput E (cput E σ B VV (nI p) (nI z) (nI n) tx) (B + 165) Q R) 612 [some (.ref B), some (.ref (B + 165)), some (.ref (B + 165 + 1)), some (.ref (B + 165 + 2)), some (.ref (B + 165 + 3)), some (.ref (B + 165 + 4)), some (.int x6), some (.int S), some (.int (nI i)), none, none, none, none, none, none, none, none, none, none, none, none] []) : xX k0 N 0 0 (wput E (cput E σ B VV (nI p) (nI z) (nI n) tx) (B + 165) Q R) 361 [some (.ref B), some (.ref (B + 165)), some (.ref (B + 165 + 1)), some (.ref (B + 165 + 2)), some (.ref (B + 165 + 3)), some (.ref (B + 165 + 4)), some (.int x6), some (.int S), some (.int (nI i)), some (.ref (B + 165 + 1 + i)), none, none, none, none, none, none, none, none, none, none, none] [] := by
  have hr : WR1 (R i) (VV 0 i) := H.row hi hp
  have h6 : ∀ t, t ≤ 4 → xX k0 N 0 0 (wput E (cput E σ B VV (nI p) (nI z) (nI n) tx) (B + 165) Q R) 371 [some (.ref B), some (.ref (B + 165)), some (.ref (B + 165 + 1)), some (.ref (B + 165 + 2)), some (.ref (B + 165 + 3)), some (.ref (B + 165 + 4)), some (.int x6), some (.int S), some (.int (nI i)), some (.ref (B + 165 + 1 + i)), none, none, some (.int (oI (bsL (VV 0) i t))), some (.int (bsG (VV 0) i (bsL (VV 0) i t))), some (.int (nI t)), none, none, none, none, none, none] [] := by
    refine x_for 4 ?_ ?_
    · refine x_iload C dL_same_371 rfl ?_
      refine x_iconst (v := 4) C dL_same_373 (by decide) ?_
      refine x_ic_ge C 599 dL_same_374 (by decide) (fun _ => ?_) (fun h => absurd (nI_le (a := 4) (Nat.le_refl _) (by decide)) h)
      refine x_aload_n C dL_same_599 rfl ?_
      refine x_iload C dL_same_600 rfl ?_
      refine x_callV C (c_X4_bestSayer_ok (by omega) hp) kv_X4_bestSayer kl_L_61 dL_same_602 wput_0 wput_cs wput_cs.symm rfl rfl (Nat.le_of_ble_eq_true rfl) (Nat.le_of_ble_eq_true rfl) (Nat.le_of_ble_eq_true rfl) (Nat.le_of_ble_eq_true rfl) (Nat.le_of_ble_eq_true rfl) ?_
      refine x_iload C dL_same_605 rfl ?_
      refine x_ic_eq C 612 dL_same_607 (by decide) (fun _ => ?_) (fun h => absurd (congrArg oI (H.bs i)) h)
      refine xX.cl (kk) rfl (And.intro rfl (And.intro rfl (And.intro rfl (And.intro rfl (And.intro rfl (And.intro rfl (And.intro rfl (And.intro rfl (And.intro rfl trivial))))))))) rfl
    · intro t ht ih
      by_cases hpt : VV 0 10 t = 1
      · have hv : WR1 (R t) (VV 0 t) := H.row ht hpt
        have h7 : ∀ m, m ≤ 6 → xX k0 N 0 0 (wput E (cput E σ B VV (nI p) (nI z) (nI n) tx) (B + 165) Q R) 415 [some (.ref B), some (.ref (B + 165)), some (.ref (B + 165 + 1)), some (.ref (B + 165 + 2)), some (.ref (B + 165 + 3)), some (.ref (B + 165 + 4)), some (.int x6), some (.int S), some (.int (nI i)), some (.ref (B + 165 + 1 + i)), none, none, some (.int (oI (bsL (VV 0) i t))), some (.int (bsG (VV 0) i (bsL (VV 0) i t))), some (.int (nI t)), some (.ref (B + 165 + 1 + t)), some (.int (nI (agN (VV 0) i t m))), some (.int (nI (unN (VV 0) i t m))), some (.int (nI (unN (VV 0) t i m))), some (.int (nI m)), none] [] := by
          refine x_for 6 ?_ ?_
          · refine x_iload C dL_same_415 rfl ?_
            refine x_bipush (v := 6) C dL_same_417 (by decide) ?_
            refine x_ic_ge C 528 dL_same_419 (by decide) (fun _ => ?_) (fun h => absurd (nI_le (a := 6) (Nat.le_refl _) (by decide)) h)
            refine x_aload_n C dL_same_528 rfl ?_
            refine x_iload C dL_same_529 rfl ?_
            refine x_iload C dL_same_531 rfl ?_
            refine x_iconst (v := 0) C dL_same_533 (by decide) ?_
            refine x_callV C (c_X4_agreement_w0 (by omega) hp (by omega) hpt) kv_X4_agreement kl_L_55 dL_same_534 wput_0 wput_cs wput_cs.symm rfl rfl (Nat.le_of_ble_eq_true rfl) (Nat.le_of_ble_eq_true rfl) (Nat.le_of_ble_eq_true rfl) (Nat.le_of_ble_eq_true rfl) (Nat.le_of_ble_eq_true rfl) ?_
            refine x_iload C dL_same_537 rfl ?_
            refine x_ic_ne C 569 dL_same_539 (by decide) (fun h => absurd rfl h) (fun _ => ?_)
            refine x_aload_n C dL_same_542 rfl ?_
            refine x_iload C dL_same_543 rfl ?_
            refine x_iload C dL_same_545 rfl ?_
            refine x_iconst (v := 1) C dL_same_547 (by decide) ?_
            refine x_callV C (c_X4_agreement_w1 (by omega) hp (by omega) hpt) kv_X4_agreement kl_L_55 dL_same_548 wput_0 wput_cs wput_cs.symm rfl rfl (Nat.le_of_ble_eq_true rfl) (Nat.le_of_ble_eq_true rfl) (Nat.le_of_ble_eq_true rfl) (Nat.le_of_ble_eq_true rfl) (Nat.le_of_ble_eq_true rfl) ?_
            refine x_iload C dL_same_551 rfl ?_
            refine x_ic_ne C 569 dL_same_553 (by decide) (fun h => absurd (congrArg nI aw_e) h) (fun _ => ?_)
            refine x_aload_n C dL_same_556 rfl ?_
            refine x_iload C dL_same_557 rfl ?_
            refine x_iload C dL_same_559 rfl ?_
            refine x_callV C (c_X4_understanding_ok (by omega) hp (by omega) hpt) kv_X4_understanding kl_L_58 dL_same_561 wput_0 wput_cs wput_cs.symm rfl rfl (Nat.le_of_ble_eq_true rfl) (Nat.le_of_ble_eq_true rfl) (Nat.le_of_ble_eq_true rfl) (Nat.le_of_ble_eq_true rfl) (Nat.le_of_ble_eq_true rfl) ?_
            refine x_iload C dL_same_564 rfl ?_
            refine x_ic_eq C 571 dL_same_566 (by decide) (fun _ => ?_) (fun h => absurd rfl h)
            by_cases he : t = i
            · refine x_iload C dL_same_571 rfl ?_
              refine x_iload C dL_same_573 rfl ?_
              refine x_ic_eq C 593 dL_same_575 (by decide) (fun _ => ?_) (fun h => absurd (congrArg nI he) h)
              refine x_iinc C dL_same_593 rfl (nI_inc _) (by decide) rfl ?_
              refine x_goto C 371 dL_same_596 (by decide) ?_
              refine xX.cl (ih) rfl (And.intro rfl (And.intro rfl (And.intro rfl (And.intro rfl (And.intro rfl (And.intro rfl (And.intro rfl (And.intro rfl (And.intro rfl (And.intro rfl (And.intro (congrArg (fun z => some (some (Value.int z))) (congrArg oI (bsL_sk (Or.inr he)).symm)) (And.intro (congrArg (fun z => some (some (Value.int z))) (congrArg (bsG (VV 0) i) (bsL_sk (Or.inr he)).symm)) (And.intro rfl trivial))))))))))))) rfl
            · cases hb0 : (bsL (VV 0) i t) with
              | none =>
                have hk0 : ¬ nI (unN (VV 0) t i 6) ≤ bsG (VV 0) i none := nI_nm1 (by have := unN_le (V := VV 0) (s := t) (h := i) 6; omega)
                refine x_iload C dL_same_571 rfl ?_
                refine x_iload C dL_same_573 rfl ?_
                refine x_ic_eq C 593 dL_same_575 (by decide) (fun h => absurd h (nI_neL (by omega) (by omega) he)) (fun _ => ?_)
                refine x_iload C dL_same_578 rfl ?_
                refine x_iload C dL_same_580 rfl ?_
                refine x_ic_le C 593 dL_same_582 (by decide) (fun h => absurd h hk0) (fun _ => ?_)
                refine x_iload C dL_same_585 rfl ?_
                refine x_istore C dL_same_587 (by decide) rfl ?_
                refine x_iload C dL_same_589 rfl ?_
                refine x_istore C dL_same_591 (by decide) rfl ?_
                refine x_iinc C dL_same_593 rfl (nI_inc _) (by decide) rfl ?_
                refine x_goto C 371 dL_same_596 (by decide) ?_
                refine xX.cl (ih) rfl (And.intro rfl (And.intro rfl (And.intro rfl (And.intro rfl (And.intro rfl (And.intro rfl (And.intro rfl (And.intro rfl (And.intro rfl (And.intro rfl (And.intro (congrArg (fun z => some (some (Value.int z))) (show nI t = oI (bsL (VV 0) i (t + 1)) by rw [bsL_n hpt he hb0]; rfl)) (And.intro (congrArg (fun z => some (some (Value.int z))) (show nI (unN (VV 0) t i 6) = bsG (VV 0) i (bsL (VV 0) i (t + 1)) by rw [bsL_n hpt he hb0]; rfl)) (And.intro rfl trivial))))))))))))) rfl
              | some y =>
                by_cases hc : unN (VV 0) t i 6 ≤ unN (VV 0) y i 6
                · refine x_iload C dL_same_571 rfl ?_
                  refine x_iload C dL_same_573 rfl ?_
                  refine x_ic_eq C 593 dL_same_575 (by decide) (fun h => absurd h (nI_neL (by omega) (by omega) he)) (fun _ => ?_)
                  refine x_iload C dL_same_578 rfl ?_
                  refine x_iload C dL_same_580 rfl ?_
                  refine x_ic_le C 593 dL_same_582 (by decide) (fun _ => ?_) (fun h => absurd (nI_le hc (by have := unN_le (V := VV 0) (s := y) (h := i) 6; omega)) h)
                  refine x_iinc C dL_same_593 rfl (nI_inc _) (by decide) rfl ?_
                  refine x_goto C 371 dL_same_596 (by decide) ?_
                  refine xX.cl (ih) rfl (And.intro rfl (And.intro rfl (And.intro rfl (And.intro rfl (And.intro rfl (And.intro rfl (And.intro rfl (And.intro rfl (And.intro rfl (And.intro rfl (And.intro (congrArg (fun z => some (some (Value.int z))) (show nI y = oI (bsL (VV 0) i (t + 1)) by rw [bsL_k hpt he hb0 hc]; rfl)) (And.intro (congrArg (fun z => some (some (Value.int z))) (show nI (unN (VV 0) y i 6) = bsG (VV 0) i (bsL (VV 0) i (t + 1)) by rw [bsL_k hpt he hb0 hc]; rfl)) (And.intro rfl trivial))))))))))))) rfl
                · refine x_iload C dL_same_571 rfl ?_
                  refine x_iload C dL_same_573 rfl ?_
                  refine x_ic_eq C 593 dL_same_575 (by decide) (fun h => absurd h (nI_neL (by omega) (by omega) he)) (fun _ => ?_)
                  refine x_iload C dL_same_578 rfl ?_
                  refine x_iload C dL_same_580 rfl ?_
                  refine x_ic_le C 593 dL_same_582 (by decide) (fun h => absurd h (fun z => hc ((nI_leI (by have := unN_le (V := VV 0) (s := t) (h := i) 6; omega) (by have := unN_le (V := VV 0) (s := y) (h := i) 6; omega)).mp z))) (fun _ => ?_)
                  refine x_iload C dL_same_585 rfl ?_
                  refine x_istore C dL_same_587 (by decide) rfl ?_
                  refine x_iload C dL_same_589 rfl ?_
                  refine x_istore C dL_same_591 (by decide) rfl ?_
                  refine x_iinc C dL_same_593 rfl (nI_inc _) (by decide) rfl ?_
                  refine x_goto C 371 dL_same_596 (by decide) ?_
                  refine xX.cl (ih) rfl (And.intro rfl (And.intro rfl (And.intro rfl (And.intro rfl (And.intro rfl (And.intro rfl (And.intro rfl (And.intro rfl (And.intro rfl (And.intro rfl (And.intro (congrArg (fun z => some (some (Value.int z))) (show nI t = oI (bsL (VV 0) i (t + 1)) by rw [bsL_u hpt he hb0 hc]; rfl)) (And.intro (congrArg (fun z => some (some (Value.int z))) (show nI (unN (VV 0) t i 6) = bsG (VV 0) i (bsL (VV 0) i (t + 1)) by rw [bsL_u hpt he hb0 hc]; rfl)) (And.intro rfl trivial))))))))))))) rfl
          · intro m hm ih7
            refine x_iload C dL_same_415 rfl ?_
            refine x_bipush (v := 6) C dL_same_417 (by decide) ?_
            refine x_ic_ge C 528 dL_same_419 (by decide) (fun h => absurd h (nI_ge (b := 6) hm (by decide))) (fun _ => ?_)
            refine x_iload C dL_same_422 rfl ?_
            refine x_aload C dL_same_424 rfl ?_
            refine x_callS C (c_L_word (wput_r hi) hm) ks_L_word kl_L_16 dL_same_426 rfl rfl rfl rfl (Nat.le_of_ble_eq_true rfl) (Nat.le_of_ble_eq_true rfl) (Nat.le_of_ble_eq_true rfl) (Nat.le_of_ble_eq_true rfl) (Nat.le_of_ble_eq_true rfl) ?_
            rw [wd_e hr hm]
            refine x_istore C dL_same_429 (by decide) rfl ?_
            refine x_iload C dL_same_431 rfl ?_
            refine xX.mrg 455 (if wfS (VV 0 i) m ≠ none ∧ wfS (VV 0 i) m = wfS (VV 0 t) m then 1 else 0) (fun hk455 => ?_) ?_
            · refine x_iload C dL_same_433 rfl ?_
              refine x_if_lt C 454 dL_same_435 (by decide) (fun h435 => ?_) (fun h435 => ?_)
              · refine x_iconst (v := 0) C dL_same_454 (by decide) ?_
                exact xX.vl hk455 (if_neg (fun z => z.1 (wfS_lt.mp h435)))
              · refine x_iload C dL_same_438 rfl ?_
                refine x_aload C dL_same_440 rfl ?_
                refine x_callS C (c_L_word (wput_r ht) hm) ks_L_word kl_L_16 dL_same_442 rfl rfl rfl rfl (Nat.le_of_ble_eq_true rfl) (Nat.le_of_ble_eq_true rfl) (Nat.le_of_ble_eq_true rfl) (Nat.le_of_ble_eq_true rfl) (Nat.le_of_ble_eq_true rfl) ?_
                rw [wd_e hv hm]
                refine x_iload C dL_same_445 rfl ?_
                refine x_ic_ne C 454 dL_same_447 (by decide) (fun h447 => ?_) (fun h447 => ?_)
                · refine x_iconst (v := 0) C dL_same_454 (by decide) ?_
                  exact xX.vl hk455 (if_neg (fun z => h447 (congrArg oI z.2.symm)))
                · refine x_iconst (v := 1) C dL_same_450 (by decide) ?_
                  refine x_goto C 455 dL_same_451 (by decide) ?_
                  exact xX.vl hk455 (if_pos ⟨fun z => h435 (wfS_lt.mpr z), (wfS_ij.mp h447).symm⟩)
            refine x_iadd C dL_same_455 ?_
            refine x_istore C dL_same_456 (by decide) rfl ?_
            refine x_iload C dL_same_458 rfl ?_
            refine xX.mrg 482 (nI (unT (VV 0) i t m)) (fun hk482 => ?_) ?_
            · refine x_iload C dL_same_460 rfl ?_
              rcases wfS_os (VV 0 i) m with hw1 | ⟨w1, hw1⟩
              · skip
                refine x_if_lt C 481 dL_same_462 (by decide) (fun _ => ?_) (fun h => absurd (wfS_lt.mpr hw1) h)
                refine x_iconst (v := 0) C dL_same_481 (by decide) ?_
                exact xX.vl hk482 (congrArg nI (unT_n hw1))
              · skip
                have hw10 : w1 < 10 := wf_10 hr hm hw1
                refine x_if_lt C 481 dL_same_462 (by decide) (fun h => absurd h (fun z => by rw [wfS_lt.mp z] at hw1; cases hw1)) (fun _ => ?_)
                refine x_iload C dL_same_465 rfl ?_
                refine x_aload C dL_same_467 rfl ?_
                refine x_callS C (c_L_heard_o (wput_r ht) hw10 hw1) ks_L_heard kl_L_22 dL_same_469 rfl rfl rfl rfl (Nat.le_of_ble_eq_true rfl) (Nat.le_of_ble_eq_true rfl) (Nat.le_of_ble_eq_true rfl) (Nat.le_of_ble_eq_true rfl) (Nat.le_of_ble_eq_true rfl) ?_
                rw [hd_e hv hw10]
                refine x_iload C dL_same_472 rfl ?_
                refine x_ic_ne C 481 dL_same_474 (by decide) (fun h474 => ?_) (fun h474 => ?_)
                · refine x_iconst (v := 0) C dL_same_481 (by decide) ?_
                  exact xX.vl hk482 (congrArg nI (unT_f hw1 (fun z => h474 ((haS_is (by omega)).mpr z))))
                · refine x_iconst (v := 1) C dL_same_477 (by decide) ?_
                  refine x_goto C 482 dL_same_478 (by decide) ?_
                  exact xX.vl hk482 (congrArg nI (unT_t hw1 ((haS_is (by omega)).mp h474)))
            refine x_iadd C dL_same_482 ?_
            refine x_istore C dL_same_483 (by decide) rfl ?_
            refine x_iload C dL_same_485 rfl ?_
            refine xX.mrg 519 (nI (unT (VV 0) t i m)) (fun hk519 => ?_) ?_
            · refine x_iload C dL_same_487 rfl ?_
              refine x_aload C dL_same_489 rfl ?_
              refine x_callS C (c_L_word (wput_r ht) hm) ks_L_word kl_L_16 dL_same_491 rfl rfl rfl rfl (Nat.le_of_ble_eq_true rfl) (Nat.le_of_ble_eq_true rfl) (Nat.le_of_ble_eq_true rfl) (Nat.le_of_ble_eq_true rfl) (Nat.le_of_ble_eq_true rfl) ?_
              rw [wd_e hv hm]
              rcases wfS_os (VV 0 t) m with hw1 | ⟨w1, hw1⟩
              · skip
                refine x_if_lt C 518 dL_same_494 (by decide) (fun _ => ?_) (fun h => absurd (wfS_lt.mpr hw1) h)
                refine x_iconst (v := 0) C dL_same_518 (by decide) ?_
                exact xX.vl hk519 (congrArg nI (unT_n hw1))
              · skip
                have hw10 : w1 < 10 := wf_10 hv hm hw1
                refine x_if_lt C 518 dL_same_494 (by decide) (fun h => absurd h (fun z => by rw [wfS_lt.mp z] at hw1; cases hw1)) (fun _ => ?_)
                refine x_iload C dL_same_497 rfl ?_
                refine x_aload C dL_same_499 rfl ?_
                refine x_callS C (c_L_word (wput_r ht) hm) ks_L_word kl_L_16 dL_same_501 rfl rfl rfl rfl (Nat.le_of_ble_eq_true rfl) (Nat.le_of_ble_eq_true rfl) (Nat.le_of_ble_eq_true rfl) (Nat.le_of_ble_eq_true rfl) (Nat.le_of_ble_eq_true rfl) ?_
                rw [wd_e hv hm]
                refine x_aload C dL_same_504 rfl ?_
                refine x_callS C (c_L_heard_o (wput_r hi) hw10 hw1) ks_L_heard kl_L_22 dL_same_506 rfl rfl rfl rfl (Nat.le_of_ble_eq_true rfl) (Nat.le_of_ble_eq_true rfl) (Nat.le_of_ble_eq_true rfl) (Nat.le_of_ble_eq_true rfl) (Nat.le_of_ble_eq_true rfl) ?_
                rw [hd_e hr hw10]
                refine x_iload C dL_same_509 rfl ?_
                refine x_ic_ne C 518 dL_same_511 (by decide) (fun h511 => ?_) (fun h511 => ?_)
                · refine x_iconst (v := 0) C dL_same_518 (by decide) ?_
                  exact xX.vl hk519 (congrArg nI (unT_f hw1 (fun z => h511 ((haS_is (by omega)).mpr z))))
                · refine x_iconst (v := 1) C dL_same_514 (by decide) ?_
                  refine x_goto C 519 dL_same_515 (by decide) ?_
                  exact xX.vl hk519 (congrArg nI (unT_t hw1 ((haS_is (by omega)).mp h511)))
            refine x_iadd C dL_same_519 ?_
            refine x_istore C dL_same_520 (by decide) rfl ?_
            refine x_iinc C dL_same_522 rfl (nI_inc _) (by decide) rfl ?_
            refine x_goto C 415 dL_same_525 (by decide) ?_
            refine xX.cl (ih7) rfl (And.intro rfl (And.intro rfl (And.intro rfl (And.intro rfl (And.intro rfl (And.intro rfl (And.intro rfl (And.intro rfl (And.intro rfl (And.intro rfl (And.intro rfl (And.intro rfl (And.intro rfl (And.intro rfl (And.intro (congrArg (fun z => some (some (Value.int z))) ag_s) (And.intro (congrArg (fun z => some (some (Value.int z))) (nI_add _ _)) (And.intro (congrArg (fun z => some (some (Value.int z))) (nI_add _ _)) (And.intro rfl trivial)))))))))))))))))) rfl
        refine x_iload C dL_same_371 rfl ?_
        refine x_iconst (v := 4) C dL_same_373 (by decide) ?_
        refine x_ic_ge C 599 dL_same_374 (by decide) (fun h => absurd h (nI_ge (b := 4) ht (by decide))) (fun _ => ?_)
        refine x_aload_n C dL_same_377 rfl ?_
        refine x_bipush (v := 9) C dL_same_378 (by decide) ?_
        refine x_iload C dL_same_380 rfl ?_
        refine x_iadd C dL_same_382 ?_
        refine x_iald2 C wput_q (ix9 t) (by omega) (by decide) dL_same_383 ?_
        refine x_if_ge C 390 dL_same_384 (by decide) (fun _ => ?_) (fun h => absurd ((H.pos (by decide) ht).mpr hpt) h)
        refine x_iload C dL_same_390 rfl ?_
        refine x_aload_n C dL_same_392 rfl ?_
        refine x_aload_n C dL_same_393 rfl ?_
        refine x_aload C dL_same_394 rfl ?_
        refine x_aload C dL_same_396 rfl ?_
        refine x_callS C (c_L_row ht) ks_L_row kl_L_35 dL_same_398 rfl rfl rfl rfl (Nat.le_of_ble_eq_true rfl) (Nat.le_of_ble_eq_true rfl) (Nat.le_of_ble_eq_true rfl) (Nat.le_of_ble_eq_true rfl) (Nat.le_of_ble_eq_true rfl) ?_
        refine x_astore C dL_same_401 (by decide) rfl ?_
        refine x_iconst (v := 0) C dL_same_403 (by decide) ?_
        refine x_istore C dL_same_404 (by decide) rfl ?_
        refine x_iconst (v := 0) C dL_same_406 (by decide) ?_
        refine x_istore C dL_same_407 (by decide) rfl ?_
        refine x_iconst (v := 0) C dL_same_409 (by decide) ?_
        refine x_istore C dL_same_410 (by decide) rfl ?_
        refine x_iconst (v := 0) C dL_same_412 (by decide) ?_
        refine x_istore C dL_same_413 (by decide) rfl ?_
        refine xX.cl (h7 0 (by omega)) rfl (And.intro rfl (And.intro rfl (And.intro rfl (And.intro rfl (And.intro rfl (And.intro rfl (And.intro rfl (And.intro rfl (And.intro rfl (And.intro rfl (And.intro rfl (And.intro rfl (And.intro rfl (And.intro rfl (And.intro rfl (And.intro rfl (And.intro rfl (And.intro rfl trivial)))))))))))))))))) rfl
      · refine x_iload C dL_same_371 rfl ?_
        refine x_iconst (v := 4) C dL_same_373 (by decide) ?_
        refine x_ic_ge C 599 dL_same_374 (by decide) (fun h => absurd h (nI_ge (b := 4) ht (by decide))) (fun _ => ?_)
        refine x_aload_n C dL_same_377 rfl ?_
        refine x_bipush (v := 9) C dL_same_378 (by decide) ?_
        refine x_iload C dL_same_380 rfl ?_
        refine x_iadd C dL_same_382 ?_
        refine x_iald2 C wput_q (ix9 t) (by omega) (by decide) dL_same_383 ?_
        refine x_if_ge C 390 dL_same_384 (by decide) (fun h => absurd h (fun z => hpt ((H.pos (by decide) ht).mp z))) (fun _ => ?_)
        refine x_goto C 593 dL_same_387 (by decide) ?_
        refine x_iinc C dL_same_593 rfl (nI_inc _) (by decide) rfl ?_
        refine x_goto C 371 dL_same_596 (by decide) ?_
        refine xX.cl (ih) rfl (And.intro rfl (And.intro rfl (And.intro rfl (And.intro rfl (And.intro rfl (And.intro rfl (And.intro rfl (And.intro rfl (And.intro rfl (And.intro rfl (And.intro (congrArg (fun z => some (some (Value.int z))) (congrArg oI (bsL_sk (Or.inl hpt)).symm)) (And.intro (congrArg (fun z => some (some (Value.int z))) (congrArg (bsG (VV 0) i) (bsL_sk (Or.inl hpt)).symm)) (And.intro rfl trivial))))))))))))) rfl
  refine x_bipush (v := (-6)) C dL_same_361 (by decide) ?_
  refine x_istore C dL_same_363 (by decide) rfl ?_
  refine x_iconst (v := (-1)) C dL_same_365 (by decide) ?_
  refine x_istore C dL_same_366 (by decide) rfl ?_
  refine x_iconst (v := 0) C dL_same_368 (by decide) ?_
  refine x_istore C dL_same_369 (by decide) rfl ?_
  refine xX.cl (h6 0 (by omega)) rfl (And.intro rfl (And.intro rfl (And.intro rfl (And.intro rfl (And.intro rfl (And.intro rfl (And.intro rfl (And.intro rfl (And.intro rfl (And.intro rfl (And.intro rfl (And.intro rfl (And.intro rfl trivial))))))))))))) rfl
