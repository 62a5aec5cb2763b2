/-! the law's loop -/
def xEnd (k : xT) : Prop := ∀ (N a b : Nat) (σ : Sg) (lv : List (Option Value)), a ≤ 600000 → b ≤ 7302250 → xX k N a b σ 1357 lv [.int 1]
def kdN (t : Nat) (X : Int32) : Nat := if t < 3 then 0 else if t < 9 then 6 else lwN2 X 22
theorem kdN_lt {t : Nat} {X : Int32} : kdN t X < 22 := by
  unfold kdN
  by_cases h : t < 3
  · rw [if_pos h]; decide
  · rw [if_neg h]
    by_cases h2 : t < 9
    · rw [if_pos h2]; decide
    · rw [if_neg h2]; exact lw_lt (by decide)
theorem kdN_0 {t : Nat} {X : Int32} (h : t < 3) : kdN t X = 0 := if_pos h
theorem kdN_6 {t : Nat} {X : Int32} (h : ¬ t < 3) (h2 : t < 9) : kdN t X = 6 := (if_neg h).trans (if_pos h2)
theorem kdN_x {t : Nat} {X : Int32} (h : ¬ t < 3) (h2 : ¬ t < 9) : kdN t X = lwN2 X 22 := (if_neg h).trans (if_neg h2)
set_option maxRecDepth 100000 in
set_option maxHeartbeats 4000000 in
theorem law_loop {k0 : xT} {l : Launch} {E : xEnv} {B bb L : Nat} {xs : Nat → Int32} {mn : String} {σ : Sg} {n : Nat} {tx : Fn} (C : xC k0 l E B cL_law 27 ret RL mn 9 352 600000 7302250) (hX : xScr k0 bb L xs) (hbb : bb < B) (hL : L < 2 ^ 31) (hE : xEnd k0) : ∀ t, t ≤ 46 → ∀ (VV : Cs) (p z : Nat) (Q : Fn) (R : Nat → Fn) (N a b : Nat), p < 6 → z ≤ 6 → LR (VV 0) Q R 99 0 0 → B + 170 ≤ N → a ≤ 170 + 6 * t → b ≤ 7000 + 60 * t → xX k0 N a b (wput E (cput E σ B VV (nI p) (nI z) (nI n) tx) (B + 165) Q R) 86 [some (.ref bb), some (.ref B), some (.ref (B + 165)), some (.ref (B + 165 + 1)), some (.ref (B + 165 + 2)), some (.ref (B + 165 + 3)), some (.ref (B + 165 + 4)), some (.int (nI t)), none, none, none, none, none, none, none, none, none, none, none, none, none, none, none, none, none, none, none] [] := by
  refine x_for 46 ?_ ?_
  · intro VV p z Q R N a b hp6 hz H hN ha hb
    refine x_iload C dL_law_86 rfl ?_
    refine x_bipush (v := 46) C dL_law_88 (by decide) ?_
    refine x_ic_ge C 1356 dL_law_90 (by decide) (fun _ => ?_) (fun h => absurd (nI_le (a := 46) (Nat.le_refl _) (by decide)) h)
    refine x_iconst (v := 1) C dL_law_1356 (by decide) ?_
    exact hE _ _ _ _ _ (by omega) (by omega)
  · intro t ht ih VV p z Q R N a b hp6 hz H hN ha hb
    have J2 : ∀ (VV : Cs) (p z : Nat) (Q : Fn) (R : Nat → Fn) (N a b : Nat), p < 6 → z ≤ 6 → LR (VV 0) Q R 99 0 0 → B + 170 ≤ N → a ≤ 170 + 6 * (t + 1) → b ≤ 7000 + 60 * (t + 1) → xX k0 N a b (wput E (cput E σ B VV (nI p) (nI z) (nI n) tx) (B + 165) Q R) 1350 [some (.ref bb), some (.ref B), some (.ref (B + 165)), some (.ref (B + 165 + 1)), some (.ref (B + 165 + 2)), some (.ref (B + 165 + 3)), some (.ref (B + 165 + 4)), some (.int (nI t)), none, none, none, none, none, none, none, none, none, none, none, none, none, none, none, none, none, none, none] [] := by
      intro VV p z Q R N a b hp6 hz H hN ha hb
      refine x_iinc C dL_law_1350 rfl (nI_inc t) (by decide) rfl ?_
      refine x_goto C 86 dL_law_1353 (by decide) ?_
      refine xX.cl (ih VV p z Q R N a b hp6 hz H hN ha hb) rfl (And.intro rfl (And.intro rfl (And.intro rfl (And.intro rfl (And.intro rfl (And.intro rfl (And.intro rfl (And.intro rfl trivial)))))))) rfl
    have J1 : ∀ (VV : Cs) (p z : Nat) (Q : Fn) (R : Nat → Fn), p < 6 → z ≤ 6 → LR (VV 0) Q R 99 0 0 → xX k0 N a b (wput E (cput E σ B VV (nI p) (nI z) (nI n) tx) (B + 165) Q R) 1333 [some (.ref bb), some (.ref B), some (.ref (B + 165)), some (.ref (B + 165 + 1)), some (.ref (B + 165 + 2)), some (.ref (B + 165 + 3)), some (.ref (B + 165 + 4)), some (.int (nI t)), none, none, none, none, none, none, none, none, none, none, none, none, none, none, none, none, none, none, none] [] := by
      intro VV p z Q R hp6 hz H
      refine x_aload_n C dL_law_1333 rfl ?_
      refine x_aload_n C dL_law_1334 rfl ?_
      refine x_aload_n C dL_law_1335 rfl ?_
      refine x_aload C dL_law_1336 rfl ?_
      refine x_aload C dL_law_1338 rfl ?_
      refine x_aload C dL_law_1340 rfl ?_
      refine x_callS C (c_L_same (p := p) (z := z) (n := n) (tx := tx) hN H) ks_L_same kl_L_115 dL_law_1342 rfl rfl rfl rfl (Nat.le_of_ble_eq_true rfl) (Nat.le_of_ble_eq_true rfl) (Nat.le_of_ble_eq_true rfl) (by omega) (by omega) ?_
      refine x_if_ne C 1350 dL_law_1345 (by decide) (fun _ => ?_) (fun h => absurd h (by decide))
      refine xX.cl (J2 _ p z Q R _ _ _ hp6 hz (by rw [upV_s]; exact LR_uc H 6) (by omega) (by omega) (by omega)) rfl (And.intro rfl (And.intro rfl (And.intro rfl (And.intro rfl (And.intro rfl (And.intro rfl (And.intro rfl (And.intro rfl trivial)))))))) rfl
    have J2a := J2 VV p z Q R N a b hp6 hz H hN (by omega) (by omega)
    refine x_iload C dL_law_86 rfl ?_
    refine x_bipush (v := 46) C dL_law_88 (by decide) ?_
    refine x_ic_ge C 1356 dL_law_90 (by decide) (fun h => absurd h (nI_ge (b := 46) ht (by decide))) (fun _ => ?_)
    refine x_aload_n C dL_law_93 rfl ?_
    refine x_iconst (v := 2) C dL_law_94 (by decide) ?_
    refine x_iload C dL_law_95 rfl ?_
    refine x_imul C dL_law_97 ?_
    rw [ix2]
    refine x_callSs C hX (c_L_cell hbb hL (q := 2 * t) (by omega)) ks_L_cell kl_L_75 dL_law_98 rfl rfl rfl rfl (Nat.le_of_ble_eq_true rfl) (Nat.le_of_ble_eq_true rfl) (Nat.le_of_ble_eq_true rfl) (by omega) (by omega) ?_
    generalize cvS xs L (2 * t) = X
    refine x_istore C dL_law_101 (by decide) rfl ?_
    refine x_aload_n C dL_law_103 rfl ?_
    refine x_iconst (v := 2) C dL_law_104 (by decide) ?_
    refine x_iload C dL_law_105 rfl ?_
    refine x_imul C dL_law_107 ?_
    refine x_iconst (v := 1) C dL_law_108 (by decide) ?_
    refine x_iadd C dL_law_109 ?_
    rw [ix2, nI_1]
    refine x_callSs C hX (c_L_cell hbb hL (q := 2 * t + 1) (by omega)) ks_L_cell kl_L_75 dL_law_110 rfl rfl rfl rfl (Nat.le_of_ble_eq_true rfl) (Nat.le_of_ble_eq_true rfl) (Nat.le_of_ble_eq_true rfl) (by omega) (by omega) ?_
    generalize cvS xs L (2 * t + 1) = Y
    refine x_istore C dL_law_113 (by decide) rfl ?_
    refine xX.mrg 144 (nI (kdN t X)) (fun hk144 => ?_) ?_
    · refine x_iload C dL_law_115 rfl ?_
      refine x_iconst (v := 3) C dL_law_117 (by decide) ?_
      refine x_ic_ge C 125 dL_law_118 (by decide) (fun h118 => ?_) (fun h118 => ?_)
      · have g3 : ¬ t < 3 := fun z => absurd h118 (nI_ge (b := 3) z (by decide))
        refine x_iload C dL_law_125 rfl ?_
        refine x_bipush (v := 9) C dL_law_127 (by decide) ?_
        refine x_ic_ge C 137 dL_law_129 (by decide) (fun h129 => ?_) (fun h129 => ?_)
        · have g9 : ¬ t < 9 := fun z => absurd h129 (nI_ge (b := 9) z (by decide))
          refine x_iload C dL_law_137 rfl ?_
          refine x_bipush (v := 22) C dL_law_139 (by decide) ?_
          refine x_callS C (c_L_low _ (n := 22) (by omega) (by omega)) ks_L_low kl_L_79 dL_law_141 rfl rfl rfl rfl (Nat.le_of_ble_eq_true rfl) (Nat.le_of_ble_eq_true rfl) (Nat.le_of_ble_eq_true rfl) (by omega) (by omega) ?_
          exact xX.vl hk144 (congrArg nI (kdN_x g3 g9))
        · have g9 : t < 9 := Nat.not_le.mp (fun z => h129 (nI_le (a := 9) z (by omega)))
          refine x_bipush (v := 6) C dL_law_132 (by decide) ?_
          refine x_goto C 144 dL_law_134 (by decide) ?_
          exact xX.vl hk144 (congrArg nI (kdN_6 g3 g9))
      · have g3 : t < 3 := Nat.not_le.mp (fun z => h118 (nI_le (a := 3) z (by omega)))
        refine x_iconst (v := 0) C dL_law_121 (by decide) ?_
        refine x_goto C 144 dL_law_122 (by decide) ?_
        exact xX.vl hk144 (congrArg nI (kdN_0 g3))
    refine x_istore C dL_law_144 (by decide) rfl ?_
    have hkd : kdN t X < 22 := kdN_lt
    generalize kdN t X = kd at hkd ⊢
    refine x_iload C dL_law_146 rfl ?_
    refine x_iconst (v := 4) C dL_law_148 (by decide) ?_
    refine x_callS C (c_L_low _ (n := 4) (by omega) (by omega)) ks_L_low kl_L_79 dL_law_149 rfl rfl rfl rfl (Nat.le_of_ble_eq_true rfl) (Nat.le_of_ble_eq_true rfl) (Nat.le_of_ble_eq_true rfl) (by omega) (by omega) ?_
    have hw4 : lwN2 Y 4 < 4 := lw_lt (by decide)
    generalize lwN2 Y 4 = who at hw4 ⊢
    refine x_istore C dL_law_152 (by decide) rfl ?_
    refine x_iload C dL_law_154 rfl ?_
    refine x_iconst (v := 2) C dL_law_156 (by decide) ?_
    refine x_ishr C dL_law_157 ?_
    refine x_iconst (v := 4) C dL_law_158 (by decide) ?_
    refine x_callS C (c_L_low _ (n := 4) (by omega) (by omega)) ks_L_low kl_L_79 dL_law_159 rfl rfl rfl rfl (Nat.le_of_ble_eq_true rfl) (Nat.le_of_ble_eq_true rfl) (Nat.le_of_ble_eq_true rfl) (by omega) (by omega) ?_
    have ho4 : lwN2 (Y >>> (2 &&& 31)) 4 < 4 := lw_lt (by decide)
    generalize lwN2 (Y >>> (2 &&& 31)) 4 = other at ho4 ⊢
    refine x_istore C dL_law_162 (by decide) rfl ?_
    refine x_iload C dL_law_164 rfl ?_
    refine x_iconst (v := 4) C dL_law_166 (by decide) ?_
    refine x_ishr C dL_law_167 ?_
    refine x_bipush (v := 6) C dL_law_168 (by decide) ?_
    refine x_callS C (c_L_low _ (n := 6) (by omega) (by omega)) ks_L_low kl_L_79 dL_law_170 rfl rfl rfl rfl (Nat.le_of_ble_eq_true rfl) (Nat.le_of_ble_eq_true rfl) (Nat.le_of_ble_eq_true rfl) (by omega) (by omega) ?_
    have hm : lwN2 (Y >>> (4 &&& 31)) 6 < 6 := lw_lt (by decide)
    generalize lwN2 (Y >>> (4 &&& 31)) 6 = m at hm ⊢
    refine x_istore C dL_law_173 (by decide) rfl ?_
    have hwb : 0 < (if lwN2 (X >>> (5 &&& 31)) 3 = 0 then 10 else 4) ∧ (if lwN2 (X >>> (5 &&& 31)) 3 = 0 then 10 else 4) ≤ 10 := by split <;> decide
    refine x_iload C dL_law_175 rfl ?_
    refine x_bipush (v := 7) C dL_law_177 (by decide) ?_
    refine x_ishr C dL_law_179 ?_
    refine xX.mrg 197 (nI (if lwN2 (X >>> (5 &&& 31)) 3 = 0 then 10 else 4)) (fun hk197 => ?_) ?_
    · refine x_iload C dL_law_180 rfl ?_
      refine x_iconst (v := 5) C dL_law_182 (by decide) ?_
      refine x_ishr C dL_law_183 ?_
      refine x_iconst (v := 3) C dL_law_184 (by decide) ?_
      refine x_callS C (c_L_low _ (n := 3) (by omega) (by omega)) ks_L_low kl_L_79 dL_law_185 rfl rfl rfl rfl (Nat.le_of_ble_eq_true rfl) (Nat.le_of_ble_eq_true rfl) (Nat.le_of_ble_eq_true rfl) (by omega) (by omega) ?_
      refine x_if_ne C 196 dL_law_188 (by decide) (fun h188 => ?_) (fun h188 => ?_)
      · refine x_iconst (v := 4) C dL_law_196 (by decide) ?_
        exact xX.vl hk197 (congrArg nI (if_neg (fun z => h188 (congrArg nI z))))
      · refine x_bipush (v := 10) C dL_law_191 (by decide) ?_
        refine x_goto C 197 dL_law_193 (by decide) ?_
        exact xX.vl hk197 (congrArg nI (if_pos ((nI_eq (b := 0) (by have := lw_lt (x := X >>> (5 &&& 31)) (n := 3) (by decide); omega) (by decide)).mp h188)))
    refine x_callS C (c_L_low _ (n := (if lwN2 (X >>> (5 &&& 31)) 3 = 0 then 10 else 4)) hwb.1 (Nat.lt_of_le_of_lt hwb.2 (by decide))) ks_L_low kl_L_79 dL_law_197 rfl rfl rfl rfl (Nat.le_of_ble_eq_true rfl) (Nat.le_of_ble_eq_true rfl) (Nat.le_of_ble_eq_true rfl) (by omega) (by omega) ?_
    have hw : lwN2 (Y >>> (7 &&& 31)) (if lwN2 (X >>> (5 &&& 31)) 3 = 0 then 10 else 4) < 10 := Nat.lt_of_lt_of_le (lw_lt hwb.1) hwb.2
    generalize lwN2 (Y >>> (7 &&& 31)) (if lwN2 (X >>> (5 &&& 31)) 3 = 0 then 10 else 4) = w at hw ⊢
    refine x_istore C dL_law_200 (by decide) rfl ?_
    refine xX.mrg 217 (xb (VV 0 10 who = 1)) (fun hk217 => ?_) ?_
    · refine x_aload_n C dL_law_202 rfl ?_
      refine x_bipush (v := 9) C dL_law_203 (by decide) ?_
      refine x_iload C dL_law_205 rfl ?_
      refine x_iadd C dL_law_207 ?_
      refine x_iald2 C wput_q (ix9 who) (by omega) (by decide) dL_law_208 ?_
      refine x_if_lt C 216 dL_law_209 (by decide) (fun h209 => ?_) (fun h209 => ?_)
      · refine x_iconst (v := 0) C dL_law_216 (by decide) ?_
        exact xX.vl hk217 (b_f ((H.neg (by decide) hw4).mp h209))
      · refine x_iconst (v := 1) C dL_law_212 (by decide) ?_
        refine x_goto C 217 dL_law_213 (by decide) ?_
        exact xX.vl hk217 (b_t ((H.pos (by decide) hw4).mp (Int32.not_lt.mp h209)))
    refine x_istore C dL_law_217 (by decide) rfl ?_
    refine xX.mrg 239 (xb (VV 0 10 who = 1 ∧ VV 0 10 other = 1)) (fun hk239 => ?_) ?_
    · refine x_iload C dL_law_219 rfl ?_
      refine x_beq C 238 dL_law_221 (by decide) (fun h221 => ?_) (fun h221 => ?_)
      · refine x_iconst (v := 0) C dL_law_238 (by decide) ?_
        exact xX.vl hk239 (b_f (fun z => h221 z.1))
      · refine x_aload_n C dL_law_224 rfl ?_
        refine x_bipush (v := 9) C dL_law_225 (by decide) ?_
        refine x_iload C dL_law_227 rfl ?_
        refine x_iadd C dL_law_229 ?_
        refine x_iald2 C wput_q (ix9 other) (by omega) (by decide) dL_law_230 ?_
        refine x_if_lt C 238 dL_law_231 (by decide) (fun h231 => ?_) (fun h231 => ?_)
        · refine x_iconst (v := 0) C dL_law_238 (by decide) ?_
          exact xX.vl hk239 (b_f (fun z => (H.neg (by decide) ho4).mp h231 z.2))
        · refine x_iconst (v := 1) C dL_law_234 (by decide) ?_
          refine x_goto C 239 dL_law_235 (by decide) ?_
          exact xX.vl hk239 (b_t ⟨h221, (H.pos (by decide) ho4).mp (Int32.not_lt.mp h231)⟩)
    refine x_istore C dL_law_239 (by decide) rfl ?_
    refine x_iload C dL_law_241 rfl ?_
    refine x_aload_n C dL_law_243 rfl ?_
    refine x_aload C dL_law_244 rfl ?_
    refine x_aload C dL_law_246 rfl ?_
    refine x_aload C dL_law_248 rfl ?_
    refine x_callS C (c_L_row hw4) ks_L_row kl_L_35 dL_law_250 rfl rfl rfl rfl (Nat.le_of_ble_eq_true rfl) (Nat.le_of_ble_eq_true rfl) (Nat.le_of_ble_eq_true rfl) (by omega) (by omega) ?_
    refine x_astore C dL_law_253 (by decide) rfl ?_
    refine x_iload C dL_law_255 rfl ?_
    refine x_aload_n C dL_law_257 rfl ?_
    refine x_aload C dL_law_258 rfl ?_
    refine x_aload C dL_law_260 rfl ?_
    refine x_aload C dL_law_262 rfl ?_
    refine x_callS C (c_L_row ho4) ks_L_row kl_L_35 dL_law_264 rfl rfl rfl rfl (Nat.le_of_ble_eq_true rfl) (Nat.le_of_ble_eq_true rfl) (Nat.le_of_ble_eq_true rfl) (by omega) (by omega) ?_
    refine x_astore C dL_law_267 (by decide) rfl ?_
    rcases (show kd = 0 ∨ kd = 1 ∨ kd = 2 ∨ kd = 3 ∨ kd = 4 ∨ (5 ≤ kd ∧ kd < 10) ∨ (10 ≤ kd ∧ kd < 19) ∨ (19 ≤ kd ∧ kd < 22) by omega) with rfl | rfl | rfl | rfl | rfl | hk | hk | hk
    · refine xX.cl (la_come (kd := 0) C (by omega) (by omega) hp6 hz H hw4 ho4 hm hw J1 J2a) rfl (And.intro rfl (And.intro rfl (And.intro rfl (And.intro rfl (And.intro rfl (And.intro rfl (And.intro rfl (And.intro rfl (And.intro rfl (And.intro rfl (And.intro rfl (And.intro rfl (And.intro rfl (And.intro rfl (And.intro rfl (And.intro rfl (And.intro rfl (And.intro rfl (And.intro rfl trivial))))))))))))))))))) rfl
    · refine xX.cl (la_go (kd := 0) C (by omega) (by omega) hp6 hz H hw4 ho4 hm hw J1 J2a) rfl (And.intro rfl (And.intro rfl (And.intro rfl (And.intro rfl (And.intro rfl (And.intro rfl (And.intro rfl (And.intro rfl (And.intro rfl (And.intro rfl (And.intro rfl (And.intro rfl (And.intro rfl (And.intro rfl (And.intro rfl (And.intro rfl (And.intro rfl (And.intro rfl (And.intro rfl trivial))))))))))))))))))) rfl
    · refine xX.cl (la_set (kd := 0) C (by omega) (by omega) hp6 hz H hw4 ho4 hm hw J1 J2a) rfl (And.intro rfl (And.intro rfl (And.intro rfl (And.intro rfl (And.intro rfl (And.intro rfl (And.intro rfl (And.intro rfl (And.intro rfl (And.intro rfl (And.intro rfl (And.intro rfl (And.intro rfl (And.intro rfl (And.intro rfl (And.intro rfl (And.intro rfl (And.intro rfl (And.intro rfl trivial))))))))))))))))))) rfl
    · refine xX.cl (la_seed (kd := 0) C (by omega) (by omega) hp6 hz H hw4 ho4 hm hw J1 J2a) rfl (And.intro rfl (And.intro rfl (And.intro rfl (And.intro rfl (And.intro rfl (And.intro rfl (And.intro rfl (And.intro rfl (And.intro rfl (And.intro rfl (And.intro rfl (And.intro rfl (And.intro rfl (And.intro rfl (And.intro rfl (And.intro rfl (And.intro rfl (And.intro rfl (And.intro rfl trivial))))))))))))))))))) rfl
    · refine xX.cl (la_age (kd := 0) C (by omega) (by omega) hp6 hz H hw4 ho4 hm hw J1 J2a) rfl (And.intro rfl (And.intro rfl (And.intro rfl (And.intro rfl (And.intro rfl (And.intro rfl (And.intro rfl (And.intro rfl (And.intro rfl (And.intro rfl (And.intro rfl (And.intro rfl (And.intro rfl (And.intro rfl (And.intro rfl (And.intro rfl (And.intro rfl (And.intro rfl (And.intro rfl trivial))))))))))))))))))) rfl
    · refine xX.cl (la_teach C (by omega) (by omega) hp6 hz H hw4 ho4 hm hw hk.1 hk.2 J1 J2a) rfl (And.intro rfl (And.intro rfl (And.intro rfl (And.intro rfl (And.intro rfl (And.intro rfl (And.intro rfl (And.intro rfl (And.intro rfl (And.intro rfl (And.intro rfl (And.intro rfl (And.intro rfl (And.intro rfl (And.intro rfl (And.intro rfl (And.intro rfl (And.intro rfl (And.intro rfl trivial))))))))))))))))))) rfl
    · refine xX.cl (la_meet C (by omega) (by omega) hp6 hz H hw4 ho4 hm hw hk.1 hk.2 J1 J2a) rfl (And.intro rfl (And.intro rfl (And.intro rfl (And.intro rfl (And.intro rfl (And.intro rfl (And.intro rfl (And.intro rfl (And.intro rfl (And.intro rfl (And.intro rfl (And.intro rfl (And.intro rfl (And.intro rfl (And.intro rfl (And.intro rfl (And.intro rfl (And.intro rfl (And.intro rfl trivial))))))))))))))))))) rfl
    · refine xX.cl (la_years C (by omega) (by omega) hp6 hz H hw4 ho4 hm hw hk.1 hk.2 J1) rfl (And.intro rfl (And.intro rfl (And.intro rfl (And.intro rfl (And.intro rfl (And.intro rfl (And.intro rfl (And.intro rfl (And.intro rfl (And.intro rfl (And.intro rfl (And.intro rfl (And.intro rfl (And.intro rfl (And.intro rfl (And.intro rfl (And.intro rfl (And.intro rfl (And.intro rfl trivial))))))))))))))))))) rfl
def inQ (Q : Fn) (n : Nat) : Fn := fun j => if 9 ≤ j ∧ j < 9 + n then -1 else Q j
theorem inQ_0 {Q : Fn} : inQ Q 0 = Q := by
  funext j
  unfold inQ
  rw [if_neg (by omega)]
theorem inQ_s {Q : Fn} {n : Nat} : upd (inQ Q n) (9 + n) (-1) = inQ Q (n + 1) := by
  funext j
  unfold inQ
  by_cases e : j = 9 + n
  · subst e
    rw [pk_us, if_pos (by omega)]
  · rw [pk_un e]
    by_cases h : 9 ≤ j ∧ j < 9 + n
    · rw [if_pos h, if_pos (by omega)]
    · rw [if_neg h, if_neg (by omega)]
theorem wnew {E : xEnv} {σ : Sg} {A : Nat} : xup (xup (xup (xup (xup σ A (.inl (xI E, 17, .inl (fun _ => 0)))) (A + 1) (.inl (xI E, 60, .inl (fun _ => 0)))) (A + 1 + 1) (.inl (xI E, 60, .inl (fun _ => 0)))) (A + 1 + 1 + 1) (.inl (xI E, 60, .inl (fun _ => 0)))) (A + 1 + 1 + 1 + 1) (.inl (xI E, 60, .inl (fun _ => 0))) = wput E σ A (fun _ => 0) (fun _ _ => 0) := by
  funext a
  unfold wput xup
  by_cases h0 : a = A
  · rw [if_neg (by omega), if_neg (by omega), if_neg (by omega), if_neg (by omega), if_pos h0, if_pos h0]
  · by_cases h : A < a ∧ a < A + 5
    · rw [if_neg h0, if_neg h0, if_pos h]
      rcases (show a = A + 1 ∨ a = A + 1 + 1 ∨ a = A + 1 + 1 + 1 ∨ a = A + 1 + 1 + 1 + 1 by omega) with rfl | rfl | rfl | rfl <;> simp
    · rw [if_neg (by omega), if_neg (by omega), if_neg (by omega), if_neg (by omega), if_neg h0, if_neg h0, if_neg h]
def Q1 : Fn := upd (upd (upd (upd (upd (fun _ => 0) 0 1) 5 4) 6 1) 7 60) 8 50
theorem V0_10 (k : Nat) : ¬ V0 10 k = 1 := by
  unfold V0
  rw [if_neg (by decide), if_neg (by omega)]
  decide
theorem LR_0 : LR V0 (inQ Q1 4) (fun _ _ => 0) 99 0 0 := by
  have z : ∀ t, t < 8 → ∀ j, V0 t j = 0 := fun t ht j => by
    unfold V0
    rw [if_neg (by omega), if_neg (by omega)]
  refine ⟨⟨⟨fun t ht j _ => by rw [z t ht]; exact cl_0, 50, by decide, rfl⟩, 1, by decide, rfl⟩, ⟨⟨1, by decide, rfl⟩, 60, by decide, rfl⟩, ⟨rfl, rfl, rfl, rfl, rfl⟩, fun j hj => ?_, fun k hk => Or.inr ⟨V0_10 k, ?_, fun _ _ => rfl⟩, fun k _ _ => V0_10 k⟩
  · rcases (show j = 0 ∨ j = 1 ∨ j = 2 ∨ j = 3 by omega) with rfl | rfl | rfl | rfl <;> rfl
  · unfold inQ
    rw [if_pos (by omega)]
set_option maxRecDepth 100000 in
set_option maxHeartbeats 4000000 in
theorem law_run {k0 : xT} {l : Launch} {E : xEnv} {B bb L : Nat} {xs : Nat → Int32} {mn : String} (C : xC k0 l E B cL_law 27 ret RL mn 9 352 600000 7302250) (hX : xScr k0 bb L xs) (hbb : bb < B) (hL : L < 2 ^ 31) (hE : xEnd k0) : xX k0 B 0 0 (fun _ => none) 0 [some (.ref bb), none, none, none, none, none, none, none, none, none, none, none, none, none, none, none, none, none, none, none, none, none, none, none, none, none, none] [] := by
  have hl : ∀ (N a b : Nat), B + 170 ≤ N → a ≤ 170 + 6 * 0 → b ≤ 7000 + 60 * 0 → ∀ j, j ≤ 4 → xX k0 N a b (wput E (cput E (fun _ => none) B (fun _ => V0) (nI 0) (nI 0) (nI 0) (fun _ => 0)) (B + 165) (inQ Q1 j) (fun _ _ => 0)) 65 [some (.ref bb), some (.ref B), some (.ref (B + 165)), some (.ref (B + 165 + 1)), some (.ref (B + 165 + 2)), some (.ref (B + 165 + 3)), some (.ref (B + 165 + 4)), some (.int (nI (9 + j))), none, none, none, none, none, none, none, none, none, none, none, none, none, none, none, none, none, none, none] [] := by
    intro N a b hN ha hb
    refine x_for 4 ?_ ?_
    · refine x_iload C dL_law_65 rfl ?_
      refine x_bipush (v := 13) C dL_law_67 (by decide) ?_
      refine x_ic_ge C 83 dL_law_69 (by decide) (fun _ => ?_) (fun h => absurd (nI_le (a := 13) (b := 13) (Nat.le_refl _) (by decide)) h)
      refine x_iconst (v := 0) C dL_law_83 (by decide) ?_
      refine x_istore C dL_law_84 (by decide) rfl ?_
      refine xX.cl (law_loop (n := 0) C hX hbb hL hE 0 (by decide) (fun _ => V0) 0 0 (inQ Q1 4) (fun _ _ => 0) N a b (by decide) (by decide) LR_0 hN ha hb) rfl (And.intro rfl (And.intro rfl (And.intro rfl (And.intro rfl (And.intro rfl (And.intro rfl (And.intro rfl (And.intro rfl trivial)))))))) rfl
    · intro j hj ih
      refine x_iload C dL_law_65 rfl ?_
      refine x_bipush (v := 13) C dL_law_67 (by decide) ?_
      refine x_ic_ge C 83 dL_law_69 (by decide) (fun h => absurd h (nI_ge (b := 13) (by omega) (by decide))) (fun _ => ?_)
      refine x_aload_n C dL_law_72 rfl ?_
      refine x_iload C dL_law_73 rfl ?_
      refine x_iconst (v := (-1)) C dL_law_75 (by decide) ?_
      refine x_iast2 C wput_q rfl (by omega) (by decide) (fun _ _ => rfl) wput_uq dL_law_76 ?_
      refine x_iinc C dL_law_77 rfl (nI_inc _) (by decide) rfl ?_
      refine x_goto C 65 dL_law_80 (by decide) ?_
      refine xX.cl (ih) (wput_sg inQ_s rfl) (And.intro rfl (And.intro rfl (And.intro rfl (And.intro rfl (And.intro rfl (And.intro rfl (And.intro rfl (And.intro rfl trivial)))))))) rfl
  refine x_new (ci := 4) (q := (RX4, TX4, 4)) (fs := bl_X4) C rfl kc_X4 tyX4 tyX4_ok kcl_L_40 kn_X4 ki_X4 bl_X4_ok (Nat.le_of_ble_eq_true rfl) (Nat.le_of_ble_eq_true rfl) rfl dL_law_0 ?_
  refine x_dup C dL_law_3 rfl ?_
  refine x_callI C (c_X4_init (σ := fun _ => none)) kj_X4_init kl_L_74 dL_law_4 rfl rfl rfl rfl (Nat.le_of_ble_eq_true rfl) (Nat.le_of_ble_eq_true rfl) (Nat.le_of_ble_eq_true rfl) (Nat.le_of_ble_eq_true rfl) (Nat.le_of_ble_eq_true rfl) ?_
  refine x_astore_n C dL_law_7 (by decide) rfl ?_
  refine x_bipush (v := 17) C dL_law_8 (by decide) ?_
  refine x_newi (n2 := 17) C ka_int (by decide) rfl (Nat.le_of_ble_eq_true rfl) (Nat.le_of_ble_eq_true rfl) (Nat.le_of_ble_eq_true rfl) rfl dL_law_10 ?_
  refine x_astore_n C dL_law_12 (by decide) rfl ?_
  refine x_bipush (v := 60) C dL_law_13 (by decide) ?_
  refine x_newi (n2 := 60) C ka_int (by decide) rfl (Nat.le_of_ble_eq_true rfl) (Nat.le_of_ble_eq_true rfl) (Nat.le_of_ble_eq_true rfl) rfl dL_law_15 ?_
  refine x_astore_n C dL_law_17 (by decide) rfl ?_
  refine x_bipush (v := 60) C dL_law_18 (by decide) ?_
  refine x_newi (n2 := 60) C ka_int (by decide) rfl (Nat.le_of_ble_eq_true rfl) (Nat.le_of_ble_eq_true rfl) (Nat.le_of_ble_eq_true rfl) rfl dL_law_20 ?_
  refine x_astore C dL_law_22 (by decide) rfl ?_
  refine x_bipush (v := 60) C dL_law_24 (by decide) ?_
  refine x_newi (n2 := 60) C ka_int (by decide) rfl (Nat.le_of_ble_eq_true rfl) (Nat.le_of_ble_eq_true rfl) (Nat.le_of_ble_eq_true rfl) rfl dL_law_26 ?_
  refine x_astore C dL_law_28 (by decide) rfl ?_
  refine x_bipush (v := 60) C dL_law_30 (by decide) ?_
  refine x_newi (n2 := 60) C ka_int (by decide) rfl (Nat.le_of_ble_eq_true rfl) (Nat.le_of_ble_eq_true rfl) (Nat.le_of_ble_eq_true rfl) rfl dL_law_32 ?_
  refine xX.sg wnew ?_
  refine x_astore C dL_law_34 (by decide) rfl ?_
  refine x_aload_n C dL_law_36 rfl ?_
  refine x_iconst (v := 0) C dL_law_37 (by decide) ?_
  refine x_iconst (v := 1) C dL_law_38 (by decide) ?_
  refine x_iast2 C wput_q (show (0 : Int32) = nI 0 from rfl) (by decide) (by decide) (fun _ _ => rfl) wput_uq dL_law_39 ?_
  refine x_aload_n C dL_law_40 rfl ?_
  refine x_iconst (v := 5) C dL_law_41 (by decide) ?_
  refine x_iconst (v := 4) C dL_law_42 (by decide) ?_
  refine x_iast2 C wput_q (show (5 : Int32) = nI 5 from rfl) (by decide) (by decide) (fun _ _ => rfl) wput_uq dL_law_43 ?_
  refine x_aload_n C dL_law_44 rfl ?_
  refine x_bipush (v := 6) C dL_law_45 (by decide) ?_
  refine x_iconst (v := 1) C dL_law_47 (by decide) ?_
  refine x_iast2 C wput_q (show (6 : Int32) = nI 6 from rfl) (by decide) (by decide) (fun _ _ => rfl) wput_uq dL_law_48 ?_
  refine x_aload_n C dL_law_49 rfl ?_
  refine x_bipush (v := 7) C dL_law_50 (by decide) ?_
  refine x_bipush (v := 60) C dL_law_52 (by decide) ?_
  refine x_iast2 C wput_q (show (7 : Int32) = nI 7 from rfl) (by decide) (by decide) (fun _ _ => rfl) wput_uq dL_law_54 ?_
  refine x_aload_n C dL_law_55 rfl ?_
  refine x_bipush (v := 8) C dL_law_56 (by decide) ?_
  refine x_bipush (v := 50) C dL_law_58 (by decide) ?_
  refine x_iast2 C wput_q (show (8 : Int32) = nI 8 from rfl) (by decide) (by decide) (fun _ _ => rfl) wput_uq dL_law_60 ?_
  refine x_bipush (v := 9) C dL_law_61 (by decide) ?_
  refine x_istore C dL_law_63 (by decide) rfl ?_
  refine xX.cl (hl _ _ _ (Nat.le_refl _) (Nat.le_of_ble_eq_true rfl) (Nat.le_of_ble_eq_true rfl) 0 (by decide)) (wput_sg (inQ_0 (Q := Q1)).symm rfl) (And.intro rfl (And.intro rfl (And.intro rfl (And.intro rfl (And.intro rfl (And.intro rfl (And.intro rfl (And.intro rfl trivial)))))))) rfl
