/-! the law's meeting: two rows at once -/
def rr (R : Nat → Fn) (k1 k2 : Nat) (F G : Fn) : Nat → Fn := fun t => if t = k1 then F else if t = k2 then G else R t
section RR
variable {R : Nat → Fn} {k1 k2 : Nat} {F G F2 : Fn}
theorem rr_1 : rr R k1 k2 F G k1 = F := if_pos rfl
theorem rr_2 (h : k1 ≠ k2) : rr R k1 k2 F G k2 = G := by
  unfold rr
  rw [if_neg (fun z => h z.symm), if_pos rfl]
theorem rr_n {t : Nat} (h : t ≠ k1) (h2 : t ≠ k2) : rr R k1 k2 F G t = R t := by
  unfold rr
  rw [if_neg h, if_neg h2]
theorem rr_u1 : upR (rr R k1 k2 F G) k1 F2 = rr R k1 k2 F2 G := by
  funext t
  by_cases h : t = k1
  · subst h; rw [upR_s, rr_1]
  · rw [upR_n h]
    unfold rr
    rw [if_neg h, if_neg h]
theorem rr_u2 (h0 : k1 ≠ k2) : upR (rr R k1 k2 F G) k2 F2 = rr R k1 k2 F F2 := by
  funext t
  by_cases h : t = k2
  · subst h; rw [upR_s, rr_2 h0]
  · rw [upR_n h]
    unfold rr
    by_cases h2 : t = k1
    · rw [if_pos h2, if_pos h2]
    · rw [if_neg h2, if_neg h2, if_neg h, if_neg h]
theorem rr_e : rr R k1 k2 (R k1) (R k2) = R := by
  funext t
  unfold rr
  by_cases h : t = k1
  · rw [if_pos h, h]
  · rw [if_neg h]
    by_cases h2 : t = k2
    · rw [if_pos h2, h2]
    · rw [if_neg h2]
end RR
section RW
variable {E : xEnv} {σ : Sg} {A k1 k2 : Nat} {Q : Fn} {R : Nat → Fn} {F G F2 : Fn}
theorem we_1 (hk : k1 < 4) : wput E σ A Q (rr R k1 k2 F G) (A + 1 + k1) = some (.inl (xI E, 60, .inl F)) := by rw [wput_r hk, rr_1]
theorem we_2 (hk : k2 < 4) (h : k1 ≠ k2) : wput E σ A Q (rr R k1 k2 F G) (A + 1 + k2) = some (.inl (xI E, 60, .inl G)) := by rw [wput_r hk, rr_2 h]
theorem ws_1 (hk : k1 < 4) : xup (wput E σ A Q (rr R k1 k2 F G)) (A + 1 + k1) (.inl (xI E, 60, .inl F2)) = wput E σ A Q (rr R k1 k2 F2 G) := by rw [wput_ur hk, rr_u1]
theorem ws_2 (hk : k2 < 4) (h : k1 ≠ k2) : xup (wput E σ A Q (rr R k1 k2 F G)) (A + 1 + k2) (.inl (xI E, 60, .inl F2)) = wput E σ A Q (rr R k1 k2 F F2) := by rw [wput_ur hk, rr_u2 h]
end RW
def mqC (Q : Fn) (k1 k2 : Nat) : Fn := upd (upd (upd Q 1 (Q 1 + 1)) (13 + k1) (upd Q 1 (Q 1 + 1) (13 + k1) + 1)) (13 + k2) (upd (upd Q 1 (Q 1 + 1)) (13 + k1) (upd Q 1 (Q 1 + 1) (13 + k1) + 1) (13 + k2) + 1)
def mqF (Q : Fn) (k1 k2 m h : Nat) : Fn := mqC (if h = m then upd Q 2 (Q 2 + 1) else Q) k1 k2
def mrF (R : Nat → Fn) (Q : Fn) (k1 k2 m w h : Nat) : Nat → Fn := if h = m then rr R k1 k2 (prF (R k1) m w (lnS (Q (9 + k1)) (Q 5)) (Q 6) 10) (fmF (prF (R k2) m w (lnS (Q (9 + k2)) (Q 5)) (Q 6) 10) m w (Q 6) 6) else rr R k1 k2 (chF (R k1) m w (-(Q 6))) (chF (chF (R k2) m w 1) h w (-(Q 6)))
/-- the seed, and the meaning as which it is heard -/
def mq0 (Q f : Fn) (w : Nat) : Fn := match hdS f w with
  | none => upd Q 0 (nI (sdN (Q 0)))
  | some _ => Q
def mh0 (Q f : Fn) (w : Nat) : Nat := match hdS f w with
  | none => sdN (Q 0) / 16 % 6
  | some h => h
theorem mh0_lt {Q f : Fn} {w : Nat} : mh0 Q f w < 6 := by
  unfold mh0
  split
  · exact Nat.mod_lt _ (by decide)
  · rename_i h e; exact hd_in e
theorem mq0_n {Q f : Fn} {w : Nat} (e : hdS f w = none) : mq0 Q f w = upd Q 0 (nI (sdN (Q 0))) := by unfold mq0; rw [e]
theorem mq0_s {Q f : Fn} {w h : Nat} (e : hdS f w = some h) : mq0 Q f w = Q := by unfold mq0; rw [e]
theorem mh0_n {Q f : Fn} {w : Nat} (e : hdS f w = none) : mh0 Q f w = sdN (Q 0) / 16 % 6 := by unfold mh0; rw [e]
theorem mh0_s {Q f : Fn} {w h : Nat} (e : hdS f w = some h) : mh0 Q f w = h := by unfold mh0; rw [e]
theorem wput_sg {E : xEnv} {σ : Sg} {A : Nat} {Q Q2 : Fn} {R R2 : Nat → Fn} (h : Q = Q2) (h2 : R = R2) : wput E σ A Q R = wput E σ A Q2 R2 := by rw [h, h2]
set_option maxRecDepth 100000 in
set_option maxHeartbeats 1000000 in
theorem lm_C {k0 : xT} {l : Launch} {E : xEnv} {B N : Nat} {σ : Sg} {A k1 k2 m w h : Nat} {Q : Fn} {R : Nat → Fn} (hk1 : k1 < 4) (hk2 : k2 < 4) (hne : k1 ≠ k2) (hm : m < 6) (hw : w < 10) (hh : h < 6) (C : xC k0 l E B cL_meet 9 (some .int) yL_meet.cls yL_meet.name 1 24 0 0) (Z : xZ k0 0 0 N (wput E σ A (mqC Q k1 k2) R) (some (.int (10 * nI w + nI h)))) : xX k0 N 0 0 (wput E σ A Q R) 190 [some (.int (nI k1)), some (.int (nI k2)), some (.int (nI m)), some (.ref A), some (.ref (A + 1 + k1)), some (.ref (A + 1 + k2)), some (.int (nI w)), some (.int (nI h)), none] [] := by
  refine x_aload_n C dL_meet_190 rfl ?_
  refine x_iconst (v := 1) C dL_meet_191 (by decide) ?_
  refine x_dup2 C dL_meet_192 rfl rfl ?_
  refine x_iald2 C wput_q (show (1 : Int32) = nI 1 from rfl) (by decide) (by decide) dL_meet_193 ?_
  refine x_iconst (v := 1) C dL_meet_194 (by decide) ?_
  refine x_iadd C dL_meet_195 ?_
  refine x_iast2 C wput_q (show (1 : Int32) = nI 1 from rfl) (by decide) (by decide) (fun _ _ => rfl) wput_uq dL_meet_196 ?_
  refine x_aload_n C dL_meet_197 rfl ?_
  refine x_bipush (v := 13) C dL_meet_198 (by decide) ?_
  refine x_iload_n C dL_meet_200 rfl ?_
  refine x_iadd C dL_meet_201 ?_
  refine x_dup2 C dL_meet_202 rfl rfl ?_
  refine x_iald2 C wput_q (ix13 k1) (by omega) (by decide) dL_meet_203 ?_
  refine x_iconst (v := 1) C dL_meet_204 (by decide) ?_
  refine x_iadd C dL_meet_205 ?_
  refine x_iast2 C wput_q (ix13 k1) (by omega) (by decide) (fun _ _ => rfl) wput_uq dL_meet_206 ?_
  refine x_aload_n C dL_meet_207 rfl ?_
  refine x_bipush (v := 13) C dL_meet_208 (by decide) ?_
  refine x_iload_n C dL_meet_210 rfl ?_
  refine x_iadd C dL_meet_211 ?_
  refine x_dup2 C dL_meet_212 rfl rfl ?_
  refine x_iald2 C wput_q (ix13 k2) (by omega) (by decide) dL_meet_213 ?_
  refine x_iconst (v := 1) C dL_meet_214 (by decide) ?_
  refine x_iadd C dL_meet_215 ?_
  refine x_iast2 C wput_q (ix13 k2) (by omega) (by decide) (fun _ _ => rfl) wput_uq dL_meet_216 ?_
  refine x_bipush (v := 10) C dL_meet_217 (by decide) ?_
  refine x_iload C dL_meet_219 rfl ?_
  refine x_imul C dL_meet_221 ?_
  refine x_iload C dL_meet_222 rfl ?_
  refine x_iadd C dL_meet_224 ?_
  exact x_zret C Z dL_meet_225 rfl (Nat.le_of_ble_eq_true rfl) (Nat.le_of_ble_eq_true rfl) rfl rfl rfl
set_option maxRecDepth 100000 in
set_option maxHeartbeats 1000000 in
theorem lm_F {k0 : xT} {l : Launch} {E : xEnv} {B N : Nat} {σ : Sg} {A k1 k2 m w h : Nat} {Q : Fn} {R : Nat → Fn} (hk1 : k1 < 4) (hk2 : k2 < 4) (hne : k1 ≠ k2) (hm : m < 6) (hw : w < 10) (hh : h < 6) (hc : ¬ h = m) (C : xC k0 l E B cL_meet 9 (some .int) yL_meet.cls yL_meet.name 1 24 0 0) (Z : xZ k0 0 0 N (wput E σ A (mqF Q k1 k2 m h) (mrF R Q k1 k2 m w h)) (some (.int (10 * nI w + nI h)))) : xX k0 N 0 0 (wput E σ A Q R) 154 [some (.int (nI k1)), some (.int (nI k2)), some (.int (nI m)), some (.ref A), some (.ref (A + 1 + k1)), some (.ref (A + 1 + k2)), some (.int (nI w)), some (.int (nI h)), none] [] := by
  refine xX.sg (wput_sg rfl (rr_e (k1 := k1) (k2 := k2)).symm) ?_
  refine x_iload_n C dL_meet_154 rfl ?_
  refine x_iload C dL_meet_155 rfl ?_
  refine x_aload_n C dL_meet_157 rfl ?_
  refine x_bipush (v := 6) C dL_meet_158 (by decide) ?_
  refine x_iald2 C wput_q (show (6 : Int32) = nI 6 from rfl) (by decide) (by decide) dL_meet_160 ?_
  refine x_ineg C dL_meet_161 ?_
  refine x_aload C dL_meet_162 rfl ?_
  refine x_callS C (c_L_add (we_1 hk1) hm hw (-(Q 6)) (ws_1 hk1)) ks_L_add kl_L_31 dL_meet_164 rfl rfl rfl rfl (Nat.le_of_ble_eq_true rfl) (Nat.le_of_ble_eq_true rfl) (Nat.le_of_ble_eq_true rfl) (Nat.le_of_ble_eq_true rfl) (Nat.le_of_ble_eq_true rfl) ?_
  refine x_iload_n C dL_meet_167 rfl ?_
  refine x_iload C dL_meet_168 rfl ?_
  refine x_iconst (v := 1) C dL_meet_170 (by decide) ?_
  refine x_aload C dL_meet_171 rfl ?_
  refine x_callS C (c_L_add (we_2 hk2 hne) hm hw (1) (ws_2 hk2 hne)) ks_L_add kl_L_31 dL_meet_173 rfl rfl rfl rfl (Nat.le_of_ble_eq_true rfl) (Nat.le_of_ble_eq_true rfl) (Nat.le_of_ble_eq_true rfl) (Nat.le_of_ble_eq_true rfl) (Nat.le_of_ble_eq_true rfl) ?_
  refine x_iload C dL_meet_176 rfl ?_
  refine x_iload C dL_meet_178 rfl ?_
  refine x_aload_n C dL_meet_180 rfl ?_
  refine x_bipush (v := 6) C dL_meet_181 (by decide) ?_
  refine x_iald2 C wput_q (show (6 : Int32) = nI 6 from rfl) (by decide) (by decide) dL_meet_183 ?_
  refine x_ineg C dL_meet_184 ?_
  refine x_aload C dL_meet_185 rfl ?_
  refine x_callS C (c_L_add (we_2 hk2 hne) hh hw (-(Q 6)) (ws_2 hk2 hne)) ks_L_add kl_L_31 dL_meet_187 rfl rfl rfl rfl (Nat.le_of_ble_eq_true rfl) (Nat.le_of_ble_eq_true rfl) (Nat.le_of_ble_eq_true rfl) (Nat.le_of_ble_eq_true rfl) (Nat.le_of_ble_eq_true rfl) ?_
  refine lm_C hk1 hk2 hne hm hw hh C ?_
  unfold mqF mrF at Z
  rw [if_neg hc, if_neg hc] at Z
  exact Z
set_option maxRecDepth 100000 in
set_option maxHeartbeats 1000000 in
theorem lm_S {k0 : xT} {l : Launch} {E : xEnv} {B N : Nat} {σ : Sg} {A k1 k2 m w h : Nat} {Q : Fn} {R : Nat → Fn} (hk1 : k1 < 4) (hk2 : k2 < 4) (hne : k1 ≠ k2) (hm : m < 6) (hw : w < 10) (hh : h < 6) (hc : h = m) (C : xC k0 l E B cL_meet 9 (some .int) yL_meet.cls yL_meet.name 1 24 0 0) (Z : xZ k0 0 0 N (wput E σ A (mqF Q k1 k2 m h) (mrF R Q k1 k2 m w h)) (some (.int (10 * nI w + nI h)))) : xX k0 N 0 0 (wput E σ A Q R) 36 [some (.int (nI k1)), some (.int (nI k2)), some (.int (nI m)), some (.ref A), some (.ref (A + 1 + k1)), some (.ref (A + 1 + k2)), some (.int (nI w)), some (.int (nI h)), none] [] := by
  have hl2 : ∀ i, i ≤ 6 → xX k0 N 0 0 (wput E σ A Q (rr R k1 k2 (prF (R k1) m w (lnS (Q (9 + k1)) (Q 5)) (Q 6) 10) (fmF (prF (R k2) m w (lnS (Q (9 + k2)) (Q 5)) (Q 6) 10) m w (Q 6) i))) 111 [some (.int (nI k1)), some (.int (nI k2)), some (.int (nI m)), some (.ref A), some (.ref (A + 1 + k1)), some (.ref (A + 1 + k2)), some (.int (nI w)), some (.int (nI h)), some (.int (nI i))] [] := by
    refine x_for 6 ?_ ?_
    · refine x_iload C dL_meet_111 rfl ?_
      refine x_bipush (v := 6) C dL_meet_113 (by decide) ?_
      refine x_ic_ge C 144 dL_meet_115 (by decide) (fun _ => ?_) (fun h => absurd (nI_le (a := 6) (Nat.le_refl _) (by decide)) h)
      refine x_aload_n C dL_meet_144 rfl ?_
      refine x_iconst (v := 2) C dL_meet_145 (by decide) ?_
      refine x_dup2 C dL_meet_146 rfl rfl ?_
      refine x_iald2 C wput_q (show (2 : Int32) = nI 2 from rfl) (by decide) (by decide) dL_meet_147 ?_
      refine x_iconst (v := 1) C dL_meet_148 (by decide) ?_
      refine x_iadd C dL_meet_149 ?_
      refine x_iast2 C wput_q (show (2 : Int32) = nI 2 from rfl) (by decide) (by decide) (fun _ _ => rfl) wput_uq dL_meet_150 ?_
      refine x_goto C 190 dL_meet_151 (by decide) ?_
      refine xX.cl (lm_C hk1 hk2 hne hm hw hh C (Q := upd Q 2 (Q 2 + 1)) (R := rr R k1 k2 (prF (R k1) m w (lnS (Q (9 + k1)) (Q 5)) (Q 6) 10) (fmF (prF (R k2) m w (lnS (Q (9 + k2)) (Q 5)) (Q 6) 10) m w (Q 6) 6)) ?_) rfl (And.intro rfl (And.intro rfl (And.intro rfl (And.intro rfl (And.intro rfl (And.intro rfl (And.intro rfl (And.intro rfl trivial)))))))) rfl
      unfold mqF mrF at Z
      rw [if_pos hc, if_pos hc] at Z
      exact Z
    · intro i hi ih
      by_cases hq : i = m
      · refine x_iload C dL_meet_111 rfl ?_
        refine x_bipush (v := 6) C dL_meet_113 (by decide) ?_
        refine x_ic_ge C 144 dL_meet_115 (by decide) (fun h => absurd h (nI_ge (b := 6) hi (by decide))) (fun _ => ?_)
        refine x_iload C dL_meet_118 rfl ?_
        refine x_iload_n C dL_meet_120 rfl ?_
        refine x_ic_eq C 138 dL_meet_121 (by decide) (fun _ => ?_) (fun h => absurd (congrArg nI hq) h)
        refine x_iinc C dL_meet_138 rfl (nI_inc _) (by decide) rfl ?_
        refine x_goto C 111 dL_meet_141 (by decide) ?_
        refine xX.cl ih (wput_sg rfl (congrArg (rr R k1 k2 _) (by rw [hq]; exact fmF_e))) (And.intro rfl (And.intro rfl (And.intro rfl (And.intro rfl (And.intro rfl (And.intro rfl (And.intro rfl (And.intro rfl (And.intro rfl trivial))))))))) rfl
      · refine x_iload C dL_meet_111 rfl ?_
        refine x_bipush (v := 6) C dL_meet_113 (by decide) ?_
        refine x_ic_ge C 144 dL_meet_115 (by decide) (fun h => absurd h (nI_ge (b := 6) hi (by decide))) (fun _ => ?_)
        refine x_iload C dL_meet_118 rfl ?_
        refine x_iload_n C dL_meet_120 rfl ?_
        refine x_ic_eq C 138 dL_meet_121 (by decide) (fun h => absurd h (nI_neL (by omega) (by omega) hq)) (fun _ => ?_)
        refine x_iload C dL_meet_124 rfl ?_
        refine x_iload C dL_meet_126 rfl ?_
        refine x_aload_n C dL_meet_128 rfl ?_
        refine x_bipush (v := 6) C dL_meet_129 (by decide) ?_
        refine x_iald2 C wput_q (show (6 : Int32) = nI 6 from rfl) (by decide) (by decide) dL_meet_131 ?_
        refine x_ineg C dL_meet_132 ?_
        refine x_aload C dL_meet_133 rfl ?_
        refine x_callS C (c_L_add (we_2 hk2 hne) hi hw (-(Q 6)) (ws_2 hk2 hne)) ks_L_add kl_L_31 dL_meet_135 rfl rfl rfl rfl (Nat.le_of_ble_eq_true rfl) (Nat.le_of_ble_eq_true rfl) (Nat.le_of_ble_eq_true rfl) (Nat.le_of_ble_eq_true rfl) (Nat.le_of_ble_eq_true rfl) ?_
        refine x_iinc C dL_meet_138 rfl (nI_inc _) (by decide) rfl ?_
        refine x_goto C 111 dL_meet_141 (by decide) ?_
        refine xX.cl ih (wput_sg rfl (congrArg (rr R k1 k2 _) (fmF_s hw hq))) (And.intro rfl (And.intro rfl (And.intro rfl (And.intro rfl (And.intro rfl (And.intro rfl (And.intro rfl (And.intro rfl (And.intro rfl trivial))))))))) rfl
  have hl1 : ∀ i, i ≤ 10 → xX k0 N 0 0 (wput E σ A Q (rr R k1 k2 (prF (R k1) m w (lnS (Q (9 + k1)) (Q 5)) (Q 6) i) (prF (R k2) m w (lnS (Q (9 + k2)) (Q 5)) (Q 6) i))) 39 [some (.int (nI k1)), some (.int (nI k2)), some (.int (nI m)), some (.ref A), some (.ref (A + 1 + k1)), some (.ref (A + 1 + k2)), some (.int (nI w)), some (.int (nI h)), some (.int (nI i))] [] := by
    refine x_for 10 ?_ ?_
    · refine x_iload C dL_meet_39 rfl ?_
      refine x_bipush (v := 10) C dL_meet_41 (by decide) ?_
      refine x_ic_ge C 108 dL_meet_43 (by decide) (fun _ => ?_) (fun h => absurd (nI_le (a := 10) (Nat.le_refl _) (by decide)) h)
      refine x_iconst (v := 0) C dL_meet_108 (by decide) ?_
      refine x_istore C dL_meet_109 (by decide) rfl ?_
      refine xX.cl (hl2 0 (by omega)) (wput_sg rfl (congrArg (rr R k1 k2 _) fmF_0.symm)) (And.intro rfl (And.intro rfl (And.intro rfl (And.intro rfl (And.intro rfl (And.intro rfl (And.intro rfl (And.intro rfl (And.intro rfl trivial))))))))) rfl
    · intro i hi ih
      refine x_iload C dL_meet_39 rfl ?_
      refine x_bipush (v := 10) C dL_meet_41 (by decide) ?_
      refine x_ic_ge C 108 dL_meet_43 (by decide) (fun h => absurd h (nI_ge (b := 10) hi (by decide))) (fun _ => ?_)
      refine x_iload_n C dL_meet_46 rfl ?_
      refine x_iload C dL_meet_47 rfl ?_
      refine xX.mrg 69 (if i = w then (lnS (Q (9 + k1)) (Q 5)) else -(Q 6)) (fun hk69 => ?_) ?_
      · refine x_iload C dL_meet_49 rfl ?_
        refine x_iload C dL_meet_51 rfl ?_
        refine x_ic_ne C 64 dL_meet_53 (by decide) (fun h53 => ?_) (fun h53 => ?_)
        · refine x_aload_n C dL_meet_64 rfl ?_
          refine x_bipush (v := 6) C dL_meet_65 (by decide) ?_
          refine x_iald2 C wput_q (show (6 : Int32) = nI 6 from rfl) (by decide) (by decide) dL_meet_67 ?_
          refine x_ineg C dL_meet_68 ?_
          exact xX.vl hk69 (if_neg (fun z => h53 (congrArg nI z)))
        · refine x_iload_n C dL_meet_56 rfl ?_
          refine x_aload_n C dL_meet_57 rfl ?_
          refine x_callS C (c_L_learns wput_q hk1) ks_L_learns kl_L_28 dL_meet_58 rfl rfl rfl rfl (Nat.le_of_ble_eq_true rfl) (Nat.le_of_ble_eq_true rfl) (Nat.le_of_ble_eq_true rfl) (Nat.le_of_ble_eq_true rfl) (Nat.le_of_ble_eq_true rfl) ?_
          refine x_goto C 69 dL_meet_61 (by decide) ?_
          exact xX.vl hk69 (if_pos ((nI_eq (by omega) (by omega)).mp h53))
      refine x_aload C dL_meet_69 rfl ?_
      refine x_callS C (c_L_add (we_1 hk1) hm hi (if i = w then (lnS (Q (9 + k1)) (Q 5)) else -(Q 6)) (ws_1 hk1)) ks_L_add kl_L_31 dL_meet_71 rfl rfl rfl rfl (Nat.le_of_ble_eq_true rfl) (Nat.le_of_ble_eq_true rfl) (Nat.le_of_ble_eq_true rfl) (Nat.le_of_ble_eq_true rfl) (Nat.le_of_ble_eq_true rfl) ?_
      refine x_iload_n C dL_meet_74 rfl ?_
      refine x_iload C dL_meet_75 rfl ?_
      refine xX.mrg 97 (if i = w then (lnS (Q (9 + k2)) (Q 5)) else -(Q 6)) (fun hk97 => ?_) ?_
      · refine x_iload C dL_meet_77 rfl ?_
        refine x_iload C dL_meet_79 rfl ?_
        refine x_ic_ne C 92 dL_meet_81 (by decide) (fun h81 => ?_) (fun h81 => ?_)
        · refine x_aload_n C dL_meet_92 rfl ?_
          refine x_bipush (v := 6) C dL_meet_93 (by decide) ?_
          refine x_iald2 C wput_q (show (6 : Int32) = nI 6 from rfl) (by decide) (by decide) dL_meet_95 ?_
          refine x_ineg C dL_meet_96 ?_
          exact xX.vl hk97 (if_neg (fun z => h81 (congrArg nI z)))
        · refine x_iload_n C dL_meet_84 rfl ?_
          refine x_aload_n C dL_meet_85 rfl ?_
          refine x_callS C (c_L_learns wput_q hk2) ks_L_learns kl_L_28 dL_meet_86 rfl rfl rfl rfl (Nat.le_of_ble_eq_true rfl) (Nat.le_of_ble_eq_true rfl) (Nat.le_of_ble_eq_true rfl) (Nat.le_of_ble_eq_true rfl) (Nat.le_of_ble_eq_true rfl) ?_
          refine x_goto C 97 dL_meet_89 (by decide) ?_
          exact xX.vl hk97 (if_pos ((nI_eq (by omega) (by omega)).mp h81))
      refine x_aload C dL_meet_97 rfl ?_
      refine x_callS C (c_L_add (we_2 hk2 hne) hm hi (if i = w then (lnS (Q (9 + k2)) (Q 5)) else -(Q 6)) (ws_2 hk2 hne)) ks_L_add kl_L_31 dL_meet_99 rfl rfl rfl rfl (Nat.le_of_ble_eq_true rfl) (Nat.le_of_ble_eq_true rfl) (Nat.le_of_ble_eq_true rfl) (Nat.le_of_ble_eq_true rfl) (Nat.le_of_ble_eq_true rfl) ?_
      refine x_iinc C dL_meet_102 rfl (nI_inc _) (by decide) rfl ?_
      refine x_goto C 39 dL_meet_105 (by decide) ?_
      refine xX.cl ih (wput_sg rfl (by rw [prF_s, prF_s])) (And.intro rfl (And.intro rfl (And.intro rfl (And.intro rfl (And.intro rfl (And.intro rfl (And.intro rfl (And.intro rfl (And.intro rfl trivial))))))))) rfl
  refine x_iconst (v := 0) C dL_meet_36 (by decide) ?_
  refine x_istore C dL_meet_37 (by decide) rfl ?_
  refine xX.cl (hl1 0 (by omega)) (wput_sg rfl (by rw [prF_0, prF_0]; exact rr_e.symm)) (And.intro rfl (And.intro rfl (And.intro rfl (And.intro rfl (And.intro rfl (And.intro rfl (And.intro rfl (And.intro rfl (And.intro rfl trivial))))))))) rfl
set_option maxRecDepth 100000 in
set_option maxHeartbeats 1000000 in
theorem c_L_meet {l : Launch} {E : xEnv} {B N : Nat} {σ : Sg} {A k1 k2 m w s : Nat} {Q : Fn} {R : Nat → Fn} (hk1 : k1 < 4) (hk2 : k2 < 4) (hne : k1 ≠ k2) (hm : m < 6) (hwd : wdS (R k1) m = some w) (hq : Q 0 = nI s) (h6 : s < 65536) : xM l yL_meet cL_meet 9 (some .int) 1 24 0 0 E B [.int (nI k1), .int (nI k2), .int (nI m), .ref A, .ref (A + 1 + k1), .ref (A + 1 + k2)] N (wput E σ A Q R) N (wput E σ A (mqF (mq0 Q (R k2) w) k1 k2 m (mh0 Q (R k2) w)) (mrF R (mq0 Q (R k2) w) k1 k2 m w (mh0 Q (R k2) w))) (some (.int (10 * nI w + nI (mh0 Q (R k2) w)))) := by
  refine xM_of [some (.int _), some (.int _), some (.int _), some (.ref _), some (.ref _), some (.ref _), none, none, none] (by decide +kernel) (Nat.le_of_ble_eq_true rfl) rfl (fun k0 C Z => ?_)
  have hw : w < 10 := wd_in hwd
  have hh : mh0 Q (R k2) w < 6 := mh0_lt
  have hB : xX k0 N 0 0 (wput E σ A (mq0 Q (R k2) w) R) 30 [some (.int (nI k1)), some (.int (nI k2)), some (.int (nI m)), some (.ref A), some (.ref (A + 1 + k1)), some (.ref (A + 1 + k2)), some (.int (nI w)), some (.int (nI (mh0 Q (R k2) w))), none] [] := by
    by_cases hc : (mh0 Q (R k2) w) = m
    · refine x_iload C dL_meet_30 rfl ?_
      refine x_iload_n C dL_meet_32 rfl ?_
      refine x_ic_ne C 154 dL_meet_33 (by decide) (fun h => absurd (congrArg nI hc) h) (fun _ => ?_)
      exact lm_S hk1 hk2 hne hm hw hh hc C Z
    · refine x_iload C dL_meet_30 rfl ?_
      refine x_iload_n C dL_meet_32 rfl ?_
      refine x_ic_ne C 154 dL_meet_33 (by decide) (fun _ => ?_) (fun h => absurd h (nI_neL (by omega) (by omega) hc))
      exact lm_F hk1 hk2 hne hm hw hh hc C Z
  refine x_iload_n C dL_meet_0 rfl ?_
  refine x_aload C dL_meet_1 rfl ?_
  refine x_callS C (c_L_word (wput_r hk1) hm) ks_L_word kl_L_16 dL_meet_3 rfl rfl rfl rfl (Nat.le_of_ble_eq_true rfl) (Nat.le_of_ble_eq_true rfl) (Nat.le_of_ble_eq_true rfl) (Nat.le_of_ble_eq_true rfl) (Nat.le_of_ble_eq_true rfl) ?_
  rw [hwd]
  refine x_istore C dL_meet_6 (by decide) rfl ?_
  refine x_iload C dL_meet_8 rfl ?_
  refine x_aload C dL_meet_10 rfl ?_
  refine x_callS C (c_L_heard (wput_r hk2) hw) ks_L_heard kl_L_22 dL_meet_12 rfl rfl rfl rfl (Nat.le_of_ble_eq_true rfl) (Nat.le_of_ble_eq_true rfl) (Nat.le_of_ble_eq_true rfl) (Nat.le_of_ble_eq_true rfl) (Nat.le_of_ble_eq_true rfl) ?_
  refine x_istore C dL_meet_15 (by decide) rfl ?_
  cases ho : hdS (R k2) w with
  | none =>
    rw [mq0_n ho, mh0_n ho] at hB
    refine x_iload C dL_meet_17 rfl ?_
    refine x_if_ge C 30 dL_meet_19 (by decide) (fun h => absurd h (by decide)) (fun _ => ?_)
    refine x_bipush (v := 6) C dL_meet_22 (by decide) ?_
    refine x_aload_n C dL_meet_24 rfl ?_
    refine x_callS C (c_L_draw wput_q hq h6 (n := 6) (by decide) (by decide) wput_uq) ks_L_draw kl_L_25 dL_meet_25 rfl rfl rfl rfl (Nat.le_of_ble_eq_true rfl) (Nat.le_of_ble_eq_true rfl) (Nat.le_of_ble_eq_true rfl) (Nat.le_of_ble_eq_true rfl) (Nat.le_of_ble_eq_true rfl) ?_
    refine x_istore C dL_meet_28 (by decide) rfl ?_
    rw [hq] at hB
    exact hB
  | some b2 =>
    have hb2 : b2 < 6 := hd_in ho
    rw [mq0_s ho, mh0_s ho] at hB
    refine x_iload C dL_meet_17 rfl ?_
    refine x_if_ge C 30 dL_meet_19 (by decide) (fun _ => ?_) (fun h => absurd (nI_pos' (n := b2) (by omega)) h)
    exact hB
