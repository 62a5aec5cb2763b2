/-! the law -/
def xScr (k : xT) (bb L : Nat) (xs : Nat → Int32) : Prop := match k with
  | (_, _, _, _, s, _, _, _, _, _, _, _, B, _) => va_X bb L xs s s.heap ∧ bb < s.heap.size ∧ B = s.heap.size
section XL
variable {k : xT} {l : Launch} {E : xEnv} {B : Nat} {cc : ByteArray} {nL : Nat} {ret : Option FieldType} {own mn : String} {fr lo ce sl N a b : Nat} {σ : Sg} {pc : Nat} {lv : List (Option Value)} {st : List Value} {bb L : Nat} {xs : Nat → Int32}
theorem x_sld (C : xC k l E B cc nL ret own mn fr lo ce sl) (hX : xScr k bb L xs) {i : Int32} {q : Nat} (hi : i = nI q) (hq : q < L) (hL : L < 2 ^ 31) (d : decode cc pc = .ok (.iaload, 1))
    (kk : xX k N a b σ (pc + 1) lv (.int (xs q) :: st)) : xX k N a b σ pc lv (.int i :: .ref bb :: st) := by
  obtain ⟨p, l0, e, R, s, m, args, below, meth, c, Q, E0, B0, nL0⟩ := k
  obtain ⟨rfl, rfl, rfl, rfl, hx, hb, hml, hown, hts, hk, ⟨hR1, hR2, hR3, hR4⟩, hr, hlk, hmn, hBs⟩ := C
  obtain ⟨X1, X2, X3⟩ := hX
  subst hi
  intro H locs ls hh hS hl
  refine va_sld hx hb X1 X2 (by rw [X3]; exact Nat.not_le.mpr X2) hS (vp_in_nI hq hL) d ?_
  rw [nI_clamp (by omega)]
  exact kk H locs ls hh hS hl
theorem x_slen (C : xC k l E B cc nL ret own mn fr lo ce sl) (hX : xScr k bb L xs) (d : decode cc pc = .ok (.arraylength, 1))
    (kk : xX k N a b σ (pc + 1) lv (.int (nI L) :: st)) : xX k N a b σ pc lv (.ref bb :: st) := by
  obtain ⟨p, l0, e, R, s, m, args, below, meth, c, Q, E0, B0, nL0⟩ := k
  obtain ⟨rfl, rfl, rfl, rfl, hx, hb, hml, hown, hts, hk, ⟨hR1, hR2, hR3, hR4⟩, hr, hlk, hmn, hBs⟩ := C
  obtain ⟨X1, X2, X3⟩ := hX
  intro H locs ls hh hS hl
  exact va_slen hx hb X1 X2 (by rw [X3]; exact Nat.not_le.mpr X2) hS d (kk H locs ls hh hS hl)
end XL
theorem mc_0 {E : xEnv} {σ : Sg} {B : Nat} {VV : Cs} {nx sz len : Int32} {tx : Fn} {U : Vs} {kp ho tm sc : Fn} : mput E (cput E σ B VV nx sz len tx) (B + 165) U kp ho tm sc B = some (.inr (4, [.ref (B + 1), .ref (B + 21), .ref (B + 41), .ref (B + 163)])) := (mput_out (Or.inl (by omega))).trans cput_0
theorem mc_s {E : xEnv} {σ : Sg} {B : Nat} {VV : Cs} {nx sz len : Int32} {tc : Fn} {U : Vs} {kp ho tx sc : Fn} : mput E (cput E σ B VV nx sz len tc) (B + 165) U kp ho tx sc = cput E (mput E σ (B + 165) U kp ho tx sc) B VV nx sz len tc := mput_c (Nat.le_refl _)
theorem lg_self (x : Int64) : lg_cmp x x = 0 := by
  unfold lg_cmp
  rw [if_neg (show ¬ x > x from Int64.lt_irrefl), if_pos rfl]
theorem sb_lt {L t : Nat} (h : L < 5 * t + 5) (hL : L ≤ 2560) (ht : 5 * t ≤ 2560) : nI L - 5 < nI (5 * t) := by
  by_cases h5 : 5 ≤ L
  · rw [show nI L - 5 = nI (L - 5) from pk_sub (b := 5) h5]
    exact nI_lt (by omega) (by omega)
  · have : L = 0 ∨ L = 1 ∨ L = 2 ∨ L = 3 ∨ L = 4 := by omega
    refine Int32.lt_of_lt_of_le (b := 0) ?_ (nI_pos' (by omega))
    rcases this with rfl | rfl | rfl | rfl | rfl <;> decide
theorem sb_ge {L t : Nat} (h : 5 * t + 5 ≤ L) (hL : L ≤ 2560) : ¬ nI L - 5 < nI (5 * t) := by
  rw [show nI L - 5 = nI (L - 5) from pk_sub (b := 5) (by omega)]
  exact nI_nlt (by omega) (by omega)
theorem V0_rel : WR (fun _ => V0) 0 0 0 V0 (fun _ => 0) (fun _ => 0) := by
  have e10 : ∀ k, ¬ V0 10 k = 1 := by
    intro k
    unfold V0
    rw [if_neg (by decide), if_neg (by omega)]
    decide
  refine ⟨by decide, by decide, by decide, ?_, ?_, rfl, rfl, fun i hi => absurd hi (Nat.not_lt_zero _)⟩
  · refine RV_mk (fun _ _ => rfl) (fun _ => rfl) (fun _ _ => rfl) (fun k _ h => absurd h (e10 k)) (fun k hk _ => ⟨rfl, rfl, fun j => ⟨fun _ => ?_, fun _ => rfl⟩⟩)
    unfold V0
    rw [if_neg (by omega), if_neg (by omega)]
  · refine ⟨⟨fun t ht j _ => ?_, 50, by decide, rfl⟩, 1, by decide, rfl⟩
    have e : V0 t j = 0 := by
      unfold V0
      rw [if_neg (by omega), if_neg (by omega)]
    rw [e]; decide
/-- the one way in which the law ends -/
def xEnd (k : xT) : Prop := ∀ (N a b : Nat) (σ : Sg) (lv : List (Option Value)), a ≤ 600000 → b ≤ 7302250 → xX k N a b σ 942 lv [.int 1]
set_option maxRecDepth 100000 in
set_option maxHeartbeats 8000000 in
theorem law_loop {k0 : xT} {l : Launch} {E : xEnv} {B bb L : Nat} {xs : Nat → Int32} {mn : String} {N : Nat} (C : xC k0 l E B cL_law 4 ret RL mn 9 338 600000 7302250) (hX : xScr k0 bb L xs) (hL : L ≤ 2560) (hE : xEnd k0) : ∀ (d t : Nat) (VV : Cs) (p z n : Nat) (tx : Fn) (U : Vs) (kp ho sc : Fn), L + 5 - 5 * t ≤ d → 5 * t ≤ L → WR VV p z n U ho sc → xX k0 N 170 11732 (mput E (cput E (fun _ => none) B VV (nI p) (nI z) (nI n) tx) (B + 165) U kp ho tx sc) 18 [some (.ref bb), some (.ref B), some (.ref (B + 165)), some (.int (nI (5 * t)))] [] := by
  have hL31 : L < 2 ^ 31 := by omega
  intro d
  induction d with
  | zero => intro t VV p z n tx U kp ho sc hd ht; omega
  | succ d ih =>
    intro t VV p z n tx U kp ho sc hd ht W
    by_cases h5 : 5 * t + 5 ≤ L
    · refine x_iload_n C dL_law_18 rfl ?_
      refine x_aload_n C dL_law_19 rfl ?_
      refine x_slen C hX dL_law_20 ?_
      refine x_iconst (v := 5) C dL_law_21 (by decide) ?_
      refine x_isub C dL_law_22 ?_
      refine x_ic_gt C 941 dL_law_23 (by decide) (fun h => absurd h (sb_ge h5 hL)) (fun _ => ?_)
      refine x_aload_n C dL_law_26 rfl ?_
      refine x_iload_n C dL_law_27 rfl ?_
      refine x_sld C hX rfl (by omega) hL31 dL_law_28 ?_
      refine x_bipush (v := 31) C dL_law_29 (by decide) ?_
      refine x_iand C dL_law_31 ?_
      obtain ⟨j, hj, ej⟩ := pk_andE (xs (5 * t)) (m := 31) 5 (by decide)
      rw [ej]
      rcases (show j = 0 ∨ j = 1 ∨ j = 2 ∨ j = 3 ∨ j = 4 ∨ j = 5 ∨ j = 6 ∨ j = 7 ∨ j = 8 ∨ j = 9 ∨ j = 10 ∨ j = 11 ∨ j = 12 ∨ j = 13 ∨ j = 14 ∨ j = 15 ∨ j = 16 ∨ j = 17 ∨ j = 18 ∨ j = 19 ∨ j = 20 ∨ j = 21 ∨ j = 22 ∨ j = 23 ∨ j = 24 ∨ j = 25 ∨ j = 26 ∨ j = 27 ∨ 28 ≤ j by omega) with rfl | rfl | rfl | rfl | rfl | rfl | rfl | rfl | rfl | rfl | rfl | rfl | rfl | rfl | rfl | rfl | rfl | rfl | rfl | rfl | rfl | rfl | rfl | rfl | rfl | rfl | rfl | rfl | hj2
      · obtain ⟨VV2, p2, z2, n2, tx2, U2, kp2, ho2, sc2, rv, W2, h4, h5b⟩ := st_come (l := l) (E := E) (B := B) (M := B + 165) (tx := tx) (kp := kp) W 
        refine x_tbI C 160 dL_law_32 (by decide) (by decide) rfl (by decide) ?_
        refine x_aload_n C dL_law_160 rfl ?_
        refine x_callV C (h4 _ _) kv_X4_come kl_L_13 dL_law_161 mc_0 mc_s mc_s.symm rfl rfl (Nat.le_of_ble_eq_true rfl) (Nat.le_of_ble_eq_true rfl) (Nat.le_of_ble_eq_true rfl) (Nat.le_of_ble_eq_true rfl) (Nat.le_of_ble_eq_true rfl) ?_
        refine x_aload_n C dL_law_164 rfl ?_
        refine x_callV C (h5b _ _) kv_X5_come kl_L_17 dL_law_165 mput_0 rfl rfl rfl rfl (Nat.le_of_ble_eq_true rfl) (Nat.le_of_ble_eq_true rfl) (Nat.le_of_ble_eq_true rfl) (Nat.le_of_ble_eq_true rfl) (Nat.le_of_ble_eq_true rfl) ?_
        refine x_ic_eq C 935 dL_law_168 (by decide) (fun _ => ?_) (fun h => absurd rfl h)
        refine x_iinc C dL_law_935 rfl (nI_add (5 * t) 5) (by decide) rfl ?_
        refine x_goto C 18 dL_law_938 (by decide) ?_
        refine xX.cl (ih (t + 1) VV2 p2 z2 n2 tx2 U2 kp2 ho2 sc2 (by omega) (by omega) W2) rfl (And.intro rfl (And.intro rfl (And.intro rfl (And.intro rfl trivial)))) rfl
      · obtain ⟨VV2, p2, z2, n2, tx2, U2, kp2, ho2, sc2, rv, W2, h4, h5b⟩ := st_go (l := l) (E := E) (B := B) (M := B + 165) (tx := tx) (kp := kp) W (xs (5 * t + 1))
        refine x_tbI C 173 dL_law_32 (by decide) (by decide) rfl (by decide) ?_
        refine x_aload_n C dL_law_173 rfl ?_
        refine x_aload_n C dL_law_174 rfl ?_
        refine x_iload_n C dL_law_175 rfl ?_
        refine x_iconst (v := 1) C dL_law_176 (by decide) ?_
        refine x_iadd C dL_law_177 ?_
        refine x_sld C hX (nI_add (5 * t) 1) (by omega) hL31 dL_law_178 ?_
        refine x_callV C (h4 _ _) kv_X4_go kl_L_18 dL_law_179 mc_0 mc_s mc_s.symm rfl rfl (Nat.le_of_ble_eq_true rfl) (Nat.le_of_ble_eq_true rfl) (Nat.le_of_ble_eq_true rfl) (Nat.le_of_ble_eq_true rfl) (Nat.le_of_ble_eq_true rfl) ?_
        refine x_aload_n C dL_law_182 rfl ?_
        refine x_aload_n C dL_law_183 rfl ?_
        refine x_iload_n C dL_law_184 rfl ?_
        refine x_iconst (v := 1) C dL_law_185 (by decide) ?_
        refine x_iadd C dL_law_186 ?_
        refine x_sld C hX (nI_add (5 * t) 1) (by omega) hL31 dL_law_187 ?_
        refine x_callV C (h5b _ _) kv_X5_go kl_L_22 dL_law_188 mput_0 rfl rfl rfl rfl (Nat.le_of_ble_eq_true rfl) (Nat.le_of_ble_eq_true rfl) (Nat.le_of_ble_eq_true rfl) (Nat.le_of_ble_eq_true rfl) (Nat.le_of_ble_eq_true rfl) ?_
        refine x_ic_eq C 935 dL_law_191 (by decide) (fun _ => ?_) (fun h => absurd rfl h)
        refine x_iinc C dL_law_935 rfl (nI_add (5 * t) 5) (by decide) rfl ?_
        refine x_goto C 18 dL_law_938 (by decide) ?_
        refine xX.cl (ih (t + 1) VV2 p2 z2 n2 tx2 U2 kp2 ho2 sc2 (by omega) (by omega) W2) rfl (And.intro rfl (And.intro rfl (And.intro rfl (And.intro rfl trivial)))) rfl
      · obtain ⟨VV2, p2, z2, n2, tx2, U2, kp2, ho2, sc2, rv, W2, h4, h5b⟩ := st_set (l := l) (E := E) (B := B) (M := B + 165) (tx := tx) (kp := kp) W (xs (5 * t + 1)) (xs (5 * t + 2))
        refine x_tbI C 196 dL_law_32 (by decide) (by decide) rfl (by decide) ?_
        refine x_aload_n C dL_law_196 rfl ?_
        refine x_aload_n C dL_law_197 rfl ?_
        refine x_iload_n C dL_law_198 rfl ?_
        refine x_iconst (v := 1) C dL_law_199 (by decide) ?_
        refine x_iadd C dL_law_200 ?_
        refine x_sld C hX (nI_add (5 * t) 1) (by omega) hL31 dL_law_201 ?_
        refine x_aload_n C dL_law_202 rfl ?_
        refine x_iload_n C dL_law_203 rfl ?_
        refine x_iconst (v := 2) C dL_law_204 (by decide) ?_
        refine x_iadd C dL_law_205 ?_
        refine x_sld C hX (nI_add (5 * t) 2) (by omega) hL31 dL_law_206 ?_
        refine x_callV C (h4 _ _) kv_X4_set kl_L_23 dL_law_207 mc_0 mc_s mc_s.symm rfl rfl (Nat.le_of_ble_eq_true rfl) (Nat.le_of_ble_eq_true rfl) (Nat.le_of_ble_eq_true rfl) (Nat.le_of_ble_eq_true rfl) (Nat.le_of_ble_eq_true rfl) ?_
        refine x_aload_n C dL_law_210 rfl ?_
        refine x_aload_n C dL_law_211 rfl ?_
        refine x_iload_n C dL_law_212 rfl ?_
        refine x_iconst (v := 1) C dL_law_213 (by decide) ?_
        refine x_iadd C dL_law_214 ?_
        refine x_sld C hX (nI_add (5 * t) 1) (by omega) hL31 dL_law_215 ?_
        refine x_aload_n C dL_law_216 rfl ?_
        refine x_iload_n C dL_law_217 rfl ?_
        refine x_iconst (v := 2) C dL_law_218 (by decide) ?_
        refine x_iadd C dL_law_219 ?_
        refine x_sld C hX (nI_add (5 * t) 2) (by omega) hL31 dL_law_220 ?_
        refine x_callV C (h5b _ _) kv_X5_set kl_L_27 dL_law_221 mput_0 rfl rfl rfl rfl (Nat.le_of_ble_eq_true rfl) (Nat.le_of_ble_eq_true rfl) (Nat.le_of_ble_eq_true rfl) (Nat.le_of_ble_eq_true rfl) (Nat.le_of_ble_eq_true rfl) ?_
        refine x_ic_eq C 935 dL_law_224 (by decide) (fun _ => ?_) (fun h => absurd rfl h)
        refine x_iinc C dL_law_935 rfl (nI_add (5 * t) 5) (by decide) rfl ?_
        refine x_goto C 18 dL_law_938 (by decide) ?_
        refine xX.cl (ih (t + 1) VV2 p2 z2 n2 tx2 U2 kp2 ho2 sc2 (by omega) (by omega) W2) rfl (And.intro rfl (And.intro rfl (And.intro rfl (And.intro rfl trivial)))) rfl
      · obtain ⟨VV2, p2, z2, n2, tx2, U2, kp2, ho2, sc2, rv, W2, h4, h5b⟩ := st_setSeed (l := l) (E := E) (B := B) (M := B + 165) (tx := tx) (kp := kp) W (xs (5 * t + 1))
        refine x_tbI C 229 dL_law_32 (by decide) (by decide) rfl (by decide) ?_
        refine x_aload_n C dL_law_229 rfl ?_
        refine x_aload_n C dL_law_230 rfl ?_
        refine x_iload_n C dL_law_231 rfl ?_
        refine x_iconst (v := 1) C dL_law_232 (by decide) ?_
        refine x_iadd C dL_law_233 ?_
        refine x_sld C hX (nI_add (5 * t) 1) (by omega) hL31 dL_law_234 ?_
        refine x_callV C (h4 _ _) kv_X4_setSeed kl_L_28 dL_law_235 mc_0 mc_s mc_s.symm rfl rfl (Nat.le_of_ble_eq_true rfl) (Nat.le_of_ble_eq_true rfl) (Nat.le_of_ble_eq_true rfl) (Nat.le_of_ble_eq_true rfl) (Nat.le_of_ble_eq_true rfl) ?_
        refine x_aload_n C dL_law_238 rfl ?_
        refine x_aload_n C dL_law_239 rfl ?_
        refine x_iload_n C dL_law_240 rfl ?_
        refine x_iconst (v := 1) C dL_law_241 (by decide) ?_
        refine x_iadd C dL_law_242 ?_
        refine x_sld C hX (nI_add (5 * t) 1) (by omega) hL31 dL_law_243 ?_
        refine x_callV C (h5b _ _) kv_X5_setSeed kl_L_31 dL_law_244 mput_0 rfl rfl rfl rfl (Nat.le_of_ble_eq_true rfl) (Nat.le_of_ble_eq_true rfl) (Nat.le_of_ble_eq_true rfl) (Nat.le_of_ble_eq_true rfl) (Nat.le_of_ble_eq_true rfl) ?_
        refine x_ic_eq C 935 dL_law_247 (by decide) (fun _ => ?_) (fun h => absurd rfl h)
        refine x_iinc C dL_law_935 rfl (nI_add (5 * t) 5) (by decide) rfl ?_
        refine x_goto C 18 dL_law_938 (by decide) ?_
        refine xX.cl (ih (t + 1) VV2 p2 z2 n2 tx2 U2 kp2 ho2 sc2 (by omega) (by omega) W2) rfl (And.intro rfl (And.intro rfl (And.intro rfl (And.intro rfl trivial)))) rfl
      · obtain ⟨VV2, p2, z2, n2, tx2, U2, kp2, ho2, sc2, rv, W2, h4, h5b⟩ := st_teach (l := l) (E := E) (B := B) (M := B + 165) (tx := tx) (kp := kp) W (xs (5 * t + 1)) (xs (5 * t + 2)) (xs (5 * t + 3)) (xs (5 * t + 4))
        refine x_tbI C 252 dL_law_32 (by decide) (by decide) rfl (by decide) ?_
        refine x_aload_n C dL_law_252 rfl ?_
        refine x_aload_n C dL_law_253 rfl ?_
        refine x_iload_n C dL_law_254 rfl ?_
        refine x_iconst (v := 1) C dL_law_255 (by decide) ?_
        refine x_iadd C dL_law_256 ?_
        refine x_sld C hX (nI_add (5 * t) 1) (by omega) hL31 dL_law_257 ?_
        refine x_aload_n C dL_law_258 rfl ?_
        refine x_iload_n C dL_law_259 rfl ?_
        refine x_iconst (v := 2) C dL_law_260 (by decide) ?_
        refine x_iadd C dL_law_261 ?_
        refine x_sld C hX (nI_add (5 * t) 2) (by omega) hL31 dL_law_262 ?_
        refine x_aload_n C dL_law_263 rfl ?_
        refine x_iload_n C dL_law_264 rfl ?_
        refine x_iconst (v := 3) C dL_law_265 (by decide) ?_
        refine x_iadd C dL_law_266 ?_
        refine x_sld C hX (nI_add (5 * t) 3) (by omega) hL31 dL_law_267 ?_
        refine x_aload_n C dL_law_268 rfl ?_
        refine x_iload_n C dL_law_269 rfl ?_
        refine x_iconst (v := 4) C dL_law_270 (by decide) ?_
        refine x_iadd C dL_law_271 ?_
        refine x_sld C hX (nI_add (5 * t) 4) (by omega) hL31 dL_law_272 ?_
        refine x_callV C (h4 _ _) kv_X4_teach kl_L_32 dL_law_273 mc_0 mc_s mc_s.symm rfl rfl (Nat.le_of_ble_eq_true rfl) (Nat.le_of_ble_eq_true rfl) (Nat.le_of_ble_eq_true rfl) (Nat.le_of_ble_eq_true rfl) (Nat.le_of_ble_eq_true rfl) ?_
        refine x_aload_n C dL_law_276 rfl ?_
        refine x_aload_n C dL_law_277 rfl ?_
        refine x_iload_n C dL_law_278 rfl ?_
        refine x_iconst (v := 1) C dL_law_279 (by decide) ?_
        refine x_iadd C dL_law_280 ?_
        refine x_sld C hX (nI_add (5 * t) 1) (by omega) hL31 dL_law_281 ?_
        refine x_aload_n C dL_law_282 rfl ?_
        refine x_iload_n C dL_law_283 rfl ?_
        refine x_iconst (v := 2) C dL_law_284 (by decide) ?_
        refine x_iadd C dL_law_285 ?_
        refine x_sld C hX (nI_add (5 * t) 2) (by omega) hL31 dL_law_286 ?_
        refine x_aload_n C dL_law_287 rfl ?_
        refine x_iload_n C dL_law_288 rfl ?_
        refine x_iconst (v := 3) C dL_law_289 (by decide) ?_
        refine x_iadd C dL_law_290 ?_
        refine x_sld C hX (nI_add (5 * t) 3) (by omega) hL31 dL_law_291 ?_
        refine x_aload_n C dL_law_292 rfl ?_
        refine x_iload_n C dL_law_293 rfl ?_
        refine x_iconst (v := 4) C dL_law_294 (by decide) ?_
        refine x_iadd C dL_law_295 ?_
        refine x_sld C hX (nI_add (5 * t) 4) (by omega) hL31 dL_law_296 ?_
        refine x_callV C (h5b _ _) kv_X5_teach kl_L_36 dL_law_297 mput_0 rfl rfl rfl rfl (Nat.le_of_ble_eq_true rfl) (Nat.le_of_ble_eq_true rfl) (Nat.le_of_ble_eq_true rfl) (Nat.le_of_ble_eq_true rfl) (Nat.le_of_ble_eq_true rfl) ?_
        refine x_ic_eq C 935 dL_law_300 (by decide) (fun _ => ?_) (fun h => absurd rfl h)
        refine x_iinc C dL_law_935 rfl (nI_add (5 * t) 5) (by decide) rfl ?_
        refine x_goto C 18 dL_law_938 (by decide) ?_
        refine xX.cl (ih (t + 1) VV2 p2 z2 n2 tx2 U2 kp2 ho2 sc2 (by omega) (by omega) W2) rfl (And.intro rfl (And.intro rfl (And.intro rfl (And.intro rfl trivial)))) rfl
      · obtain ⟨VV2, p2, z2, n2, tx2, U2, kp2, ho2, sc2, rv, W2, h4, h5b⟩ := st_setAge (l := l) (E := E) (B := B) (M := B + 165) (tx := tx) (kp := kp) W (xs (5 * t + 1)) (xs (5 * t + 2))
        refine x_tbI C 305 dL_law_32 (by decide) (by decide) rfl (by decide) ?_
        refine x_aload_n C dL_law_305 rfl ?_
        refine x_aload_n C dL_law_306 rfl ?_
        refine x_iload_n C dL_law_307 rfl ?_
        refine x_iconst (v := 1) C dL_law_308 (by decide) ?_
        refine x_iadd C dL_law_309 ?_
        refine x_sld C hX (nI_add (5 * t) 1) (by omega) hL31 dL_law_310 ?_
        refine x_aload_n C dL_law_311 rfl ?_
        refine x_iload_n C dL_law_312 rfl ?_
        refine x_iconst (v := 2) C dL_law_313 (by decide) ?_
        refine x_iadd C dL_law_314 ?_
        refine x_sld C hX (nI_add (5 * t) 2) (by omega) hL31 dL_law_315 ?_
        refine x_callV C (h4 _ _) kv_X4_setAge kl_L_37 dL_law_316 mc_0 mc_s mc_s.symm rfl rfl (Nat.le_of_ble_eq_true rfl) (Nat.le_of_ble_eq_true rfl) (Nat.le_of_ble_eq_true rfl) (Nat.le_of_ble_eq_true rfl) (Nat.le_of_ble_eq_true rfl) ?_
        refine x_aload_n C dL_law_319 rfl ?_
        refine x_aload_n C dL_law_320 rfl ?_
        refine x_iload_n C dL_law_321 rfl ?_
        refine x_iconst (v := 1) C dL_law_322 (by decide) ?_
        refine x_iadd C dL_law_323 ?_
        refine x_sld C hX (nI_add (5 * t) 1) (by omega) hL31 dL_law_324 ?_
        refine x_aload_n C dL_law_325 rfl ?_
        refine x_iload_n C dL_law_326 rfl ?_
        refine x_iconst (v := 2) C dL_law_327 (by decide) ?_
        refine x_iadd C dL_law_328 ?_
        refine x_sld C hX (nI_add (5 * t) 2) (by omega) hL31 dL_law_329 ?_
        refine x_callV C (h5b _ _) kv_X5_setAge kl_L_40 dL_law_330 mput_0 rfl rfl rfl rfl (Nat.le_of_ble_eq_true rfl) (Nat.le_of_ble_eq_true rfl) (Nat.le_of_ble_eq_true rfl) (Nat.le_of_ble_eq_true rfl) (Nat.le_of_ble_eq_true rfl) ?_
        refine x_ic_eq C 935 dL_law_333 (by decide) (fun _ => ?_) (fun h => absurd rfl h)
        refine x_iinc C dL_law_935 rfl (nI_add (5 * t) 5) (by decide) rfl ?_
        refine x_goto C 18 dL_law_938 (by decide) ?_
        refine xX.cl (ih (t + 1) VV2 p2 z2 n2 tx2 U2 kp2 ho2 sc2 (by omega) (by omega) W2) rfl (And.intro rfl (And.intro rfl (And.intro rfl (And.intro rfl trivial)))) rfl
      · obtain ⟨VV2, p2, z2, n2, tx2, U2, kp2, ho2, sc2, rv, W2, h4, h5b⟩ := st_meet (l := l) (E := E) (B := B) (M := B + 165) (tx := tx) (kp := kp) W (xs (5 * t + 1)) (xs (5 * t + 2)) (xs (5 * t + 3))
        refine x_tbI C 338 dL_law_32 (by decide) (by decide) rfl (by decide) ?_
        refine x_aload_n C dL_law_338 rfl ?_
        refine x_aload_n C dL_law_339 rfl ?_
        refine x_iload_n C dL_law_340 rfl ?_
        refine x_iconst (v := 1) C dL_law_341 (by decide) ?_
        refine x_iadd C dL_law_342 ?_
        refine x_sld C hX (nI_add (5 * t) 1) (by omega) hL31 dL_law_343 ?_
        refine x_aload_n C dL_law_344 rfl ?_
        refine x_iload_n C dL_law_345 rfl ?_
        refine x_iconst (v := 2) C dL_law_346 (by decide) ?_
        refine x_iadd C dL_law_347 ?_
        refine x_sld C hX (nI_add (5 * t) 2) (by omega) hL31 dL_law_348 ?_
        refine x_aload_n C dL_law_349 rfl ?_
        refine x_iload_n C dL_law_350 rfl ?_
        refine x_iconst (v := 3) C dL_law_351 (by decide) ?_
        refine x_iadd C dL_law_352 ?_
        refine x_sld C hX (nI_add (5 * t) 3) (by omega) hL31 dL_law_353 ?_
        refine x_callV C (h4 _ _) kv_X4_meet kl_L_41 dL_law_354 mc_0 mc_s mc_s.symm rfl rfl (Nat.le_of_ble_eq_true rfl) (Nat.le_of_ble_eq_true rfl) (Nat.le_of_ble_eq_true rfl) (Nat.le_of_ble_eq_true rfl) (Nat.le_of_ble_eq_true rfl) ?_
        refine x_aload_n C dL_law_357 rfl ?_
        refine x_aload_n C dL_law_358 rfl ?_
        refine x_iload_n C dL_law_359 rfl ?_
        refine x_iconst (v := 1) C dL_law_360 (by decide) ?_
        refine x_iadd C dL_law_361 ?_
        refine x_sld C hX (nI_add (5 * t) 1) (by omega) hL31 dL_law_362 ?_
        refine x_aload_n C dL_law_363 rfl ?_
        refine x_iload_n C dL_law_364 rfl ?_
        refine x_iconst (v := 2) C dL_law_365 (by decide) ?_
        refine x_iadd C dL_law_366 ?_
        refine x_sld C hX (nI_add (5 * t) 2) (by omega) hL31 dL_law_367 ?_
        refine x_aload_n C dL_law_368 rfl ?_
        refine x_iload_n C dL_law_369 rfl ?_
        refine x_iconst (v := 3) C dL_law_370 (by decide) ?_
        refine x_iadd C dL_law_371 ?_
        refine x_sld C hX (nI_add (5 * t) 3) (by omega) hL31 dL_law_372 ?_
        refine x_callV C (h5b _ _) kv_X5_meet kl_L_45 dL_law_373 mput_0 rfl rfl rfl rfl (Nat.le_of_ble_eq_true rfl) (Nat.le_of_ble_eq_true rfl) (Nat.le_of_ble_eq_true rfl) (Nat.le_of_ble_eq_true rfl) (Nat.le_of_ble_eq_true rfl) ?_
        refine x_ic_eq C 935 dL_law_376 (by decide) (fun _ => ?_) (fun h => absurd rfl h)
        refine x_iinc C dL_law_935 rfl (nI_add (5 * t) 5) (by decide) rfl ?_
        refine x_goto C 18 dL_law_938 (by decide) ?_
        refine xX.cl (ih (t + 1) VV2 p2 z2 n2 tx2 U2 kp2 ho2 sc2 (by omega) (by omega) W2) rfl (And.intro rfl (And.intro rfl (And.intro rfl (And.intro rfl trivial)))) rfl
      · obtain ⟨VV2, p2, z2, n2, tx2, U2, kp2, ho2, sc2, rv, W2, h4, h5b⟩ := st_chat (l := l) (E := E) (B := B) (M := B + 165) (tx := tx) (kp := kp) W (xs (5 * t + 1))
        refine x_tbI C 381 dL_law_32 (by decide) (by decide) rfl (by decide) ?_
        refine x_aload_n C dL_law_381 rfl ?_
        refine x_aload_n C dL_law_382 rfl ?_
        refine x_iload_n C dL_law_383 rfl ?_
        refine x_iconst (v := 1) C dL_law_384 (by decide) ?_
        refine x_iadd C dL_law_385 ?_
        refine x_sld C hX (nI_add (5 * t) 1) (by omega) hL31 dL_law_386 ?_
        refine x_callV C (h4 _ _) kv_X4_chat kl_L_46 dL_law_387 mc_0 mc_s mc_s.symm rfl rfl (Nat.le_of_ble_eq_true rfl) (Nat.le_of_ble_eq_true rfl) (Nat.le_of_ble_eq_true rfl) (Nat.le_of_ble_eq_true rfl) (Nat.le_of_ble_eq_true rfl) ?_
        refine x_aload_n C dL_law_390 rfl ?_
        refine x_aload_n C dL_law_391 rfl ?_
        refine x_iload_n C dL_law_392 rfl ?_
        refine x_iconst (v := 1) C dL_law_393 (by decide) ?_
        refine x_iadd C dL_law_394 ?_
        refine x_sld C hX (nI_add (5 * t) 1) (by omega) hL31 dL_law_395 ?_
        refine x_callV C (h5b _ _) kv_X5_chat kl_L_49 dL_law_396 mput_0 rfl rfl rfl rfl (Nat.le_of_ble_eq_true rfl) (Nat.le_of_ble_eq_true rfl) (Nat.le_of_ble_eq_true rfl) (Nat.le_of_ble_eq_true rfl) (Nat.le_of_ble_eq_true rfl) ?_
        refine x_ic_eq C 935 dL_law_399 (by decide) (fun _ => ?_) (fun h => absurd rfl h)
        refine x_iinc C dL_law_935 rfl (nI_add (5 * t) 5) (by decide) rfl ?_
        refine x_goto C 18 dL_law_938 (by decide) ?_
        refine xX.cl (ih (t + 1) VV2 p2 z2 n2 tx2 U2 kp2 ho2 sc2 (by omega) (by omega) W2) rfl (And.intro rfl (And.intro rfl (And.intro rfl (And.intro rfl trivial)))) rfl
      · obtain ⟨VV2, p2, z2, n2, tx2, U2, kp2, ho2, sc2, rv, W2, h4, h5b⟩ := st_age (l := l) (E := E) (B := B) (M := B + 165) (tx := tx) (kp := kp) W (xs (5 * t + 1))
        refine x_tbI C 404 dL_law_32 (by decide) (by decide) rfl (by decide) ?_
        refine x_aload_n C dL_law_404 rfl ?_
        refine x_aload_n C dL_law_405 rfl ?_
        refine x_iload_n C dL_law_406 rfl ?_
        refine x_iconst (v := 1) C dL_law_407 (by decide) ?_
        refine x_iadd C dL_law_408 ?_
        refine x_sld C hX (nI_add (5 * t) 1) (by omega) hL31 dL_law_409 ?_
        refine x_callV C (h4 _ _) kv_X4_age kl_L_50 dL_law_410 mc_0 mc_s mc_s.symm rfl rfl (Nat.le_of_ble_eq_true rfl) (Nat.le_of_ble_eq_true rfl) (Nat.le_of_ble_eq_true rfl) (Nat.le_of_ble_eq_true rfl) (Nat.le_of_ble_eq_true rfl) ?_
        refine x_aload_n C dL_law_413 rfl ?_
        refine x_aload_n C dL_law_414 rfl ?_
        refine x_iload_n C dL_law_415 rfl ?_
        refine x_iconst (v := 1) C dL_law_416 (by decide) ?_
        refine x_iadd C dL_law_417 ?_
        refine x_sld C hX (nI_add (5 * t) 1) (by omega) hL31 dL_law_418 ?_
        refine x_callV C (h5b _ _) kv_X5_age kl_L_53 dL_law_419 mput_0 rfl rfl rfl rfl (Nat.le_of_ble_eq_true rfl) (Nat.le_of_ble_eq_true rfl) (Nat.le_of_ble_eq_true rfl) (Nat.le_of_ble_eq_true rfl) (Nat.le_of_ble_eq_true rfl) ?_
        refine x_ic_eq C 935 dL_law_422 (by decide) (fun _ => ?_) (fun h => absurd rfl h)
        refine x_iinc C dL_law_935 rfl (nI_add (5 * t) 5) (by decide) rfl ?_
        refine x_goto C 18 dL_law_938 (by decide) ?_
        refine xX.cl (ih (t + 1) VV2 p2 z2 n2 tx2 U2 kp2 ho2 sc2 (by omega) (by omega) W2) rfl (And.intro rfl (And.intro rfl (And.intro rfl (And.intro rfl trivial)))) rfl
      · obtain ⟨VV2, p2, z2, n2, tx2, U2, kp2, ho2, sc2, rv, W2, h4, h5b⟩ := st_count (l := l) (E := E) (B := B) (M := B + 165) (tx := tx) (kp := kp) W (xs (5 * t + 1))
        refine x_tbI C 427 dL_law_32 (by decide) (by decide) rfl (by decide) ?_
        refine x_aload_n C dL_law_427 rfl ?_
        refine x_aload_n C dL_law_428 rfl ?_
        refine x_iload_n C dL_law_429 rfl ?_
        refine x_iconst (v := 1) C dL_law_430 (by decide) ?_
        refine x_iadd C dL_law_431 ?_
        refine x_sld C hX (nI_add (5 * t) 1) (by omega) hL31 dL_law_432 ?_
        refine x_callV C (h4 _ _) kv_X4_count kl_L_54 dL_law_433 mc_0 mc_s mc_s.symm rfl rfl (Nat.le_of_ble_eq_true rfl) (Nat.le_of_ble_eq_true rfl) (Nat.le_of_ble_eq_true rfl) (Nat.le_of_ble_eq_true rfl) (Nat.le_of_ble_eq_true rfl) ?_
        refine x_aload_n C dL_law_436 rfl ?_
        refine x_aload_n C dL_law_437 rfl ?_
        refine x_iload_n C dL_law_438 rfl ?_
        refine x_iconst (v := 1) C dL_law_439 (by decide) ?_
        refine x_iadd C dL_law_440 ?_
        refine x_sld C hX (nI_add (5 * t) 1) (by omega) hL31 dL_law_441 ?_
        refine x_callV C (h5b _ _) kv_X5_count kl_L_57 dL_law_442 mput_0 rfl rfl rfl rfl (Nat.le_of_ble_eq_true rfl) (Nat.le_of_ble_eq_true rfl) (Nat.le_of_ble_eq_true rfl) (Nat.le_of_ble_eq_true rfl) (Nat.le_of_ble_eq_true rfl) ?_
        refine x_ic_eq C 935 dL_law_445 (by decide) (fun _ => ?_) (fun h => absurd rfl h)
        refine x_iinc C dL_law_935 rfl (nI_add (5 * t) 5) (by decide) rfl ?_
        refine x_goto C 18 dL_law_938 (by decide) ?_
        refine xX.cl (ih (t + 1) VV2 p2 z2 n2 tx2 U2 kp2 ho2 sc2 (by omega) (by omega) W2) rfl (And.intro rfl (And.intro rfl (And.intro rfl (And.intro rfl trivial)))) rfl
      · obtain ⟨VV2, p2, z2, n2, tx2, U2, kp2, ho2, sc2, rv, W2, h4, h5b⟩ := st_setting (l := l) (E := E) (B := B) (M := B + 165) (tx := tx) (kp := kp) W (xs (5 * t + 1))
        refine x_tbI C 450 dL_law_32 (by decide) (by decide) rfl (by decide) ?_
        refine x_aload_n C dL_law_450 rfl ?_
        refine x_aload_n C dL_law_451 rfl ?_
        refine x_iload_n C dL_law_452 rfl ?_
        refine x_iconst (v := 1) C dL_law_453 (by decide) ?_
        refine x_iadd C dL_law_454 ?_
        refine x_sld C hX (nI_add (5 * t) 1) (by omega) hL31 dL_law_455 ?_
        refine x_callV C (h4 _ _) kv_X4_setting kl_L_58 dL_law_456 mc_0 mc_s mc_s.symm rfl rfl (Nat.le_of_ble_eq_true rfl) (Nat.le_of_ble_eq_true rfl) (Nat.le_of_ble_eq_true rfl) (Nat.le_of_ble_eq_true rfl) (Nat.le_of_ble_eq_true rfl) ?_
        refine x_aload_n C dL_law_459 rfl ?_
        refine x_aload_n C dL_law_460 rfl ?_
        refine x_iload_n C dL_law_461 rfl ?_
        refine x_iconst (v := 1) C dL_law_462 (by decide) ?_
        refine x_iadd C dL_law_463 ?_
        refine x_sld C hX (nI_add (5 * t) 1) (by omega) hL31 dL_law_464 ?_
        refine x_callV C (h5b _ _) kv_X5_setting kl_L_61 dL_law_465 mput_0 rfl rfl rfl rfl (Nat.le_of_ble_eq_true rfl) (Nat.le_of_ble_eq_true rfl) (Nat.le_of_ble_eq_true rfl) (Nat.le_of_ble_eq_true rfl) (Nat.le_of_ble_eq_true rfl) ?_
        refine x_ic_eq C 935 dL_law_468 (by decide) (fun _ => ?_) (fun h => absurd rfl h)
        refine x_iinc C dL_law_935 rfl (nI_add (5 * t) 5) (by decide) rfl ?_
        refine x_goto C 18 dL_law_938 (by decide) ?_
        refine xX.cl (ih (t + 1) VV2 p2 z2 n2 tx2 U2 kp2 ho2 sc2 (by omega) (by omega) W2) rfl (And.intro rfl (And.intro rfl (And.intro rfl (And.intro rfl trivial)))) rfl
      · obtain ⟨VV2, p2, z2, n2, tx2, U2, kp2, ho2, sc2, rv, W2, h4, h5b⟩ := st_weight (l := l) (E := E) (B := B) (M := B + 165) (tx := tx) (kp := kp) W (xs (5 * t + 1)) (xs (5 * t + 2)) (xs (5 * t + 3))
        refine x_tbI C 473 dL_law_32 (by decide) (by decide) rfl (by decide) ?_
        refine x_aload_n C dL_law_473 rfl ?_
        refine x_aload_n C dL_law_474 rfl ?_
        refine x_iload_n C dL_law_475 rfl ?_
        refine x_iconst (v := 1) C dL_law_476 (by decide) ?_
        refine x_iadd C dL_law_477 ?_
        refine x_sld C hX (nI_add (5 * t) 1) (by omega) hL31 dL_law_478 ?_
        refine x_aload_n C dL_law_479 rfl ?_
        refine x_iload_n C dL_law_480 rfl ?_
        refine x_iconst (v := 2) C dL_law_481 (by decide) ?_
        refine x_iadd C dL_law_482 ?_
        refine x_sld C hX (nI_add (5 * t) 2) (by omega) hL31 dL_law_483 ?_
        refine x_aload_n C dL_law_484 rfl ?_
        refine x_iload_n C dL_law_485 rfl ?_
        refine x_iconst (v := 3) C dL_law_486 (by decide) ?_
        refine x_iadd C dL_law_487 ?_
        refine x_sld C hX (nI_add (5 * t) 3) (by omega) hL31 dL_law_488 ?_
        refine x_callV C (h4 _ _) kv_X4_weight kl_L_62 dL_law_489 mc_0 mc_s mc_s.symm rfl rfl (Nat.le_of_ble_eq_true rfl) (Nat.le_of_ble_eq_true rfl) (Nat.le_of_ble_eq_true rfl) (Nat.le_of_ble_eq_true rfl) (Nat.le_of_ble_eq_true rfl) ?_
        refine x_aload_n C dL_law_492 rfl ?_
        refine x_aload_n C dL_law_493 rfl ?_
        refine x_iload_n C dL_law_494 rfl ?_
        refine x_iconst (v := 1) C dL_law_495 (by decide) ?_
        refine x_iadd C dL_law_496 ?_
        refine x_sld C hX (nI_add (5 * t) 1) (by omega) hL31 dL_law_497 ?_
        refine x_aload_n C dL_law_498 rfl ?_
        refine x_iload_n C dL_law_499 rfl ?_
        refine x_iconst (v := 2) C dL_law_500 (by decide) ?_
        refine x_iadd C dL_law_501 ?_
        refine x_sld C hX (nI_add (5 * t) 2) (by omega) hL31 dL_law_502 ?_
        refine x_aload_n C dL_law_503 rfl ?_
        refine x_iload_n C dL_law_504 rfl ?_
        refine x_iconst (v := 3) C dL_law_505 (by decide) ?_
        refine x_iadd C dL_law_506 ?_
        refine x_sld C hX (nI_add (5 * t) 3) (by omega) hL31 dL_law_507 ?_
        refine x_callV C (h5b _ _) kv_X5_weight kl_L_65 dL_law_508 mput_0 rfl rfl rfl rfl (Nat.le_of_ble_eq_true rfl) (Nat.le_of_ble_eq_true rfl) (Nat.le_of_ble_eq_true rfl) (Nat.le_of_ble_eq_true rfl) (Nat.le_of_ble_eq_true rfl) ?_
        refine x_ic_eq C 935 dL_law_511 (by decide) (fun _ => ?_) (fun h => absurd rfl h)
        refine x_iinc C dL_law_935 rfl (nI_add (5 * t) 5) (by decide) rfl ?_
        refine x_goto C 18 dL_law_938 (by decide) ?_
        refine xX.cl (ih (t + 1) VV2 p2 z2 n2 tx2 U2 kp2 ho2 sc2 (by omega) (by omega) W2) rfl (And.intro rfl (And.intro rfl (And.intro rfl (And.intro rfl trivial)))) rfl
      · obtain ⟨VV2, p2, z2, n2, tx2, U2, kp2, ho2, sc2, rv, W2, h4, h5b⟩ := st_speaker (l := l) (E := E) (B := B) (M := B + 165) (tx := tx) (kp := kp) W (xs (5 * t + 1)) (xs (5 * t + 2))
        refine x_tbI C 516 dL_law_32 (by decide) (by decide) rfl (by decide) ?_
        refine x_aload_n C dL_law_516 rfl ?_
        refine x_aload_n C dL_law_517 rfl ?_
        refine x_iload_n C dL_law_518 rfl ?_
        refine x_iconst (v := 1) C dL_law_519 (by decide) ?_
        refine x_iadd C dL_law_520 ?_
        refine x_sld C hX (nI_add (5 * t) 1) (by omega) hL31 dL_law_521 ?_
        refine x_aload_n C dL_law_522 rfl ?_
        refine x_iload_n C dL_law_523 rfl ?_
        refine x_iconst (v := 2) C dL_law_524 (by decide) ?_
        refine x_iadd C dL_law_525 ?_
        refine x_sld C hX (nI_add (5 * t) 2) (by omega) hL31 dL_law_526 ?_
        refine x_callV C (h4 _ _) kv_X4_speaker kl_L_66 dL_law_527 mc_0 mc_s mc_s.symm rfl rfl (Nat.le_of_ble_eq_true rfl) (Nat.le_of_ble_eq_true rfl) (Nat.le_of_ble_eq_true rfl) (Nat.le_of_ble_eq_true rfl) (Nat.le_of_ble_eq_true rfl) ?_
        refine x_aload_n C dL_law_530 rfl ?_
        refine x_aload_n C dL_law_531 rfl ?_
        refine x_iload_n C dL_law_532 rfl ?_
        refine x_iconst (v := 1) C dL_law_533 (by decide) ?_
        refine x_iadd C dL_law_534 ?_
        refine x_sld C hX (nI_add (5 * t) 1) (by omega) hL31 dL_law_535 ?_
        refine x_aload_n C dL_law_536 rfl ?_
        refine x_iload_n C dL_law_537 rfl ?_
        refine x_iconst (v := 2) C dL_law_538 (by decide) ?_
        refine x_iadd C dL_law_539 ?_
        refine x_sld C hX (nI_add (5 * t) 2) (by omega) hL31 dL_law_540 ?_
        refine x_callV C (h5b _ _) kv_X5_speaker kl_L_69 dL_law_541 mput_0 rfl rfl rfl rfl (Nat.le_of_ble_eq_true rfl) (Nat.le_of_ble_eq_true rfl) (Nat.le_of_ble_eq_true rfl) (Nat.le_of_ble_eq_true rfl) (Nat.le_of_ble_eq_true rfl) ?_
        refine x_ic_eq C 935 dL_law_544 (by decide) (fun _ => ?_) (fun h => absurd rfl h)
        refine x_iinc C dL_law_935 rfl (nI_add (5 * t) 5) (by decide) rfl ?_
        refine x_goto C 18 dL_law_938 (by decide) ?_
        refine xX.cl (ih (t + 1) VV2 p2 z2 n2 tx2 U2 kp2 ho2 sc2 (by omega) (by omega) W2) rfl (And.intro rfl (And.intro rfl (And.intro rfl (And.intro rfl trivial)))) rfl
      · obtain ⟨VV2, p2, z2, n2, tx2, U2, kp2, ho2, sc2, rv, W2, h4, h5b⟩ := st_wordOf (l := l) (E := E) (B := B) (M := B + 165) (tx := tx) (kp := kp) W (xs (5 * t + 1)) (xs (5 * t + 2))
        refine x_tbI C 549 dL_law_32 (by decide) (by decide) rfl (by decide) ?_
        refine x_aload_n C dL_law_549 rfl ?_
        refine x_aload_n C dL_law_550 rfl ?_
        refine x_iload_n C dL_law_551 rfl ?_
        refine x_iconst (v := 1) C dL_law_552 (by decide) ?_
        refine x_iadd C dL_law_553 ?_
        refine x_sld C hX (nI_add (5 * t) 1) (by omega) hL31 dL_law_554 ?_
        refine x_aload_n C dL_law_555 rfl ?_
        refine x_iload_n C dL_law_556 rfl ?_
        refine x_iconst (v := 2) C dL_law_557 (by decide) ?_
        refine x_iadd C dL_law_558 ?_
        refine x_sld C hX (nI_add (5 * t) 2) (by omega) hL31 dL_law_559 ?_
        refine x_callV C (h4 _ _) kv_X4_wordOf kl_L_70 dL_law_560 mc_0 mc_s mc_s.symm rfl rfl (Nat.le_of_ble_eq_true rfl) (Nat.le_of_ble_eq_true rfl) (Nat.le_of_ble_eq_true rfl) (Nat.le_of_ble_eq_true rfl) (Nat.le_of_ble_eq_true rfl) ?_
        refine x_aload_n C dL_law_563 rfl ?_
        refine x_aload_n C dL_law_564 rfl ?_
        refine x_iload_n C dL_law_565 rfl ?_
        refine x_iconst (v := 1) C dL_law_566 (by decide) ?_
        refine x_iadd C dL_law_567 ?_
        refine x_sld C hX (nI_add (5 * t) 1) (by omega) hL31 dL_law_568 ?_
        refine x_aload_n C dL_law_569 rfl ?_
        refine x_iload_n C dL_law_570 rfl ?_
        refine x_iconst (v := 2) C dL_law_571 (by decide) ?_
        refine x_iadd C dL_law_572 ?_
        refine x_sld C hX (nI_add (5 * t) 2) (by omega) hL31 dL_law_573 ?_
        refine x_callV C (h5b _ _) kv_X5_wordOf kl_L_73 dL_law_574 mput_0 rfl rfl rfl rfl (Nat.le_of_ble_eq_true rfl) (Nat.le_of_ble_eq_true rfl) (Nat.le_of_ble_eq_true rfl) (Nat.le_of_ble_eq_true rfl) (Nat.le_of_ble_eq_true rfl) ?_
        refine x_ic_eq C 935 dL_law_577 (by decide) (fun _ => ?_) (fun h => absurd rfl h)
        refine x_iinc C dL_law_935 rfl (nI_add (5 * t) 5) (by decide) rfl ?_
        refine x_goto C 18 dL_law_938 (by decide) ?_
        refine xX.cl (ih (t + 1) VV2 p2 z2 n2 tx2 U2 kp2 ho2 sc2 (by omega) (by omega) W2) rfl (And.intro rfl (And.intro rfl (And.intro rfl (And.intro rfl trivial)))) rfl
      · obtain ⟨VV2, p2, z2, n2, tx2, U2, kp2, ho2, sc2, rv, W2, h4, h5b⟩ := st_hears (l := l) (E := E) (B := B) (M := B + 165) (tx := tx) (kp := kp) W (xs (5 * t + 1)) (xs (5 * t + 2))
        refine x_tbI C 582 dL_law_32 (by decide) (by decide) rfl (by decide) ?_
        refine x_aload_n C dL_law_582 rfl ?_
        refine x_aload_n C dL_law_583 rfl ?_
        refine x_iload_n C dL_law_584 rfl ?_
        refine x_iconst (v := 1) C dL_law_585 (by decide) ?_
        refine x_iadd C dL_law_586 ?_
        refine x_sld C hX (nI_add (5 * t) 1) (by omega) hL31 dL_law_587 ?_
        refine x_aload_n C dL_law_588 rfl ?_
        refine x_iload_n C dL_law_589 rfl ?_
        refine x_iconst (v := 2) C dL_law_590 (by decide) ?_
        refine x_iadd C dL_law_591 ?_
        refine x_sld C hX (nI_add (5 * t) 2) (by omega) hL31 dL_law_592 ?_
        refine x_callV C (h4 _ _) kv_X4_hears kl_L_74 dL_law_593 mc_0 mc_s mc_s.symm rfl rfl (Nat.le_of_ble_eq_true rfl) (Nat.le_of_ble_eq_true rfl) (Nat.le_of_ble_eq_true rfl) (Nat.le_of_ble_eq_true rfl) (Nat.le_of_ble_eq_true rfl) ?_
        refine x_aload_n C dL_law_596 rfl ?_
        refine x_aload_n C dL_law_597 rfl ?_
        refine x_iload_n C dL_law_598 rfl ?_
        refine x_iconst (v := 1) C dL_law_599 (by decide) ?_
        refine x_iadd C dL_law_600 ?_
        refine x_sld C hX (nI_add (5 * t) 1) (by omega) hL31 dL_law_601 ?_
        refine x_aload_n C dL_law_602 rfl ?_
        refine x_iload_n C dL_law_603 rfl ?_
        refine x_iconst (v := 2) C dL_law_604 (by decide) ?_
        refine x_iadd C dL_law_605 ?_
        refine x_sld C hX (nI_add (5 * t) 2) (by omega) hL31 dL_law_606 ?_
        refine x_callV C (h5b _ _) kv_X5_hears kl_L_77 dL_law_607 mput_0 rfl rfl rfl rfl (Nat.le_of_ble_eq_true rfl) (Nat.le_of_ble_eq_true rfl) (Nat.le_of_ble_eq_true rfl) (Nat.le_of_ble_eq_true rfl) (Nat.le_of_ble_eq_true rfl) ?_
        refine x_ic_eq C 935 dL_law_610 (by decide) (fun _ => ?_) (fun h => absurd rfl h)
        refine x_iinc C dL_law_935 rfl (nI_add (5 * t) 5) (by decide) rfl ?_
        refine x_goto C 18 dL_law_938 (by decide) ?_
        refine xX.cl (ih (t + 1) VV2 p2 z2 n2 tx2 U2 kp2 ho2 sc2 (by omega) (by omega) W2) rfl (And.intro rfl (And.intro rfl (And.intro rfl (And.intro rfl trivial)))) rfl
      · obtain ⟨VV2, p2, z2, n2, tx2, U2, kp2, ho2, sc2, rv, W2, h4, h5b⟩ := st_gesture (l := l) (E := E) (B := B) (M := B + 165) (tx := tx) (kp := kp) W (xs (5 * t + 1)) (xs (5 * t + 2))
        refine x_tbI C 615 dL_law_32 (by decide) (by decide) rfl (by decide) ?_
        refine x_aload_n C dL_law_615 rfl ?_
        refine x_aload_n C dL_law_616 rfl ?_
        refine x_iload_n C dL_law_617 rfl ?_
        refine x_iconst (v := 1) C dL_law_618 (by decide) ?_
        refine x_iadd C dL_law_619 ?_
        refine x_sld C hX (nI_add (5 * t) 1) (by omega) hL31 dL_law_620 ?_
        refine x_aload_n C dL_law_621 rfl ?_
        refine x_iload_n C dL_law_622 rfl ?_
        refine x_iconst (v := 2) C dL_law_623 (by decide) ?_
        refine x_iadd C dL_law_624 ?_
        refine x_sld C hX (nI_add (5 * t) 2) (by omega) hL31 dL_law_625 ?_
        refine x_callV C (h4 _ _) kv_X4_gesture kl_L_78 dL_law_626 mc_0 mc_s mc_s.symm rfl rfl (Nat.le_of_ble_eq_true rfl) (Nat.le_of_ble_eq_true rfl) (Nat.le_of_ble_eq_true rfl) (Nat.le_of_ble_eq_true rfl) (Nat.le_of_ble_eq_true rfl) ?_
        refine x_aload_n C dL_law_629 rfl ?_
        refine x_aload_n C dL_law_630 rfl ?_
        refine x_iload_n C dL_law_631 rfl ?_
        refine x_iconst (v := 1) C dL_law_632 (by decide) ?_
        refine x_iadd C dL_law_633 ?_
        refine x_sld C hX (nI_add (5 * t) 1) (by omega) hL31 dL_law_634 ?_
        refine x_aload_n C dL_law_635 rfl ?_
        refine x_iload_n C dL_law_636 rfl ?_
        refine x_iconst (v := 2) C dL_law_637 (by decide) ?_
        refine x_iadd C dL_law_638 ?_
        refine x_sld C hX (nI_add (5 * t) 2) (by omega) hL31 dL_law_639 ?_
        refine x_callV C (h5b _ _) kv_X5_gesture kl_L_81 dL_law_640 mput_0 rfl rfl rfl rfl (Nat.le_of_ble_eq_true rfl) (Nat.le_of_ble_eq_true rfl) (Nat.le_of_ble_eq_true rfl) (Nat.le_of_ble_eq_true rfl) (Nat.le_of_ble_eq_true rfl) ?_
        refine x_ic_eq C 935 dL_law_643 (by decide) (fun _ => ?_) (fun h => absurd rfl h)
        refine x_iinc C dL_law_935 rfl (nI_add (5 * t) 5) (by decide) rfl ?_
        refine x_goto C 18 dL_law_938 (by decide) ?_
        refine xX.cl (ih (t + 1) VV2 p2 z2 n2 tx2 U2 kp2 ho2 sc2 (by omega) (by omega) W2) rfl (And.intro rfl (And.intro rfl (And.intro rfl (And.intro rfl trivial)))) rfl
      · obtain ⟨VV2, p2, z2, n2, tx2, U2, kp2, ho2, sc2, rv, W2, h4, h5b⟩ := st_agreement (l := l) (E := E) (B := B) (M := B + 165) (tx := tx) (kp := kp) W (xs (5 * t + 1)) (xs (5 * t + 2)) (xs (5 * t + 3))
        refine x_tbI C 648 dL_law_32 (by decide) (by decide) rfl (by decide) ?_
        refine x_aload_n C dL_law_648 rfl ?_
        refine x_aload_n C dL_law_649 rfl ?_
        refine x_iload_n C dL_law_650 rfl ?_
        refine x_iconst (v := 1) C dL_law_651 (by decide) ?_
        refine x_iadd C dL_law_652 ?_
        refine x_sld C hX (nI_add (5 * t) 1) (by omega) hL31 dL_law_653 ?_
        refine x_aload_n C dL_law_654 rfl ?_
        refine x_iload_n C dL_law_655 rfl ?_
        refine x_iconst (v := 2) C dL_law_656 (by decide) ?_
        refine x_iadd C dL_law_657 ?_
        refine x_sld C hX (nI_add (5 * t) 2) (by omega) hL31 dL_law_658 ?_
        refine x_aload_n C dL_law_659 rfl ?_
        refine x_iload_n C dL_law_660 rfl ?_
        refine x_iconst (v := 3) C dL_law_661 (by decide) ?_
        refine x_iadd C dL_law_662 ?_
        refine x_sld C hX (nI_add (5 * t) 3) (by omega) hL31 dL_law_663 ?_
        refine x_callV C (h4 _ _) kv_X4_agreement kl_L_82 dL_law_664 mc_0 mc_s mc_s.symm rfl rfl (Nat.le_of_ble_eq_true rfl) (Nat.le_of_ble_eq_true rfl) (Nat.le_of_ble_eq_true rfl) (Nat.le_of_ble_eq_true rfl) (Nat.le_of_ble_eq_true rfl) ?_
        refine x_aload_n C dL_law_667 rfl ?_
        refine x_aload_n C dL_law_668 rfl ?_
        refine x_iload_n C dL_law_669 rfl ?_
        refine x_iconst (v := 1) C dL_law_670 (by decide) ?_
        refine x_iadd C dL_law_671 ?_
        refine x_sld C hX (nI_add (5 * t) 1) (by omega) hL31 dL_law_672 ?_
        refine x_aload_n C dL_law_673 rfl ?_
        refine x_iload_n C dL_law_674 rfl ?_
        refine x_iconst (v := 2) C dL_law_675 (by decide) ?_
        refine x_iadd C dL_law_676 ?_
        refine x_sld C hX (nI_add (5 * t) 2) (by omega) hL31 dL_law_677 ?_
        refine x_aload_n C dL_law_678 rfl ?_
        refine x_iload_n C dL_law_679 rfl ?_
        refine x_iconst (v := 3) C dL_law_680 (by decide) ?_
        refine x_iadd C dL_law_681 ?_
        refine x_sld C hX (nI_add (5 * t) 3) (by omega) hL31 dL_law_682 ?_
        refine x_callV C (h5b _ _) kv_X5_agreement kl_L_85 dL_law_683 mput_0 rfl rfl rfl rfl (Nat.le_of_ble_eq_true rfl) (Nat.le_of_ble_eq_true rfl) (Nat.le_of_ble_eq_true rfl) (Nat.le_of_ble_eq_true rfl) (Nat.le_of_ble_eq_true rfl) ?_
        refine x_ic_eq C 935 dL_law_686 (by decide) (fun _ => ?_) (fun h => absurd rfl h)
        refine x_iinc C dL_law_935 rfl (nI_add (5 * t) 5) (by decide) rfl ?_
        refine x_goto C 18 dL_law_938 (by decide) ?_
        refine xX.cl (ih (t + 1) VV2 p2 z2 n2 tx2 U2 kp2 ho2 sc2 (by omega) (by omega) W2) rfl (And.intro rfl (And.intro rfl (And.intro rfl (And.intro rfl trivial)))) rfl
      · obtain ⟨VV2, p2, z2, n2, tx2, U2, kp2, ho2, sc2, rv, W2, h4, h5b⟩ := st_understanding (l := l) (E := E) (B := B) (M := B + 165) (tx := tx) (kp := kp) W (xs (5 * t + 1)) (xs (5 * t + 2))
        refine x_tbI C 691 dL_law_32 (by decide) (by decide) rfl (by decide) ?_
        refine x_aload_n C dL_law_691 rfl ?_
        refine x_aload_n C dL_law_692 rfl ?_
        refine x_iload_n C dL_law_693 rfl ?_
        refine x_iconst (v := 1) C dL_law_694 (by decide) ?_
        refine x_iadd C dL_law_695 ?_
        refine x_sld C hX (nI_add (5 * t) 1) (by omega) hL31 dL_law_696 ?_
        refine x_aload_n C dL_law_697 rfl ?_
        refine x_iload_n C dL_law_698 rfl ?_
        refine x_iconst (v := 2) C dL_law_699 (by decide) ?_
        refine x_iadd C dL_law_700 ?_
        refine x_sld C hX (nI_add (5 * t) 2) (by omega) hL31 dL_law_701 ?_
        refine x_callV C (h4 _ _) kv_X4_understanding kl_L_86 dL_law_702 mc_0 mc_s mc_s.symm rfl rfl (Nat.le_of_ble_eq_true rfl) (Nat.le_of_ble_eq_true rfl) (Nat.le_of_ble_eq_true rfl) (Nat.le_of_ble_eq_true rfl) (Nat.le_of_ble_eq_true rfl) ?_
        refine x_aload_n C dL_law_705 rfl ?_
        refine x_aload_n C dL_law_706 rfl ?_
        refine x_iload_n C dL_law_707 rfl ?_
        refine x_iconst (v := 1) C dL_law_708 (by decide) ?_
        refine x_iadd C dL_law_709 ?_
        refine x_sld C hX (nI_add (5 * t) 1) (by omega) hL31 dL_law_710 ?_
        refine x_aload_n C dL_law_711 rfl ?_
        refine x_iload_n C dL_law_712 rfl ?_
        refine x_iconst (v := 2) C dL_law_713 (by decide) ?_
        refine x_iadd C dL_law_714 ?_
        refine x_sld C hX (nI_add (5 * t) 2) (by omega) hL31 dL_law_715 ?_
        refine x_callV C (h5b _ _) kv_X5_understanding kl_L_89 dL_law_716 mput_0 rfl rfl rfl rfl (Nat.le_of_ble_eq_true rfl) (Nat.le_of_ble_eq_true rfl) (Nat.le_of_ble_eq_true rfl) (Nat.le_of_ble_eq_true rfl) (Nat.le_of_ble_eq_true rfl) ?_
        refine x_ic_eq C 935 dL_law_719 (by decide) (fun _ => ?_) (fun h => absurd rfl h)
        refine x_iinc C dL_law_935 rfl (nI_add (5 * t) 5) (by decide) rfl ?_
        refine x_goto C 18 dL_law_938 (by decide) ?_
        refine xX.cl (ih (t + 1) VV2 p2 z2 n2 tx2 U2 kp2 ho2 sc2 (by omega) (by omega) W2) rfl (And.intro rfl (And.intro rfl (And.intro rfl (And.intro rfl trivial)))) rfl
      · obtain ⟨VV2, p2, z2, n2, tx2, U2, kp2, ho2, sc2, rv, W2, h4, h5b⟩ := st_common (l := l) (E := E) (B := B) (M := B + 165) (tx := tx) (kp := kp) W (xs (5 * t + 1))
        refine x_tbI C 724 dL_law_32 (by decide) (by decide) rfl (by decide) ?_
        refine x_aload_n C dL_law_724 rfl ?_
        refine x_aload_n C dL_law_725 rfl ?_
        refine x_iload_n C dL_law_726 rfl ?_
        refine x_iconst (v := 1) C dL_law_727 (by decide) ?_
        refine x_iadd C dL_law_728 ?_
        refine x_sld C hX (nI_add (5 * t) 1) (by omega) hL31 dL_law_729 ?_
        refine x_callV C (h4 _ _) kv_X4_common kl_L_90 dL_law_730 mc_0 mc_s mc_s.symm rfl rfl (Nat.le_of_ble_eq_true rfl) (Nat.le_of_ble_eq_true rfl) (Nat.le_of_ble_eq_true rfl) (Nat.le_of_ble_eq_true rfl) (Nat.le_of_ble_eq_true rfl) ?_
        refine x_aload_n C dL_law_733 rfl ?_
        refine x_aload_n C dL_law_734 rfl ?_
        refine x_iload_n C dL_law_735 rfl ?_
        refine x_iconst (v := 1) C dL_law_736 (by decide) ?_
        refine x_iadd C dL_law_737 ?_
        refine x_sld C hX (nI_add (5 * t) 1) (by omega) hL31 dL_law_738 ?_
        refine x_callV C (h5b _ _) kv_X5_common kl_L_93 dL_law_739 mput_0 rfl rfl rfl rfl (Nat.le_of_ble_eq_true rfl) (Nat.le_of_ble_eq_true rfl) (Nat.le_of_ble_eq_true rfl) (Nat.le_of_ble_eq_true rfl) (Nat.le_of_ble_eq_true rfl) ?_
        refine x_ic_eq C 935 dL_law_742 (by decide) (fun _ => ?_) (fun h => absurd rfl h)
        refine x_iinc C dL_law_935 rfl (nI_add (5 * t) 5) (by decide) rfl ?_
        refine x_goto C 18 dL_law_938 (by decide) ?_
        refine xX.cl (ih (t + 1) VV2 p2 z2 n2 tx2 U2 kp2 ho2 sc2 (by omega) (by omega) W2) rfl (And.intro rfl (And.intro rfl (And.intro rfl (And.intro rfl trivial)))) rfl
      · obtain ⟨VV2, p2, z2, n2, tx2, U2, kp2, ho2, sc2, rv, W2, h4, h5b⟩ := st_ifMet (l := l) (E := E) (B := B) (M := B + 165) (tx := tx) (kp := kp) W (xs (5 * t + 1)) (xs (5 * t + 2)) (xs (5 * t + 3)) (xs (5 * t + 4))
        refine x_tbI C 747 dL_law_32 (by decide) (by decide) rfl (by decide) ?_
        refine x_aload_n C dL_law_747 rfl ?_
        refine x_aload_n C dL_law_748 rfl ?_
        refine x_iload_n C dL_law_749 rfl ?_
        refine x_iconst (v := 1) C dL_law_750 (by decide) ?_
        refine x_iadd C dL_law_751 ?_
        refine x_sld C hX (nI_add (5 * t) 1) (by omega) hL31 dL_law_752 ?_
        refine x_aload_n C dL_law_753 rfl ?_
        refine x_iload_n C dL_law_754 rfl ?_
        refine x_iconst (v := 2) C dL_law_755 (by decide) ?_
        refine x_iadd C dL_law_756 ?_
        refine x_sld C hX (nI_add (5 * t) 2) (by omega) hL31 dL_law_757 ?_
        refine x_aload_n C dL_law_758 rfl ?_
        refine x_iload_n C dL_law_759 rfl ?_
        refine x_iconst (v := 3) C dL_law_760 (by decide) ?_
        refine x_iadd C dL_law_761 ?_
        refine x_sld C hX (nI_add (5 * t) 3) (by omega) hL31 dL_law_762 ?_
        refine x_aload_n C dL_law_763 rfl ?_
        refine x_iload_n C dL_law_764 rfl ?_
        refine x_iconst (v := 4) C dL_law_765 (by decide) ?_
        refine x_iadd C dL_law_766 ?_
        refine x_sld C hX (nI_add (5 * t) 4) (by omega) hL31 dL_law_767 ?_
        refine x_callV C (h4 _ _) kv_X4_ifMet kl_L_94 dL_law_768 mc_0 mc_s mc_s.symm rfl rfl (Nat.le_of_ble_eq_true rfl) (Nat.le_of_ble_eq_true rfl) (Nat.le_of_ble_eq_true rfl) (Nat.le_of_ble_eq_true rfl) (Nat.le_of_ble_eq_true rfl) ?_
        refine x_aload_n C dL_law_771 rfl ?_
        refine x_aload_n C dL_law_772 rfl ?_
        refine x_iload_n C dL_law_773 rfl ?_
        refine x_iconst (v := 1) C dL_law_774 (by decide) ?_
        refine x_iadd C dL_law_775 ?_
        refine x_sld C hX (nI_add (5 * t) 1) (by omega) hL31 dL_law_776 ?_
        refine x_aload_n C dL_law_777 rfl ?_
        refine x_iload_n C dL_law_778 rfl ?_
        refine x_iconst (v := 2) C dL_law_779 (by decide) ?_
        refine x_iadd C dL_law_780 ?_
        refine x_sld C hX (nI_add (5 * t) 2) (by omega) hL31 dL_law_781 ?_
        refine x_aload_n C dL_law_782 rfl ?_
        refine x_iload_n C dL_law_783 rfl ?_
        refine x_iconst (v := 3) C dL_law_784 (by decide) ?_
        refine x_iadd C dL_law_785 ?_
        refine x_sld C hX (nI_add (5 * t) 3) (by omega) hL31 dL_law_786 ?_
        refine x_aload_n C dL_law_787 rfl ?_
        refine x_iload_n C dL_law_788 rfl ?_
        refine x_iconst (v := 4) C dL_law_789 (by decide) ?_
        refine x_iadd C dL_law_790 ?_
        refine x_sld C hX (nI_add (5 * t) 4) (by omega) hL31 dL_law_791 ?_
        refine x_callV C (h5b _ _) kv_X5_ifMet kl_L_97 dL_law_792 mput_0 rfl rfl rfl rfl (Nat.le_of_ble_eq_true rfl) (Nat.le_of_ble_eq_true rfl) (Nat.le_of_ble_eq_true rfl) (Nat.le_of_ble_eq_true rfl) (Nat.le_of_ble_eq_true rfl) ?_
        refine x_ic_eq C 935 dL_law_795 (by decide) (fun _ => ?_) (fun h => absurd rfl h)
        refine x_iinc C dL_law_935 rfl (nI_add (5 * t) 5) (by decide) rfl ?_
        refine x_goto C 18 dL_law_938 (by decide) ?_
        refine xX.cl (ih (t + 1) VV2 p2 z2 n2 tx2 U2 kp2 ho2 sc2 (by omega) (by omega) W2) rfl (And.intro rfl (And.intro rfl (And.intro rfl (And.intro rfl trivial)))) rfl
      · obtain ⟨VV2, p2, z2, n2, tx2, U2, kp2, ho2, sc2, rv, W2, h4, h5b⟩ := st_ifChat (l := l) (E := E) (B := B) (M := B + 165) (tx := tx) (kp := kp) W (xs (5 * t + 1))
        refine x_tbI C 800 dL_law_32 (by decide) (by decide) rfl (by decide) ?_
        refine x_aload_n C dL_law_800 rfl ?_
        refine x_aload_n C dL_law_801 rfl ?_
        refine x_iload_n C dL_law_802 rfl ?_
        refine x_iconst (v := 1) C dL_law_803 (by decide) ?_
        refine x_iadd C dL_law_804 ?_
        refine x_sld C hX (nI_add (5 * t) 1) (by omega) hL31 dL_law_805 ?_
        refine x_callV C (h4 _ _) kv_X4_ifChat kl_L_98 dL_law_806 mc_0 mc_s mc_s.symm rfl rfl (Nat.le_of_ble_eq_true rfl) (Nat.le_of_ble_eq_true rfl) (Nat.le_of_ble_eq_true rfl) (Nat.le_of_ble_eq_true rfl) (Nat.le_of_ble_eq_true rfl) ?_
        refine x_aload_n C dL_law_809 rfl ?_
        refine x_aload_n C dL_law_810 rfl ?_
        refine x_iload_n C dL_law_811 rfl ?_
        refine x_iconst (v := 1) C dL_law_812 (by decide) ?_
        refine x_iadd C dL_law_813 ?_
        refine x_sld C hX (nI_add (5 * t) 1) (by omega) hL31 dL_law_814 ?_
        refine x_callV C (h5b _ _) kv_X5_ifChat kl_L_101 dL_law_815 mput_0 rfl rfl rfl rfl (Nat.le_of_ble_eq_true rfl) (Nat.le_of_ble_eq_true rfl) (Nat.le_of_ble_eq_true rfl) (Nat.le_of_ble_eq_true rfl) (Nat.le_of_ble_eq_true rfl) ?_
        refine x_ic_eq C 935 dL_law_818 (by decide) (fun _ => ?_) (fun h => absurd rfl h)
        refine x_iinc C dL_law_935 rfl (nI_add (5 * t) 5) (by decide) rfl ?_
        refine x_goto C 18 dL_law_938 (by decide) ?_
        refine xX.cl (ih (t + 1) VV2 p2 z2 n2 tx2 U2 kp2 ho2 sc2 (by omega) (by omega) W2) rfl (And.intro rfl (And.intro rfl (And.intro rfl (And.intro rfl trivial)))) rfl
      · obtain ⟨VV2, p2, z2, n2, tx2, U2, kp2, ho2, sc2, rv, W2, h4, h5b⟩ := st_bestSayer (l := l) (E := E) (B := B) (M := B + 165) (tx := tx) (kp := kp) W (xs (5 * t + 1))
        refine x_tbI C 823 dL_law_32 (by decide) (by decide) rfl (by decide) ?_
        refine x_aload_n C dL_law_823 rfl ?_
        refine x_aload_n C dL_law_824 rfl ?_
        refine x_iload_n C dL_law_825 rfl ?_
        refine x_iconst (v := 1) C dL_law_826 (by decide) ?_
        refine x_iadd C dL_law_827 ?_
        refine x_sld C hX (nI_add (5 * t) 1) (by omega) hL31 dL_law_828 ?_
        refine x_callV C (h4 _ _) kv_X4_bestSayer kl_L_102 dL_law_829 mc_0 mc_s mc_s.symm rfl rfl (Nat.le_of_ble_eq_true rfl) (Nat.le_of_ble_eq_true rfl) (Nat.le_of_ble_eq_true rfl) (Nat.le_of_ble_eq_true rfl) (Nat.le_of_ble_eq_true rfl) ?_
        refine x_aload_n C dL_law_832 rfl ?_
        refine x_aload_n C dL_law_833 rfl ?_
        refine x_iload_n C dL_law_834 rfl ?_
        refine x_iconst (v := 1) C dL_law_835 (by decide) ?_
        refine x_iadd C dL_law_836 ?_
        refine x_sld C hX (nI_add (5 * t) 1) (by omega) hL31 dL_law_837 ?_
        refine x_callV C (h5b _ _) kv_X5_bestSayer kl_L_105 dL_law_838 mput_0 rfl rfl rfl rfl (Nat.le_of_ble_eq_true rfl) (Nat.le_of_ble_eq_true rfl) (Nat.le_of_ble_eq_true rfl) (Nat.le_of_ble_eq_true rfl) (Nat.le_of_ble_eq_true rfl) ?_
        refine x_ic_eq C 935 dL_law_841 (by decide) (fun _ => ?_) (fun h => absurd rfl h)
        refine x_iinc C dL_law_935 rfl (nI_add (5 * t) 5) (by decide) rfl ?_
        refine x_goto C 18 dL_law_938 (by decide) ?_
        refine xX.cl (ih (t + 1) VV2 p2 z2 n2 tx2 U2 kp2 ho2 sc2 (by omega) (by omega) W2) rfl (And.intro rfl (And.intro rfl (And.intro rfl (And.intro rfl trivial)))) rfl
      · obtain ⟨VV2, p2, z2, n2, tx2, U2, kp2, ho2, sc2, rv, W2, h4, h5b⟩ := st_type (l := l) (E := E) (B := B) (M := B + 165) (tx := tx) (kp := kp) W (xs (5 * t + 1))
        refine x_tbI C 846 dL_law_32 (by decide) (by decide) rfl (by decide) ?_
        refine x_aload_n C dL_law_846 rfl ?_
        refine x_aload_n C dL_law_847 rfl ?_
        refine x_iload_n C dL_law_848 rfl ?_
        refine x_iconst (v := 1) C dL_law_849 (by decide) ?_
        refine x_iadd C dL_law_850 ?_
        refine x_sld C hX (nI_add (5 * t) 1) (by omega) hL31 dL_law_851 ?_
        refine x_callV C (h4 _ _) kv_X4_type kl_L_106 dL_law_852 mc_0 mc_s mc_s.symm rfl rfl (Nat.le_of_ble_eq_true rfl) (Nat.le_of_ble_eq_true rfl) (Nat.le_of_ble_eq_true rfl) (Nat.le_of_ble_eq_true rfl) (Nat.le_of_ble_eq_true rfl) ?_
        refine x_aload_n C dL_law_855 rfl ?_
        refine x_aload_n C dL_law_856 rfl ?_
        refine x_iload_n C dL_law_857 rfl ?_
        refine x_iconst (v := 1) C dL_law_858 (by decide) ?_
        refine x_iadd C dL_law_859 ?_
        refine x_sld C hX (nI_add (5 * t) 1) (by omega) hL31 dL_law_860 ?_
        refine x_callV C (h5b _ _) kv_X5_type kl_L_109 dL_law_861 mput_0 rfl rfl rfl rfl (Nat.le_of_ble_eq_true rfl) (Nat.le_of_ble_eq_true rfl) (Nat.le_of_ble_eq_true rfl) (Nat.le_of_ble_eq_true rfl) (Nat.le_of_ble_eq_true rfl) ?_
        refine x_ic_eq C 935 dL_law_864 (by decide) (fun _ => ?_) (fun h => absurd rfl h)
        refine x_iinc C dL_law_935 rfl (nI_add (5 * t) 5) (by decide) rfl ?_
        refine x_goto C 18 dL_law_938 (by decide) ?_
        refine xX.cl (ih (t + 1) VV2 p2 z2 n2 tx2 U2 kp2 ho2 sc2 (by omega) (by omega) W2) rfl (And.intro rfl (And.intro rfl (And.intro rfl (And.intro rfl trivial)))) rfl
      · obtain ⟨VV2, p2, z2, n2, tx2, U2, kp2, ho2, sc2, rv, W2, h4, h5b⟩ := st_clearText (l := l) (E := E) (B := B) (M := B + 165) (tx := tx) (kp := kp) W 
        refine x_tbI C 869 dL_law_32 (by decide) (by decide) rfl (by decide) ?_
        refine x_aload_n C dL_law_869 rfl ?_
        refine x_callV C (h4 _ _) kv_X4_clearText kl_L_110 dL_law_870 mc_0 mc_s mc_s.symm rfl rfl (Nat.le_of_ble_eq_true rfl) (Nat.le_of_ble_eq_true rfl) (Nat.le_of_ble_eq_true rfl) (Nat.le_of_ble_eq_true rfl) (Nat.le_of_ble_eq_true rfl) ?_
        refine x_aload_n C dL_law_873 rfl ?_
        refine x_callV C (h5b _ _) kv_X5_clearText kl_L_113 dL_law_874 mput_0 rfl rfl rfl rfl (Nat.le_of_ble_eq_true rfl) (Nat.le_of_ble_eq_true rfl) (Nat.le_of_ble_eq_true rfl) (Nat.le_of_ble_eq_true rfl) (Nat.le_of_ble_eq_true rfl) ?_
        refine x_ic_eq C 935 dL_law_877 (by decide) (fun _ => ?_) (fun h => absurd rfl h)
        refine x_iinc C dL_law_935 rfl (nI_add (5 * t) 5) (by decide) rfl ?_
        refine x_goto C 18 dL_law_938 (by decide) ?_
        refine xX.cl (ih (t + 1) VV2 p2 z2 n2 tx2 U2 kp2 ho2 sc2 (by omega) (by omega) W2) rfl (And.intro rfl (And.intro rfl (And.intro rfl (And.intro rfl trivial)))) rfl
      · obtain ⟨VV2, p2, z2, n2, tx2, U2, kp2, ho2, sc2, rv, W2, h4, h5b⟩ := st_syntaxError (l := l) (E := E) (B := B) (M := B + 165) (tx := tx) (kp := kp) W 
        refine x_tbI C 882 dL_law_32 (by decide) (by decide) rfl (by decide) ?_
        refine x_aload_n C dL_law_882 rfl ?_
        refine x_callV C (h4 _ _) kv_X4_syntaxError kl_L_114 dL_law_883 mc_0 mc_s mc_s.symm rfl rfl (Nat.le_of_ble_eq_true rfl) (Nat.le_of_ble_eq_true rfl) (Nat.le_of_ble_eq_true rfl) (Nat.le_of_ble_eq_true rfl) (Nat.le_of_ble_eq_true rfl) ?_
        refine x_aload_n C dL_law_886 rfl ?_
        refine x_callV C (h5b _ _) kv_X5_syntaxError kl_L_117 dL_law_887 mput_0 rfl rfl rfl rfl (Nat.le_of_ble_eq_true rfl) (Nat.le_of_ble_eq_true rfl) (Nat.le_of_ble_eq_true rfl) (Nat.le_of_ble_eq_true rfl) (Nat.le_of_ble_eq_true rfl) ?_
        refine x_ic_eq C 935 dL_law_890 (by decide) (fun _ => ?_) (fun h => absurd rfl h)
        refine x_iinc C dL_law_935 rfl (nI_add (5 * t) 5) (by decide) rfl ?_
        refine x_goto C 18 dL_law_938 (by decide) ?_
        refine xX.cl (ih (t + 1) VV2 p2 z2 n2 tx2 U2 kp2 ho2 sc2 (by omega) (by omega) W2) rfl (And.intro rfl (And.intro rfl (And.intro rfl (And.intro rfl trivial)))) rfl
      · obtain ⟨VV2, p2, z2, n2, tx2, U2, kp2, ho2, sc2, rv, W2, h4, h5b⟩ := st_learn (l := l) (E := E) (B := B) (M := B + 165) (tx := tx) (kp := kp) W 
        refine x_tbI C 895 dL_law_32 (by decide) (by decide) rfl (by decide) ?_
        refine x_aload_n C dL_law_895 rfl ?_
        refine x_callV C (h4 _ _) kv_X4_learn kl_L_118 dL_law_896 mc_0 mc_s mc_s.symm rfl rfl (Nat.le_of_ble_eq_true rfl) (Nat.le_of_ble_eq_true rfl) (Nat.le_of_ble_eq_true rfl) (Nat.le_of_ble_eq_true rfl) (Nat.le_of_ble_eq_true rfl) ?_
        refine x_aload_n C dL_law_899 rfl ?_
        refine x_callV C (h5b _ _) kv_X5_learn kl_L_121 dL_law_900 mput_0 rfl rfl rfl rfl (Nat.le_of_ble_eq_true rfl) (Nat.le_of_ble_eq_true rfl) (Nat.le_of_ble_eq_true rfl) (Nat.le_of_ble_eq_true rfl) (Nat.le_of_ble_eq_true rfl) ?_
        refine x_ic_eq C 935 dL_law_903 (by decide) (fun _ => ?_) (fun h => absurd rfl h)
        refine x_iinc C dL_law_935 rfl (nI_add (5 * t) 5) (by decide) rfl ?_
        refine x_goto C 18 dL_law_938 (by decide) ?_
        refine xX.cl (ih (t + 1) VV2 p2 z2 n2 tx2 U2 kp2 ho2 sc2 (by omega) (by omega) W2) rfl (And.intro rfl (And.intro rfl (And.intro rfl (And.intro rfl trivial)))) rfl
      · obtain ⟨VV2, p2, z2, n2, tx2, U2, kp2, ho2, sc2, rv, W2, h4, h5b⟩ := st_undo (l := l) (E := E) (B := B) (M := B + 165) (tx := tx) (kp := kp) W 
        refine x_tbI C 908 dL_law_32 (by decide) (by decide) rfl (by decide) ?_
        refine x_aload_n C dL_law_908 rfl ?_
        refine x_callV C (h4 _ _) kv_X4_undo kl_L_122 dL_law_909 mc_0 mc_s mc_s.symm rfl rfl (Nat.le_of_ble_eq_true rfl) (Nat.le_of_ble_eq_true rfl) (Nat.le_of_ble_eq_true rfl) (Nat.le_of_ble_eq_true rfl) (Nat.le_of_ble_eq_true rfl) ?_
        refine x_aload_n C dL_law_912 rfl ?_
        refine x_callV C (h5b _ _) kv_X5_undo kl_L_125 dL_law_913 mput_0 rfl rfl rfl rfl (Nat.le_of_ble_eq_true rfl) (Nat.le_of_ble_eq_true rfl) (Nat.le_of_ble_eq_true rfl) (Nat.le_of_ble_eq_true rfl) (Nat.le_of_ble_eq_true rfl) ?_
        refine x_ic_eq C 935 dL_law_916 (by decide) (fun _ => ?_) (fun h => absurd rfl h)
        refine x_iinc C dL_law_935 rfl (nI_add (5 * t) 5) (by decide) rfl ?_
        refine x_goto C 18 dL_law_938 (by decide) ?_
        refine xX.cl (ih (t + 1) VV2 p2 z2 n2 tx2 U2 kp2 ho2 sc2 (by omega) (by omega) W2) rfl (And.intro rfl (And.intro rfl (And.intro rfl (And.intro rfl trivial)))) rfl
      · obtain ⟨VV2, p2, z2, n2, tx2, U2, kp2, ho2, sc2, rv, W2, h4, h5b⟩ := st_digest (l := l) (E := E) (B := B) (M := B + 165) (tx := tx) (kp := kp) W 
        refine x_tbI C 921 dL_law_32 (by decide) (by decide) rfl (by decide) ?_
        refine x_aload_n C dL_law_921 rfl ?_
        refine x_callV C (h4 _ _) kv_X4_digest kl_L_126 dL_law_922 mc_0 mc_s mc_s.symm rfl rfl (Nat.le_of_ble_eq_true rfl) (Nat.le_of_ble_eq_true rfl) (Nat.le_of_ble_eq_true rfl) (Nat.le_of_ble_eq_true rfl) (Nat.le_of_ble_eq_true rfl) ?_
        refine x_aload_n C dL_law_925 rfl ?_
        refine x_callV C (h5b _ _) kv_X5_digest kl_L_130 dL_law_926 mput_0 rfl rfl rfl rfl (Nat.le_of_ble_eq_true rfl) (Nat.le_of_ble_eq_true rfl) (Nat.le_of_ble_eq_true rfl) (Nat.le_of_ble_eq_true rfl) (Nat.le_of_ble_eq_true rfl) ?_
        refine x_lcmp C dL_law_929 ?_
        refine x_if_eq C 935 dL_law_930 (by decide) (fun _ => ?_) (fun h => absurd (lg_self _) h)
        refine x_iinc C dL_law_935 rfl (nI_add (5 * t) 5) (by decide) rfl ?_
        refine x_goto C 18 dL_law_938 (by decide) ?_
        refine xX.cl (ih (t + 1) VV2 p2 z2 n2 tx2 U2 kp2 ho2 sc2 (by omega) (by omega) W2) rfl (And.intro rfl (And.intro rfl (And.intro rfl (And.intro rfl trivial)))) rfl
      · have hj3 : 28 ≤ j ∧ j < 32 := ⟨hj2, hj⟩
        refine x_tbO C 935 dL_law_32 (Or.inr (by rw [nI_toInt (by omega)]; omega)) (by decide) ?_
        refine x_iinc C dL_law_935 rfl (nI_add (5 * t) 5) (by decide) rfl ?_
        refine x_goto C 18 dL_law_938 (by decide) ?_
        refine xX.cl (ih (t + 1) VV p z n tx U kp ho sc (by omega) (by omega) W) rfl (And.intro rfl (And.intro rfl (And.intro rfl (And.intro rfl trivial)))) rfl
    · refine x_iload_n C dL_law_18 rfl ?_
      refine x_aload_n C dL_law_19 rfl ?_
      refine x_slen C hX dL_law_20 ?_
      refine x_iconst (v := 5) C dL_law_21 (by decide) ?_
      refine x_isub C dL_law_22 ?_
      refine x_ic_gt C 941 dL_law_23 (by decide) (fun _ => ?_) (fun h => absurd (sb_lt (by omega) hL (by omega)) h)
      refine x_iconst (v := 1) C dL_law_941 (by decide) ?_
      exact hE _ _ _ _ _ (by decide) (by decide)
set_option maxRecDepth 100000 in
set_option maxHeartbeats 4000000 in
theorem law_run {k0 : xT} {l : Launch} {E : xEnv} {B bb L : Nat} {xs : Nat → Int32} {mn : String} (C : xC k0 l E B cL_law 4 ret RL mn 9 338 600000 7302250) (hX : xScr k0 bb L xs) (hL : L ≤ 2560) (hE : xEnd k0) : xX k0 B 0 0 (fun _ => none) 0 [some (.ref bb), none, none, none] [] := by
  refine x_new (ci := 4) (q := (RX4, TX4, 4)) (fs := bl_X4) C rfl kc_X4 tyX4 tyX4_ok kcl_L_7 kn_X4 ki_X4 bl_X4_ok (Nat.le_of_ble_eq_true rfl) (Nat.le_of_ble_eq_true rfl) rfl dL_law_0 ?_
  refine x_dup C dL_law_3 rfl ?_
  refine x_callI C (c_X4_init (σ := fun _ => none)) kj_X4_init kl_L_9 dL_law_4 rfl rfl rfl rfl (Nat.le_of_ble_eq_true rfl) (Nat.le_of_ble_eq_true rfl) (Nat.le_of_ble_eq_true rfl) (Nat.le_of_ble_eq_true rfl) (Nat.le_of_ble_eq_true rfl) ?_
  refine x_astore_n C dL_law_7 (by decide) rfl ?_
  refine x_new (ci := 5) (q := (RX5, TX5, 13)) (fs := bl_X5) C rfl kc_X5 tyX5 tyX5_ok kcl_L_10 kn_X5 ki_X5 bl_X5_ok (Nat.le_of_ble_eq_true rfl) (Nat.le_of_ble_eq_true rfl) rfl dL_law_8 ?_
  refine x_dup C dL_law_11 rfl ?_
  refine x_callI C (c_X5_init (M := B + 165)) kj_X5_init kl_L_12 dL_law_12 rfl rfl rfl rfl (Nat.le_of_ble_eq_true rfl) (Nat.le_of_ble_eq_true rfl) (Nat.le_of_ble_eq_true rfl) (Nat.le_of_ble_eq_true rfl) (Nat.le_of_ble_eq_true rfl) ?_
  refine x_astore_n C dL_law_15 (by decide) rfl ?_
  refine x_iconst (v := 0) C dL_law_16 (by decide) ?_
  refine x_istore_n C dL_law_17 (by decide) rfl ?_
  refine xX.cl2 (law_loop C hX hL hE (L + 5) 0 (fun _ => V0) 0 0 0 (fun _ => 0) V0 (fun _ => 0) (fun _ => 0) (fun _ => 0) (by omega) (by omega) V0_rel) rfl (Nat.le_of_ble_eq_true rfl) (Nat.le_of_ble_eq_true rfl) rfl (And.intro rfl (And.intro rfl (And.intro rfl (And.intro rfl trivial)))) rfl
