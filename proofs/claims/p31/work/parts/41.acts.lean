/-! the acts of the law -/
set_option maxRecDepth 100000 in
set_option maxHeartbeats 4000000 in
theorem la_come {k0 : xT} {l : Launch} {E : xEnv} {B N a b bb t : Nat} {mn : String} {σ : Sg} {VV : Cs} {p z n : Nat} {tx : Fn} {Q : Fn} {R : Nat → Fn} {X Y : Int32} {who other m w kd : Nat} (C : xC k0 l E B cL_law 27 ret RL mn 9 352 600000 7302250) (ha : a ≤ 600000) (hb : b ≤ 7302250) (hp6 : p < 6) (hz : z ≤ 6) (H : LR (VV 0) Q R 99 0 0) (hw4 : who < 4) (ho4 : other < 4) (hm : m < 6) (hw : w < 10) (J1 : ∀ (VV : Cs) (p z : Nat) (Q : Fn) (R : Nat → Fn), p < 6 → z ≤ 6 → LR (VV 0) Q R 99 0 0 → xX k0 N a b (wput E (cput E σ B VV (nI p) (nI z) (nI n) tx) (B + 165) Q R) 1333 [some (.ref bb), some (.ref B), some (.ref (B + 165)), some (.ref (B + 165 + 1)), some (.ref (B + 165 + 2)), some (.ref (B + 165 + 3)), some (.ref (B + 165 + 4)), some (.int (nI t)), none, none, none, none, none, none, none, none, none, none, none, none, none, none, none, none, none, none, none] []) (J2 : xX k0 N a b (wput E (cput E σ B VV (nI p) (nI z) (nI n) tx) (B + 165) Q R) 1350 [some (.ref bb), some (.ref B), some (.ref (B + 165)), some (.ref (B + 165 + 1)), some (.ref (B + 165 + 2)), some (.ref (B + 165 + 3)), some (.ref (B + 165 + 4)), some (.int (nI t)), none, none, none, none, none, none, none, none, none, none, none, none, none, none, none, none, none, none, none] []) : xX k0 N a b (wput E (cput E σ B VV (nI p) (nI z) (nI n) tx) (B + 165) Q R) 269 [some (.ref bb), some (.ref B), some (.ref (B + 165)), some (.ref (B + 165 + 1)), some (.ref (B + 165 + 2)), some (.ref (B + 165 + 3)), some (.ref (B + 165 + 4)), some (.int (nI t)), some (.int X), some (.int Y), some (.int (nI 0)), some (.int (nI who)), some (.int (nI other)), some (.int (nI m)), some (.int (nI w)), some (.int (xb (VV 0 10 who = 1))), some (.int (xb (VV 0 10 who = 1 ∧ VV 0 10 other = 1))), some (.ref (B + 165 + 1 + who)), some (.ref (B + 165 + 1 + other)), none, none, none, none, none, none, none, none] [] := by
  have hl : ∀ i, i ≤ 4 → (∀ j, j < i → VV 0 10 j = 1) → xX k0 N a b (wput E (cput E σ B VV (nI p) (nI z) (nI n) tx) (B + 165) Q R) 277 [some (.ref bb), some (.ref B), some (.ref (B + 165)), some (.ref (B + 165 + 1)), some (.ref (B + 165 + 2)), some (.ref (B + 165 + 3)), some (.ref (B + 165 + 4)), some (.int (nI t)), some (.int X), some (.int Y), some (.int (nI 0)), some (.int (nI who)), some (.int (nI other)), some (.int (nI m)), some (.int (nI w)), some (.int (xb (VV 0 10 who = 1))), some (.int (xb (VV 0 10 who = 1 ∧ VV 0 10 other = 1))), some (.ref (B + 165 + 1 + who)), some (.ref (B + 165 + 1 + other)), some (.int (nI i)), none, none, none, none, none, none, none] [] := by
    refine x_for 4 ?_ ?_
    · intro _
      refine x_iload C dL_law_277 rfl ?_
      refine x_iconst (v := 4) C dL_law_279 (by decide) ?_
      refine x_ic_ge C 299 dL_law_280 (by decide) (fun _ => ?_) (fun h => absurd (nI_le (a := 4) (Nat.le_refl _) (by decide)) h)
      refine x_iload C dL_law_299 rfl ?_
      refine x_iconst (v := 4) C dL_law_301 (by decide) ?_
      refine x_ic_ne C 308 dL_law_302 (by decide) (fun h => absurd rfl h) (fun _ => ?_)
      refine x_goto C 1350 dL_law_305 (by decide) ?_
      refine xX.cl (J2) rfl (And.intro rfl (And.intro rfl (And.intro rfl (And.intro rfl (And.intro rfl (And.intro rfl (And.intro rfl (And.intro rfl trivial)))))))) rfl
    · intro i hi ih hall
      by_cases hp : VV 0 10 i = 1
      · have hall2 : ∀ j, j < i + 1 → VV 0 10 j = 1 := fun j hj => by
          by_cases ej : j = i
          · rw [ej]; exact hp
          · exact hall j (by omega)
        refine x_iload C dL_law_277 rfl ?_
        refine x_iconst (v := 4) C dL_law_279 (by decide) ?_
        refine x_ic_ge C 299 dL_law_280 (by decide) (fun h => absurd h (nI_ge (b := 4) hi (by decide))) (fun _ => ?_)
        refine x_aload_n C dL_law_283 rfl ?_
        refine x_bipush (v := 9) C dL_law_284 (by decide) ?_
        refine x_iload C dL_law_286 rfl ?_
        refine x_iadd C dL_law_288 ?_
        refine x_iald2 C wput_q (ix9 i) (by omega) (by decide) dL_law_289 ?_
        refine x_if_lt C 299 dL_law_290 (by decide) (fun h => absurd h (fun z => (H.neg (by decide) hi).mp z hp)) (fun _ => ?_)
        refine x_iinc C dL_law_293 rfl (nI_inc _) (by decide) rfl ?_
        refine x_goto C 277 dL_law_296 (by decide) ?_
        refine xX.cl (ih hall2) rfl (And.intro rfl (And.intro rfl (And.intro rfl (And.intro rfl (And.intro rfl (And.intro rfl (And.intro rfl (And.intro rfl (And.intro rfl (And.intro rfl (And.intro rfl (And.intro rfl (And.intro rfl (And.intro rfl (And.intro rfl (And.intro rfl (And.intro rfl (And.intro rfl (And.intro rfl (And.intro rfl trivial)))))))))))))))))))) rfl
      · refine x_iload C dL_law_277 rfl ?_
        refine x_iconst (v := 4) C dL_law_279 (by decide) ?_
        refine x_ic_ge C 299 dL_law_280 (by decide) (fun h => absurd h (nI_ge (b := 4) hi (by decide))) (fun _ => ?_)
        refine x_aload_n C dL_law_283 rfl ?_
        refine x_bipush (v := 9) C dL_law_284 (by decide) ?_
        refine x_iload C dL_law_286 rfl ?_
        refine x_iadd C dL_law_288 ?_
        refine x_iald2 C wput_q (ix9 i) (by omega) (by decide) dL_law_289 ?_
        refine x_if_lt C 299 dL_law_290 (by decide) (fun _ => ?_) (fun h => absurd ((H.neg (by decide) hi).mpr hp) h)
        refine x_iload C dL_law_299 rfl ?_
        refine x_iconst (v := 4) C dL_law_301 (by decide) ?_
        refine x_ic_ne C 308 dL_law_302 (by decide) (fun _ => ?_) (fun h => absurd h (nI_neL (b := 4) (by omega) (by decide) (by omega)))
        refine x_aload_n C dL_law_308 rfl ?_
        refine x_callV C (c_X4_come_ok hp6 hz (q := i) (by omega) hall hp) kv_X4_come kl_L_82 dL_law_309 wput_0 wput_cs wput_cs.symm rfl rfl (Nat.le_of_ble_eq_true rfl) (Nat.le_of_ble_eq_true rfl) (Nat.le_of_ble_eq_true rfl) (by omega) (by omega) ?_
        refine x_iload C dL_law_312 rfl ?_
        refine x_ic_eq C 319 dL_law_314 (by decide) (fun _ => ?_) (fun h => absurd rfl h)
        refine x_aload_n C dL_law_319 rfl ?_
        refine x_bipush (v := 9) C dL_law_320 (by decide) ?_
        refine x_iload C dL_law_322 rfl ?_
        refine x_iadd C dL_law_324 ?_
        refine x_iconst (v := 0) C dL_law_325 (by decide) ?_
        refine x_iast2 C wput_q (ix9 i) (by omega) (by decide) (fun _ _ => rfl) wput_uq dL_law_326 ?_
        refine x_aload_n C dL_law_327 rfl ?_
        refine x_bipush (v := 13) C dL_law_328 (by decide) ?_
        refine x_iload C dL_law_330 rfl ?_
        refine x_iadd C dL_law_332 ?_
        refine x_iconst (v := 0) C dL_law_333 (by decide) ?_
        refine x_iast2 C wput_q (ix13 i) (by omega) (by decide) (fun _ _ => rfl) wput_uq dL_law_334 ?_
        refine x_goto C 1333 dL_law_335 (by decide) ?_
        refine xX.cl (J1 _ _ _ _ _ md6 mn6 (by rw [kp_0]; exact LR_come H hi hp)) rfl (And.intro rfl (And.intro rfl (And.intro rfl (And.intro rfl (And.intro rfl (And.intro rfl (And.intro rfl (And.intro rfl trivial)))))))) rfl
  refine x_iload C dL_law_269 rfl ?_
  refine x_if_ne C 338 dL_law_271 (by decide) (fun h => absurd rfl h) (fun _ => ?_)
  refine x_iconst (v := 0) C dL_law_274 (by decide) ?_
  refine x_istore C dL_law_275 (by decide) rfl ?_
  refine xX.cl (hl 0 (by omega) (fun j hj => absurd hj (Nat.not_lt_zero _))) rfl (And.intro rfl (And.intro rfl (And.intro rfl (And.intro rfl (And.intro rfl (And.intro rfl (And.intro rfl (And.intro rfl (And.intro rfl (And.intro rfl (And.intro rfl (And.intro rfl (And.intro rfl (And.intro rfl (And.intro rfl (And.intro rfl (And.intro rfl (And.intro rfl (And.intro rfl (And.intro rfl trivial)))))))))))))))))))) rfl
set_option maxRecDepth 100000 in
set_option maxHeartbeats 4000000 in
theorem la_go {k0 : xT} {l : Launch} {E : xEnv} {B N a b bb t : Nat} {mn : String} {σ : Sg} {VV : Cs} {p z n : Nat} {tx : Fn} {Q : Fn} {R : Nat → Fn} {X Y : Int32} {who other m w kd : Nat} (C : xC k0 l E B cL_law 27 ret RL mn 9 352 600000 7302250) (ha : a ≤ 600000) (hb : b ≤ 7302250) (hp6 : p < 6) (hz : z ≤ 6) (H : LR (VV 0) Q R 99 0 0) (hw4 : who < 4) (ho4 : other < 4) (hm : m < 6) (hw : w < 10) (J1 : ∀ (VV : Cs) (p z : Nat) (Q : Fn) (R : Nat → Fn), p < 6 → z ≤ 6 → LR (VV 0) Q R 99 0 0 → xX k0 N a b (wput E (cput E σ B VV (nI p) (nI z) (nI n) tx) (B + 165) Q R) 1333 [some (.ref bb), some (.ref B), some (.ref (B + 165)), some (.ref (B + 165 + 1)), some (.ref (B + 165 + 2)), some (.ref (B + 165 + 3)), some (.ref (B + 165 + 4)), some (.int (nI t)), none, none, none, none, none, none, none, none, none, none, none, none, none, none, none, none, none, none, none] []) (J2 : xX k0 N a b (wput E (cput E σ B VV (nI p) (nI z) (nI n) tx) (B + 165) Q R) 1350 [some (.ref bb), some (.ref B), some (.ref (B + 165)), some (.ref (B + 165 + 1)), some (.ref (B + 165 + 2)), some (.ref (B + 165 + 3)), some (.ref (B + 165 + 4)), some (.int (nI t)), none, none, none, none, none, none, none, none, none, none, none, none, none, none, none, none, none, none, none] []) : xX k0 N a b (wput E (cput E σ B VV (nI p) (nI z) (nI n) tx) (B + 165) Q R) 269 [some (.ref bb), some (.ref B), some (.ref (B + 165)), some (.ref (B + 165 + 1)), some (.ref (B + 165 + 2)), some (.ref (B + 165 + 3)), some (.ref (B + 165 + 4)), some (.int (nI t)), some (.int X), some (.int Y), some (.int (nI 1)), some (.int (nI who)), some (.int (nI other)), some (.int (nI m)), some (.int (nI w)), some (.int (xb (VV 0 10 who = 1))), some (.int (xb (VV 0 10 who = 1 ∧ VV 0 10 other = 1))), some (.ref (B + 165 + 1 + who)), some (.ref (B + 165 + 1 + other)), none, none, none, none, none, none, none, none] [] := by
  have ht : ∀ (VV2 : Cs) (p2 z2 : Nat), p2 < 6 → z2 ≤ 6 → LR (VV2 0) (upd Q (9 + who) (-1)) (upR R who (zrF (R who) 60)) 99 0 0 → xX k0 N a b (wput E (cput E σ B VV2 (nI p2) (nI z2) (nI n) tx) (B + 165) Q R) 418 [some (.ref bb), some (.ref B), some (.ref (B + 165)), some (.ref (B + 165 + 1)), some (.ref (B + 165 + 2)), some (.ref (B + 165 + 3)), some (.ref (B + 165 + 4)), some (.int (nI t)), some (.int X), some (.int Y), some (.int (nI 1)), some (.int (nI who)), some (.int (nI other)), some (.int (nI m)), some (.int (nI w)), some (.int (xb (VV 0 10 who = 1))), some (.int (xb (VV 0 10 who = 1 ∧ VV 0 10 other = 1))), some (.ref (B + 165 + 1 + who)), some (.ref (B + 165 + 1 + other)), none, none, none, none, none, none, none, none] [] := by
    intro VV2 p2 z2 hp2 hz2 H2
    have hl : ∀ i, i ≤ 60 → xX k0 N a b (wput E (cput E σ B VV2 (nI p2) (nI z2) (nI n) tx) (B + 165) (upd Q (9 + who) (-1)) (upR R who (zrF (R who) i))) 429 [some (.ref bb), some (.ref B), some (.ref (B + 165)), some (.ref (B + 165 + 1)), some (.ref (B + 165 + 2)), some (.ref (B + 165 + 3)), some (.ref (B + 165 + 4)), some (.int (nI t)), some (.int X), some (.int Y), some (.int (nI 1)), some (.int (nI who)), some (.int (nI other)), some (.int (nI m)), some (.int (nI w)), some (.int (xb (VV 0 10 who = 1))), some (.int (xb (VV 0 10 who = 1 ∧ VV 0 10 other = 1))), some (.ref (B + 165 + 1 + who)), some (.ref (B + 165 + 1 + other)), none, some (.int (nI i)), none, none, none, none, none, none] [] := by
      refine x_for 60 ?_ ?_
      · refine x_iload C dL_law_429 rfl ?_
        refine x_bipush (v := 60) C dL_law_431 (by decide) ?_
        refine x_ic_ge C 448 dL_law_433 (by decide) (fun _ => ?_) (fun h => absurd (nI_le (a := 60) (Nat.le_refl _) (by decide)) h)
        refine x_goto C 1333 dL_law_448 (by decide) ?_
        refine xX.cl (J1 _ _ _ _ _ hp2 hz2 H2) rfl (And.intro rfl (And.intro rfl (And.intro rfl (And.intro rfl (And.intro rfl (And.intro rfl (And.intro rfl (And.intro rfl trivial)))))))) rfl
      · intro i hi ih
        refine x_iload C dL_law_429 rfl ?_
        refine x_bipush (v := 60) C dL_law_431 (by decide) ?_
        refine x_ic_ge C 448 dL_law_433 (by decide) (fun h => absurd h (nI_ge (b := 60) hi (by decide))) (fun _ => ?_)
        refine x_aload C dL_law_436 rfl ?_
        refine x_iload C dL_law_438 rfl ?_
        refine x_iconst (v := 0) C dL_law_440 (by decide) ?_
        refine x_iast2 C (wput_r hw4) rfl hi (by decide) (fun _ _ => rfl) (wput_ur hw4) dL_law_441 ?_
        refine x_iinc C dL_law_442 rfl (nI_inc _) (by decide) rfl ?_
        refine x_goto C 429 dL_law_445 (by decide) ?_
        refine xX.cl (ih) (wput_sg rfl (by rw [upR_s, upR_u, zrF_s])) (And.intro rfl (And.intro rfl (And.intro rfl (And.intro rfl (And.intro rfl (And.intro rfl (And.intro rfl (And.intro rfl (And.intro rfl (And.intro rfl (And.intro rfl (And.intro rfl (And.intro rfl (And.intro rfl (And.intro rfl (And.intro rfl (And.intro rfl (And.intro rfl (And.intro rfl (And.intro rfl trivial)))))))))))))))))))) rfl
    refine x_aload_n C dL_law_418 rfl ?_
    refine x_bipush (v := 9) C dL_law_419 (by decide) ?_
    refine x_iload C dL_law_421 rfl ?_
    refine x_iadd C dL_law_423 ?_
    refine x_iconst (v := (-1)) C dL_law_424 (by decide) ?_
    refine x_iast2 C wput_q (ix9 who) (by omega) (by decide) (fun _ _ => rfl) wput_uq dL_law_425 ?_
    refine x_iconst (v := 0) C dL_law_426 (by decide) ?_
    refine x_istore C dL_law_427 (by decide) rfl ?_
    refine xX.cl (hl 0 (by omega)) (wput_sg rfl (by rw [zrF_0, upR_e])) (And.intro rfl (And.intro rfl (And.intro rfl (And.intro rfl (And.intro rfl (And.intro rfl (And.intro rfl (And.intro rfl (And.intro rfl (And.intro rfl (And.intro rfl (And.intro rfl (And.intro rfl (And.intro rfl (And.intro rfl (And.intro rfl (And.intro rfl (And.intro rfl (And.intro rfl (And.intro rfl trivial)))))))))))))))))))) rfl
  have hc : ∀ j, j ≤ 4 → xX k0 N a b (wput E (cput E σ B VV (nI p) (nI z) (nI n) tx) (B + 165) Q R) 351 [some (.ref bb), some (.ref B), some (.ref (B + 165)), some (.ref (B + 165 + 1)), some (.ref (B + 165 + 2)), some (.ref (B + 165 + 3)), some (.ref (B + 165 + 4)), some (.int (nI t)), some (.int X), some (.int Y), some (.int (nI 1)), some (.int (nI who)), some (.int (nI other)), some (.int (nI m)), some (.int (nI w)), some (.int (xb (VV 0 10 who = 1))), some (.int (xb (VV 0 10 who = 1 ∧ VV 0 10 other = 1))), some (.ref (B + 165 + 1 + who)), some (.ref (B + 165 + 1 + other)), some (.int (nI (cnN (VV 0 10) j) - 1)), some (.int (nI (9 + j))), none, none, none, none, none, none] [] := by
    refine x_for 4 ?_ ?_
    · refine x_iload C dL_law_351 rfl ?_
      refine x_bipush (v := 13) C dL_law_353 (by decide) ?_
      refine x_ic_ge C 381 dL_law_355 (by decide) (fun _ => ?_) (fun h => absurd (nI_le (a := 13) (b := 13) (Nat.le_refl _) (by decide)) h)
      refine x_iload C dL_law_381 rfl ?_
      refine x_bipush (v := 6) C dL_law_383 (by decide) ?_
      refine x_ishr C dL_law_385 ?_
      refine x_iconst (v := 3) C dL_law_386 (by decide) ?_
      refine x_callS C (c_L_low _ (n := 3) (by omega) (by omega)) ks_L_low kl_L_79 dL_law_387 rfl rfl rfl rfl (Nat.le_of_ble_eq_true rfl) (Nat.le_of_ble_eq_true rfl) (Nat.le_of_ble_eq_true rfl) (by omega) (by omega) ?_
      refine x_if_le C 396 dL_law_390 (by decide) (fun h390 => ?_) (fun h390 => ?_)
      · by_cases hp : VV 0 10 who = 1
        · refine x_aload_n C dL_law_396 rfl ?_
          refine x_iload C dL_law_397 rfl ?_
          refine x_callV C (c_X4_go_ok hp6 hz (by omega) hp) kv_X4_go kl_L_86 dL_law_399 wput_0 wput_cs wput_cs.symm rfl rfl (Nat.le_of_ble_eq_true rfl) (Nat.le_of_ble_eq_true rfl) (Nat.le_of_ble_eq_true rfl) (by omega) (by omega) ?_
          refine x_iload C dL_law_402 rfl ?_
          refine x_beq C 412 dL_law_404 (by decide) (fun h => absurd hp h) (fun _ => ?_)
          refine x_iload C dL_law_407 rfl ?_
          refine x_goto C 413 dL_law_409 (by decide) ?_
          refine x_ic_eq C 418 dL_law_413 (by decide) (fun _ => ?_) (fun h => absurd (go_cn H hw4 hp) h)
          refine xX.cl (ht _ _ _ md6 mn6 (by rw [kp_0]; exact LR_go H hw4 zrF_z)) rfl (And.intro rfl (And.intro rfl (And.intro rfl (And.intro rfl (And.intro rfl (And.intro rfl (And.intro rfl (And.intro rfl (And.intro rfl (And.intro rfl (And.intro rfl (And.intro rfl (And.intro rfl (And.intro rfl (And.intro rfl (And.intro rfl (And.intro rfl (And.intro rfl (And.intro rfl trivial))))))))))))))))))) rfl
        · refine x_aload_n C dL_law_396 rfl ?_
          refine x_iload C dL_law_397 rfl ?_
          refine x_callV C (c_X4_go_no (no_k (by omega) hp)) kv_X4_go kl_L_86 dL_law_399 wput_0 wput_cs wput_cs.symm rfl rfl (Nat.le_of_ble_eq_true rfl) (Nat.le_of_ble_eq_true rfl) (Nat.le_of_ble_eq_true rfl) (by omega) (by omega) ?_
          refine x_iload C dL_law_402 rfl ?_
          refine x_beq C 412 dL_law_404 (by decide) (fun _ => ?_) (fun h => absurd h hp)
          refine x_iconst (v := (-1)) C dL_law_412 (by decide) ?_
          refine x_ic_eq C 418 dL_law_413 (by decide) (fun _ => ?_) (fun h => absurd rfl h)
          refine xX.cl (ht _ _ _ hp6 hz (LR_abs H hw4 hp (fun j hj => pk_un hj) pk_us zrF_z)) rfl (And.intro rfl (And.intro rfl (And.intro rfl (And.intro rfl (And.intro rfl (And.intro rfl (And.intro rfl (And.intro rfl (And.intro rfl (And.intro rfl (And.intro rfl (And.intro rfl (And.intro rfl (And.intro rfl (And.intro rfl (And.intro rfl (And.intro rfl (And.intro rfl (And.intro rfl trivial))))))))))))))))))) rfl
      · refine x_goto C 1350 dL_law_393 (by decide) ?_
        refine xX.cl (J2) rfl (And.intro rfl (And.intro rfl (And.intro rfl (And.intro rfl (And.intro rfl (And.intro rfl (And.intro rfl (And.intro rfl trivial)))))))) rfl
    · intro j hj ih
      refine x_iload C dL_law_351 rfl ?_
      refine x_bipush (v := 13) C dL_law_353 (by decide) ?_
      refine x_ic_ge C 381 dL_law_355 (by decide) (fun h => absurd h (nI_ge (b := 13) (by omega) (by decide))) (fun _ => ?_)
      refine x_iload C dL_law_358 rfl ?_
      refine xX.mrg 372 (if VV 0 10 j = 1 then 1 else 0) (fun hk372 => ?_) ?_
      · refine x_aload_n C dL_law_360 rfl ?_
        refine x_iload C dL_law_361 rfl ?_
        refine x_iald2 C wput_q rfl (by omega) (by decide) dL_law_363 ?_
        refine x_if_lt C 371 dL_law_364 (by decide) (fun h364 => ?_) (fun h364 => ?_)
        · refine x_iconst (v := 0) C dL_law_371 (by decide) ?_
          exact xX.vl hk372 (if_neg ((H.neg (by decide) hj).mp h364))
        · refine x_iconst (v := 1) C dL_law_367 (by decide) ?_
          refine x_goto C 372 dL_law_368 (by decide) ?_
          exact xX.vl hk372 (if_pos ((H.pos (by decide) hj).mp (Int32.not_lt.mp h364)))
      refine x_iadd C dL_law_372 ?_
      refine x_istore C dL_law_373 (by decide) rfl ?_
      refine x_iinc C dL_law_375 rfl (nI_inc _) (by decide) rfl ?_
      refine x_goto C 351 dL_law_378 (by decide) ?_
      refine xX.cl (ih) rfl (And.intro rfl (And.intro rfl (And.intro rfl (And.intro rfl (And.intro rfl (And.intro rfl (And.intro rfl (And.intro rfl (And.intro rfl (And.intro rfl (And.intro rfl (And.intro rfl (And.intro rfl (And.intro rfl (And.intro rfl (And.intro rfl (And.intro rfl (And.intro rfl (And.intro rfl (And.intro (congrArg (fun z => some (some (Value.int z))) ct_s) (And.intro rfl trivial))))))))))))))))))))) rfl
  refine x_iload C dL_law_269 rfl ?_
  refine x_if_ne C 338 dL_law_271 (by decide) (fun _ => ?_) (fun h => absurd h (by decide))
  refine x_iload C dL_law_338 rfl ?_
  refine x_iconst (v := 1) C dL_law_340 (by decide) ?_
  refine x_ic_ne C 451 dL_law_341 (by decide) (fun h => absurd rfl h) (fun _ => ?_)
  refine x_iconst (v := (-1)) C dL_law_344 (by decide) ?_
  refine x_istore C dL_law_345 (by decide) rfl ?_
  refine x_bipush (v := 9) C dL_law_347 (by decide) ?_
  refine x_istore C dL_law_349 (by decide) rfl ?_
  refine xX.cl (hc 0 (by omega)) rfl (And.intro rfl (And.intro rfl (And.intro rfl (And.intro rfl (And.intro rfl (And.intro rfl (And.intro rfl (And.intro rfl (And.intro rfl (And.intro rfl (And.intro rfl (And.intro rfl (And.intro rfl (And.intro rfl (And.intro rfl (And.intro rfl (And.intro rfl (And.intro rfl (And.intro rfl (And.intro rfl (And.intro rfl trivial))))))))))))))))))))) rfl
set_option maxRecDepth 100000 in
set_option maxHeartbeats 4000000 in
theorem la_set {k0 : xT} {l : Launch} {E : xEnv} {B N a b bb t : Nat} {mn : String} {σ : Sg} {VV : Cs} {p z n : Nat} {tx : Fn} {Q : Fn} {R : Nat → Fn} {X Y : Int32} {who other m w kd : Nat} (C : xC k0 l E B cL_law 27 ret RL mn 9 352 600000 7302250) (ha : a ≤ 600000) (hb : b ≤ 7302250) (hp6 : p < 6) (hz : z ≤ 6) (H : LR (VV 0) Q R 99 0 0) (hw4 : who < 4) (ho4 : other < 4) (hm : m < 6) (hw : w < 10) (J1 : ∀ (VV : Cs) (p z : Nat) (Q : Fn) (R : Nat → Fn), p < 6 → z ≤ 6 → LR (VV 0) Q R 99 0 0 → xX k0 N a b (wput E (cput E σ B VV (nI p) (nI z) (nI n) tx) (B + 165) Q R) 1333 [some (.ref bb), some (.ref B), some (.ref (B + 165)), some (.ref (B + 165 + 1)), some (.ref (B + 165 + 2)), some (.ref (B + 165 + 3)), some (.ref (B + 165 + 4)), some (.int (nI t)), none, none, none, none, none, none, none, none, none, none, none, none, none, none, none, none, none, none, none] []) (J2 : xX k0 N a b (wput E (cput E σ B VV (nI p) (nI z) (nI n) tx) (B + 165) Q R) 1350 [some (.ref bb), some (.ref B), some (.ref (B + 165)), some (.ref (B + 165 + 1)), some (.ref (B + 165 + 2)), some (.ref (B + 165 + 3)), some (.ref (B + 165 + 4)), some (.int (nI t)), none, none, none, none, none, none, none, none, none, none, none, none, none, none, none, none, none, none, none] []) : xX k0 N a b (wput E (cput E σ B VV (nI p) (nI z) (nI n) tx) (B + 165) Q R) 269 [some (.ref bb), some (.ref B), some (.ref (B + 165)), some (.ref (B + 165 + 1)), some (.ref (B + 165 + 2)), some (.ref (B + 165 + 3)), some (.ref (B + 165 + 4)), some (.int (nI t)), some (.int X), some (.int Y), some (.int (nI 2)), some (.int (nI who)), some (.int (nI other)), some (.int (nI m)), some (.int (nI w)), some (.int (xb (VV 0 10 who = 1))), some (.int (xb (VV 0 10 who = 1 ∧ VV 0 10 other = 1))), some (.ref (B + 165 + 1 + who)), some (.ref (B + 165 + 1 + other)), none, none, none, none, none, none, none, none] [] := by
  refine x_iload C dL_law_269 rfl ?_
  refine x_if_ne C 338 dL_law_271 (by decide) (fun _ => ?_) (fun h => absurd h (by decide))
  refine x_iload C dL_law_338 rfl ?_
  refine x_iconst (v := 1) C dL_law_340 (by decide) ?_
  refine x_ic_ne C 451 dL_law_341 (by decide) (fun _ => ?_) (fun h => absurd h (by decide))
  refine x_iload C dL_law_451 rfl ?_
  refine x_iconst (v := 2) C dL_law_453 (by decide) ?_
  refine x_ic_ne C 563 dL_law_454 (by decide) (fun h => absurd rfl h) (fun _ => ?_)
  refine x_iload C dL_law_457 rfl ?_
  refine x_iconst (v := 4) C dL_law_459 (by decide) ?_
  refine x_callS C (c_L_low _ (n := 4) (by omega) (by omega)) ks_L_low kl_L_79 dL_law_460 rfl rfl rfl rfl (Nat.le_of_ble_eq_true rfl) (Nat.le_of_ble_eq_true rfl) (Nat.le_of_ble_eq_true rfl) (by omega) (by omega) ?_
  refine x_istore C dL_law_463 (by decide) rfl ?_
  have hj4 : lwN2 Y 4 < 4 := lw_lt (by decide)
  generalize lwN2 Y 4 = j at hj4 ⊢
  rcases (show j = 0 ∨ j = 1 ∨ j = 2 ∨ j = 3 by omega) with rfl | rfl | rfl | rfl
  · refine x_iload C dL_law_465 rfl ?_
    refine x_if_ne C 484 dL_law_467 (by decide) (fun h => absurd rfl h) (fun _ => ?_)
    refine x_iconst (v := 1) C dL_law_470 (by decide) ?_
    refine x_iload C dL_law_471 rfl ?_
    refine x_iconst (v := 3) C dL_law_473 (by decide) ?_
    refine x_ishr C dL_law_474 ?_
    refine x_bipush (v := 9) C dL_law_475 (by decide) ?_
    refine x_callS C (c_L_low _ (n := 9) (by omega) (by omega)) ks_L_low kl_L_79 dL_law_477 rfl rfl rfl rfl (Nat.le_of_ble_eq_true rfl) (Nat.le_of_ble_eq_true rfl) (Nat.le_of_ble_eq_true rfl) (by omega) (by omega) ?_
    refine x_iadd C dL_law_480 ?_
    refine x_goto C 531 dL_law_481 (by decide) ?_
    rw [show (1 : Int32) = nI 1 from rfl, nI_add]
    have hx1 : 1 ≤ 1 + lwN2 (Y >>> (3 &&& 31)) 9 := by omega
    have hx2 : 1 + lwN2 (Y >>> (3 &&& 31)) 9 ≤ 9 := by have := lw_lt (x := Y >>> (3 &&& 31)) (n := 9) (by decide); omega
    generalize 1 + lwN2 (Y >>> (3 &&& 31)) 9 = x at hx1 hx2 ⊢
    refine x_istore C dL_law_531 (by decide) rfl ?_
    refine x_aload_n C dL_law_533 rfl ?_
    refine x_iload C dL_law_534 rfl ?_
    refine x_iload C dL_law_536 rfl ?_
    refine x_callV C (c_X4_set_ok hp6 hz (j := 0) (v := nI x) (by decide) (show ¬ nI x < nI 1 from nI_nlt (by omega) (by omega)) (show ¬ nI 9 < nI x from nI_nlt (by omega) (by decide))) kv_X4_set kl_L_89 dL_law_538 wput_0 wput_cs wput_cs.symm rfl rfl (Nat.le_of_ble_eq_true rfl) (Nat.le_of_ble_eq_true rfl) (Nat.le_of_ble_eq_true rfl) (by omega) (by omega) ?_
    refine x_aload_n C dL_law_541 rfl ?_
    refine x_iconst (v := 5) C dL_law_542 (by decide) ?_
    refine x_iload C dL_law_543 rfl ?_
    refine x_iadd C dL_law_545 ?_
    refine x_iald2 C wput_q (ix5 0) (by decide) (by decide) dL_law_546 ?_
    refine x_ic_eq C 552 dL_law_547 (by decide) (fun _ => ?_) (fun h => absurd (H.q5 (j := 0) (by decide)).symm h)
    refine x_aload_n C dL_law_552 rfl ?_
    refine x_iconst (v := 5) C dL_law_553 (by decide) ?_
    refine x_iload C dL_law_554 rfl ?_
    refine x_iadd C dL_law_556 ?_
    refine x_iload C dL_law_557 rfl ?_
    refine x_iast2 C wput_q (ix5 0) (by decide) (by decide) (fun _ _ => rfl) wput_uq dL_law_559 ?_
    refine x_goto C 1333 dL_law_560 (by decide) ?_
    refine xX.cl (J1 _ _ _ _ _ md6 mn6 (by rw [kp_0]; exact LR_set H (j := 0) (x := x) (by decide) (by omega) (by omega) (by omega))) rfl (And.intro rfl (And.intro rfl (And.intro rfl (And.intro rfl (And.intro rfl (And.intro rfl (And.intro rfl (And.intro rfl trivial)))))))) rfl
  · refine x_iload C dL_law_465 rfl ?_
    refine x_if_ne C 484 dL_law_467 (by decide) (fun _ => ?_) (fun h => absurd h (by decide))
    refine x_iload C dL_law_484 rfl ?_
    refine x_iconst (v := 1) C dL_law_486 (by decide) ?_
    refine x_ic_ne C 502 dL_law_487 (by decide) (fun h => absurd rfl h) (fun _ => ?_)
    refine x_iload C dL_law_490 rfl ?_
    refine x_iconst (v := 3) C dL_law_492 (by decide) ?_
    refine x_ishr C dL_law_493 ?_
    refine x_bipush (v := 10) C dL_law_494 (by decide) ?_
    refine x_callS C (c_L_low _ (n := 10) (by omega) (by omega)) ks_L_low kl_L_79 dL_law_496 rfl rfl rfl rfl (Nat.le_of_ble_eq_true rfl) (Nat.le_of_ble_eq_true rfl) (Nat.le_of_ble_eq_true rfl) (by omega) (by omega) ?_
    refine x_goto C 531 dL_law_499 (by decide) ?_
    have hx1 : 0 ≤ lwN2 (Y >>> (3 &&& 31)) 10 := Nat.zero_le _
    have hx2 : lwN2 (Y >>> (3 &&& 31)) 10 ≤ 9 := by have := lw_lt (x := Y >>> (3 &&& 31)) (n := 10) (by decide); omega
    generalize lwN2 (Y >>> (3 &&& 31)) 10 = x at hx1 hx2 ⊢
    refine x_istore C dL_law_531 (by decide) rfl ?_
    refine x_aload_n C dL_law_533 rfl ?_
    refine x_iload C dL_law_534 rfl ?_
    refine x_iload C dL_law_536 rfl ?_
    refine x_callV C (c_X4_set_ok hp6 hz (j := 1) (v := nI x) (by decide) (show ¬ nI x < nI 0 from nI_nlt (by omega) (by omega)) (show ¬ nI 9 < nI x from nI_nlt (by omega) (by decide))) kv_X4_set kl_L_89 dL_law_538 wput_0 wput_cs wput_cs.symm rfl rfl (Nat.le_of_ble_eq_true rfl) (Nat.le_of_ble_eq_true rfl) (Nat.le_of_ble_eq_true rfl) (by omega) (by omega) ?_
    refine x_aload_n C dL_law_541 rfl ?_
    refine x_iconst (v := 5) C dL_law_542 (by decide) ?_
    refine x_iload C dL_law_543 rfl ?_
    refine x_iadd C dL_law_545 ?_
    refine x_iald2 C wput_q (ix5 1) (by decide) (by decide) dL_law_546 ?_
    refine x_ic_eq C 552 dL_law_547 (by decide) (fun _ => ?_) (fun h => absurd (H.q5 (j := 1) (by decide)).symm h)
    refine x_aload_n C dL_law_552 rfl ?_
    refine x_iconst (v := 5) C dL_law_553 (by decide) ?_
    refine x_iload C dL_law_554 rfl ?_
    refine x_iadd C dL_law_556 ?_
    refine x_iload C dL_law_557 rfl ?_
    refine x_iast2 C wput_q (ix5 1) (by decide) (by decide) (fun _ _ => rfl) wput_uq dL_law_559 ?_
    refine x_goto C 1333 dL_law_560 (by decide) ?_
    refine xX.cl (J1 _ _ _ _ _ md6 mn6 (by rw [kp_0]; exact LR_set H (j := 1) (x := x) (by decide) (by omega) (by omega) (by omega))) rfl (And.intro rfl (And.intro rfl (And.intro rfl (And.intro rfl (And.intro rfl (And.intro rfl (And.intro rfl (And.intro rfl trivial)))))))) rfl
  · refine x_iload C dL_law_465 rfl ?_
    refine x_if_ne C 484 dL_law_467 (by decide) (fun _ => ?_) (fun h => absurd h (by decide))
    refine x_iload C dL_law_484 rfl ?_
    refine x_iconst (v := 1) C dL_law_486 (by decide) ?_
    refine x_ic_ne C 502 dL_law_487 (by decide) (fun _ => ?_) (fun h => absurd h (by decide))
    refine x_iload C dL_law_502 rfl ?_
    refine x_iconst (v := 2) C dL_law_504 (by decide) ?_
    refine x_ic_ne C 522 dL_law_505 (by decide) (fun h => absurd rfl h) (fun _ => ?_)
    refine x_iconst (v := 5) C dL_law_508 (by decide) ?_
    refine x_iload C dL_law_509 rfl ?_
    refine x_iconst (v := 3) C dL_law_511 (by decide) ?_
    refine x_ishr C dL_law_512 ?_
    refine x_bipush (v := 95) C dL_law_513 (by decide) ?_
    refine x_callS C (c_L_low _ (n := 95) (by omega) (by omega)) ks_L_low kl_L_79 dL_law_515 rfl rfl rfl rfl (Nat.le_of_ble_eq_true rfl) (Nat.le_of_ble_eq_true rfl) (Nat.le_of_ble_eq_true rfl) (by omega) (by omega) ?_
    refine x_iadd C dL_law_518 ?_
    refine x_goto C 531 dL_law_519 (by decide) ?_
    rw [show (5 : Int32) = nI 5 from rfl, nI_add]
    have hx1 : 5 ≤ 5 + lwN2 (Y >>> (3 &&& 31)) 95 := by omega
    have hx2 : 5 + lwN2 (Y >>> (3 &&& 31)) 95 ≤ 99 := by have := lw_lt (x := Y >>> (3 &&& 31)) (n := 95) (by decide); omega
    generalize 5 + lwN2 (Y >>> (3 &&& 31)) 95 = x at hx1 hx2 ⊢
    refine x_istore C dL_law_531 (by decide) rfl ?_
    refine x_aload_n C dL_law_533 rfl ?_
    refine x_iload C dL_law_534 rfl ?_
    refine x_iload C dL_law_536 rfl ?_
    refine x_callV C (c_X4_set_ok hp6 hz (j := 2) (v := nI x) (by decide) (show ¬ nI x < nI 5 from nI_nlt (by omega) (by omega)) (show ¬ nI 99 < nI x from nI_nlt (by omega) (by decide))) kv_X4_set kl_L_89 dL_law_538 wput_0 wput_cs wput_cs.symm rfl rfl (Nat.le_of_ble_eq_true rfl) (Nat.le_of_ble_eq_true rfl) (Nat.le_of_ble_eq_true rfl) (by omega) (by omega) ?_
    refine x_aload_n C dL_law_541 rfl ?_
    refine x_iconst (v := 5) C dL_law_542 (by decide) ?_
    refine x_iload C dL_law_543 rfl ?_
    refine x_iadd C dL_law_545 ?_
    refine x_iald2 C wput_q (ix5 2) (by decide) (by decide) dL_law_546 ?_
    refine x_ic_eq C 552 dL_law_547 (by decide) (fun _ => ?_) (fun h => absurd (H.q5 (j := 2) (by decide)).symm h)
    refine x_aload_n C dL_law_552 rfl ?_
    refine x_iconst (v := 5) C dL_law_553 (by decide) ?_
    refine x_iload C dL_law_554 rfl ?_
    refine x_iadd C dL_law_556 ?_
    refine x_iload C dL_law_557 rfl ?_
    refine x_iast2 C wput_q (ix5 2) (by decide) (by decide) (fun _ _ => rfl) wput_uq dL_law_559 ?_
    refine x_goto C 1333 dL_law_560 (by decide) ?_
    refine xX.cl (J1 _ _ _ _ _ md6 mn6 (by rw [kp_0]; exact LR_set H (j := 2) (x := x) (by decide) (by omega) (by omega) (by omega))) rfl (And.intro rfl (And.intro rfl (And.intro rfl (And.intro rfl (And.intro rfl (And.intro rfl (And.intro rfl (And.intro rfl trivial)))))))) rfl
  · refine x_iload C dL_law_465 rfl ?_
    refine x_if_ne C 484 dL_law_467 (by decide) (fun _ => ?_) (fun h => absurd h (by decide))
    refine x_iload C dL_law_484 rfl ?_
    refine x_iconst (v := 1) C dL_law_486 (by decide) ?_
    refine x_ic_ne C 502 dL_law_487 (by decide) (fun _ => ?_) (fun h => absurd h (by decide))
    refine x_iload C dL_law_502 rfl ?_
    refine x_iconst (v := 2) C dL_law_504 (by decide) ?_
    refine x_ic_ne C 522 dL_law_505 (by decide) (fun _ => ?_) (fun h => absurd h (by decide))
    refine x_iload C dL_law_522 rfl ?_
    refine x_iconst (v := 3) C dL_law_524 (by decide) ?_
    refine x_ishr C dL_law_525 ?_
    refine x_bipush (v := 101) C dL_law_526 (by decide) ?_
    refine x_callS C (c_L_low _ (n := 101) (by omega) (by omega)) ks_L_low kl_L_79 dL_law_528 rfl rfl rfl rfl (Nat.le_of_ble_eq_true rfl) (Nat.le_of_ble_eq_true rfl) (Nat.le_of_ble_eq_true rfl) (by omega) (by omega) ?_
    have hx1 : 0 ≤ lwN2 (Y >>> (3 &&& 31)) 101 := Nat.zero_le _
    have hx2 : lwN2 (Y >>> (3 &&& 31)) 101 ≤ 100 := by have := lw_lt (x := Y >>> (3 &&& 31)) (n := 101) (by decide); omega
    generalize lwN2 (Y >>> (3 &&& 31)) 101 = x at hx1 hx2 ⊢
    refine x_istore C dL_law_531 (by decide) rfl ?_
    refine x_aload_n C dL_law_533 rfl ?_
    refine x_iload C dL_law_534 rfl ?_
    refine x_iload C dL_law_536 rfl ?_
    refine x_callV C (c_X4_set_ok hp6 hz (j := 3) (v := nI x) (by decide) (show ¬ nI x < nI 0 from nI_nlt (by omega) (by omega)) (show ¬ nI 100 < nI x from nI_nlt (by omega) (by decide))) kv_X4_set kl_L_89 dL_law_538 wput_0 wput_cs wput_cs.symm rfl rfl (Nat.le_of_ble_eq_true rfl) (Nat.le_of_ble_eq_true rfl) (Nat.le_of_ble_eq_true rfl) (by omega) (by omega) ?_
    refine x_aload_n C dL_law_541 rfl ?_
    refine x_iconst (v := 5) C dL_law_542 (by decide) ?_
    refine x_iload C dL_law_543 rfl ?_
    refine x_iadd C dL_law_545 ?_
    refine x_iald2 C wput_q (ix5 3) (by decide) (by decide) dL_law_546 ?_
    refine x_ic_eq C 552 dL_law_547 (by decide) (fun _ => ?_) (fun h => absurd (H.q5 (j := 3) (by decide)).symm h)
    refine x_aload_n C dL_law_552 rfl ?_
    refine x_iconst (v := 5) C dL_law_553 (by decide) ?_
    refine x_iload C dL_law_554 rfl ?_
    refine x_iadd C dL_law_556 ?_
    refine x_iload C dL_law_557 rfl ?_
    refine x_iast2 C wput_q (ix5 3) (by decide) (by decide) (fun _ _ => rfl) wput_uq dL_law_559 ?_
    refine x_goto C 1333 dL_law_560 (by decide) ?_
    refine xX.cl (J1 _ _ _ _ _ md6 mn6 (by rw [kp_0]; exact LR_set H (j := 3) (x := x) (by decide) (by omega) (by omega) (by omega))) rfl (And.intro rfl (And.intro rfl (And.intro rfl (And.intro rfl (And.intro rfl (And.intro rfl (And.intro rfl (And.intro rfl trivial)))))))) rfl
set_option maxRecDepth 100000 in
set_option maxHeartbeats 4000000 in
theorem la_seed {k0 : xT} {l : Launch} {E : xEnv} {B N a b bb t : Nat} {mn : String} {σ : Sg} {VV : Cs} {p z n : Nat} {tx : Fn} {Q : Fn} {R : Nat → Fn} {X Y : Int32} {who other m w kd : Nat} (C : xC k0 l E B cL_law 27 ret RL mn 9 352 600000 7302250) (ha : a ≤ 600000) (hb : b ≤ 7302250) (hp6 : p < 6) (hz : z ≤ 6) (H : LR (VV 0) Q R 99 0 0) (hw4 : who < 4) (ho4 : other < 4) (hm : m < 6) (hw : w < 10) (J1 : ∀ (VV : Cs) (p z : Nat) (Q : Fn) (R : Nat → Fn), p < 6 → z ≤ 6 → LR (VV 0) Q R 99 0 0 → xX k0 N a b (wput E (cput E σ B VV (nI p) (nI z) (nI n) tx) (B + 165) Q R) 1333 [some (.ref bb), some (.ref B), some (.ref (B + 165)), some (.ref (B + 165 + 1)), some (.ref (B + 165 + 2)), some (.ref (B + 165 + 3)), some (.ref (B + 165 + 4)), some (.int (nI t)), none, none, none, none, none, none, none, none, none, none, none, none, none, none, none, none, none, none, none] []) (J2 : xX k0 N a b (wput E (cput E σ B VV (nI p) (nI z) (nI n) tx) (B + 165) Q R) 1350 [some (.ref bb), some (.ref B), some (.ref (B + 165)), some (.ref (B + 165 + 1)), some (.ref (B + 165 + 2)), some (.ref (B + 165 + 3)), some (.ref (B + 165 + 4)), some (.int (nI t)), none, none, none, none, none, none, none, none, none, none, none, none, none, none, none, none, none, none, none] []) : xX k0 N a b (wput E (cput E σ B VV (nI p) (nI z) (nI n) tx) (B + 165) Q R) 269 [some (.ref bb), some (.ref B), some (.ref (B + 165)), some (.ref (B + 165 + 1)), some (.ref (B + 165 + 2)), some (.ref (B + 165 + 3)), some (.ref (B + 165 + 4)), some (.int (nI t)), some (.int X), some (.int Y), some (.int (nI 3)), some (.int (nI who)), some (.int (nI other)), some (.int (nI m)), some (.int (nI w)), some (.int (xb (VV 0 10 who = 1))), some (.int (xb (VV 0 10 who = 1 ∧ VV 0 10 other = 1))), some (.ref (B + 165 + 1 + who)), some (.ref (B + 165 + 1 + other)), none, none, none, none, none, none, none, none] [] := by
  refine x_iload C dL_law_269 rfl ?_
  refine x_if_ne C 338 dL_law_271 (by decide) (fun _ => ?_) (fun h => absurd h (by decide))
  refine x_iload C dL_law_338 rfl ?_
  refine x_iconst (v := 1) C dL_law_340 (by decide) ?_
  refine x_ic_ne C 451 dL_law_341 (by decide) (fun _ => ?_) (fun h => absurd h (by decide))
  refine x_iload C dL_law_451 rfl ?_
  refine x_iconst (v := 2) C dL_law_453 (by decide) ?_
  refine x_ic_ne C 563 dL_law_454 (by decide) (fun _ => ?_) (fun h => absurd h (by decide))
  refine x_iload C dL_law_563 rfl ?_
  refine x_iconst (v := 3) C dL_law_565 (by decide) ?_
  refine x_ic_ne C 600 dL_law_566 (by decide) (fun h => absurd rfl h) (fun _ => ?_)
  refine x_iload C dL_law_569 rfl ?_
  refine x_ldc C kk_L_92 dL_law_571 ?_
  refine x_callS C (c_L_low Y (n := 65536) (by decide) (by decide)) ks_L_low kl_L_79 dL_law_573 rfl rfl rfl rfl (Nat.le_of_ble_eq_true rfl) (Nat.le_of_ble_eq_true rfl) (Nat.le_of_ble_eq_true rfl) (by omega) (by omega) ?_
  refine x_istore C dL_law_576 (by decide) rfl ?_
  refine x_aload_n C dL_law_578 rfl ?_
  refine x_iload C dL_law_579 rfl ?_
  refine x_callV C (c_X4_setSeed_ok hp6 hz (q := lwN2 Y 65536) (lw_lt (by decide))) kv_X4_setSeed kl_L_93 dL_law_581 wput_0 wput_cs wput_cs.symm rfl rfl (Nat.le_of_ble_eq_true rfl) (Nat.le_of_ble_eq_true rfl) (Nat.le_of_ble_eq_true rfl) (by omega) (by omega) ?_
  refine x_aload_n C dL_law_584 rfl ?_
  refine x_iconst (v := 0) C dL_law_585 (by decide) ?_
  refine x_iald2 C wput_q (show (0 : Int32) = nI 0 from rfl) (by decide) (by decide) dL_law_586 ?_
  refine x_ic_eq C 592 dL_law_587 (by decide) (fun _ => ?_) (fun h => absurd H.2.2.1.1.symm h)
  refine x_aload_n C dL_law_592 rfl ?_
  refine x_iconst (v := 0) C dL_law_593 (by decide) ?_
  refine x_iload C dL_law_594 rfl ?_
  refine x_iast2 C wput_q (show (0 : Int32) = nI 0 from rfl) (by decide) (by decide) (fun _ _ => rfl) wput_uq dL_law_596 ?_
  refine x_goto C 1333 dL_law_597 (by decide) ?_
  refine xX.cl (J1 _ _ _ _ _ md6 mn6 (by rw [kp_0]; exact LR_seed H (lw_lt (by decide)))) rfl (And.intro rfl (And.intro rfl (And.intro rfl (And.intro rfl (And.intro rfl (And.intro rfl (And.intro rfl (And.intro rfl trivial)))))))) rfl
set_option maxRecDepth 100000 in
set_option maxHeartbeats 4000000 in
theorem la_age {k0 : xT} {l : Launch} {E : xEnv} {B N a b bb t : Nat} {mn : String} {σ : Sg} {VV : Cs} {p z n : Nat} {tx : Fn} {Q : Fn} {R : Nat → Fn} {X Y : Int32} {who other m w kd : Nat} (C : xC k0 l E B cL_law 27 ret RL mn 9 352 600000 7302250) (ha : a ≤ 600000) (hb : b ≤ 7302250) (hp6 : p < 6) (hz : z ≤ 6) (H : LR (VV 0) Q R 99 0 0) (hw4 : who < 4) (ho4 : other < 4) (hm : m < 6) (hw : w < 10) (J1 : ∀ (VV : Cs) (p z : Nat) (Q : Fn) (R : Nat → Fn), p < 6 → z ≤ 6 → LR (VV 0) Q R 99 0 0 → xX k0 N a b (wput E (cput E σ B VV (nI p) (nI z) (nI n) tx) (B + 165) Q R) 1333 [some (.ref bb), some (.ref B), some (.ref (B + 165)), some (.ref (B + 165 + 1)), some (.ref (B + 165 + 2)), some (.ref (B + 165 + 3)), some (.ref (B + 165 + 4)), some (.int (nI t)), none, none, none, none, none, none, none, none, none, none, none, none, none, none, none, none, none, none, none] []) (J2 : xX k0 N a b (wput E (cput E σ B VV (nI p) (nI z) (nI n) tx) (B + 165) Q R) 1350 [some (.ref bb), some (.ref B), some (.ref (B + 165)), some (.ref (B + 165 + 1)), some (.ref (B + 165 + 2)), some (.ref (B + 165 + 3)), some (.ref (B + 165 + 4)), some (.int (nI t)), none, none, none, none, none, none, none, none, none, none, none, none, none, none, none, none, none, none, none] []) : xX k0 N a b (wput E (cput E σ B VV (nI p) (nI z) (nI n) tx) (B + 165) Q R) 269 [some (.ref bb), some (.ref B), some (.ref (B + 165)), some (.ref (B + 165 + 1)), some (.ref (B + 165 + 2)), some (.ref (B + 165 + 3)), some (.ref (B + 165 + 4)), some (.int (nI t)), some (.int X), some (.int Y), some (.int (nI 4)), some (.int (nI who)), some (.int (nI other)), some (.int (nI m)), some (.int (nI w)), some (.int (xb (VV 0 10 who = 1))), some (.int (xb (VV 0 10 who = 1 ∧ VV 0 10 other = 1))), some (.ref (B + 165 + 1 + who)), some (.ref (B + 165 + 1 + other)), none, none, none, none, none, none, none, none] [] := by
  have hx : lwN2 (Y >>> (3 &&& 31)) 100 < 100 := lw_lt (by decide)
  refine x_iload C dL_law_269 rfl ?_
  refine x_if_ne C 338 dL_law_271 (by decide) (fun _ => ?_) (fun h => absurd h (by decide))
  refine x_iload C dL_law_338 rfl ?_
  refine x_iconst (v := 1) C dL_law_340 (by decide) ?_
  refine x_ic_ne C 451 dL_law_341 (by decide) (fun _ => ?_) (fun h => absurd h (by decide))
  refine x_iload C dL_law_451 rfl ?_
  refine x_iconst (v := 2) C dL_law_453 (by decide) ?_
  refine x_ic_ne C 563 dL_law_454 (by decide) (fun _ => ?_) (fun h => absurd h (by decide))
  refine x_iload C dL_law_563 rfl ?_
  refine x_iconst (v := 3) C dL_law_565 (by decide) ?_
  refine x_ic_ne C 600 dL_law_566 (by decide) (fun _ => ?_) (fun h => absurd h (by decide))
  refine x_iload C dL_law_600 rfl ?_
  refine x_iconst (v := 4) C dL_law_602 (by decide) ?_
  refine x_ic_ne C 667 dL_law_603 (by decide) (fun h => absurd rfl h) (fun _ => ?_)
  refine x_iload C dL_law_606 rfl ?_
  refine x_iconst (v := 3) C dL_law_608 (by decide) ?_
  refine x_ishr C dL_law_609 ?_
  refine x_bipush (v := 100) C dL_law_610 (by decide) ?_
  refine x_callS C (c_L_low _ (n := 100) (by omega) (by omega)) ks_L_low kl_L_79 dL_law_612 rfl rfl rfl rfl (Nat.le_of_ble_eq_true rfl) (Nat.le_of_ble_eq_true rfl) (Nat.le_of_ble_eq_true rfl) (by omega) (by omega) ?_
  refine x_istore C dL_law_615 (by decide) rfl ?_
  generalize lwN2 (Y >>> (3 &&& 31)) 100 = x at hx ⊢
  by_cases hp : VV 0 10 who = 1
  · refine x_aload_n C dL_law_617 rfl ?_
    refine x_iload C dL_law_618 rfl ?_
    refine x_iload C dL_law_620 rfl ?_
    refine x_callV C (c_X4_setAge_ok hp6 hz (by omega) hp (x := nI x) (nI_pos (by omega)) (show ¬ nI 99 < nI x from nI_nlt (by omega) (by decide))) kv_X4_setAge kl_L_96 dL_law_622 wput_0 wput_cs wput_cs.symm rfl rfl (Nat.le_of_ble_eq_true rfl) (Nat.le_of_ble_eq_true rfl) (Nat.le_of_ble_eq_true rfl) (by omega) (by omega) ?_
    refine x_iload C dL_law_625 rfl ?_
    refine x_beq C 640 dL_law_627 (by decide) (fun h => absurd hp h) (fun _ => ?_)
    refine x_aload_n C dL_law_630 rfl ?_
    refine x_bipush (v := 9) C dL_law_631 (by decide) ?_
    refine x_iload C dL_law_633 rfl ?_
    refine x_iadd C dL_law_635 ?_
    refine x_iald2 C wput_q (ix9 who) (by omega) (by decide) dL_law_636 ?_
    refine x_goto C 641 dL_law_637 (by decide) ?_
    refine x_ic_eq C 646 dL_law_641 (by decide) (fun _ => ?_) (fun h => absurd ((H.sr hw4).is hp).2.1.symm h)
    refine x_aload_n C dL_law_646 rfl ?_
    refine x_bipush (v := 9) C dL_law_647 (by decide) ?_
    refine x_iload C dL_law_649 rfl ?_
    refine x_iadd C dL_law_651 ?_
    refine x_iload C dL_law_652 rfl ?_
    refine x_beq C 662 dL_law_654 (by decide) (fun h => absurd hp h) (fun _ => ?_)
    refine x_iload C dL_law_657 rfl ?_
    refine x_goto C 663 dL_law_659 (by decide) ?_
    refine x_iast2 C wput_q (ix9 who) (by omega) (by decide) (fun _ _ => rfl) wput_uq dL_law_663 ?_
    refine x_goto C 1333 dL_law_664 (by decide) ?_
    refine xX.cl (J1 _ _ _ _ _ md6 mn6 (by rw [kp_0]; exact LR_setAge H hw4 hp (by omega))) rfl (And.intro rfl (And.intro rfl (And.intro rfl (And.intro rfl (And.intro rfl (And.intro rfl (And.intro rfl (And.intro rfl trivial)))))))) rfl
  · refine x_aload_n C dL_law_617 rfl ?_
    refine x_iload C dL_law_618 rfl ?_
    refine x_iload C dL_law_620 rfl ?_
    refine x_callV C (c_X4_setAge_no (no_k (by omega) hp)) kv_X4_setAge kl_L_96 dL_law_622 wput_0 wput_cs wput_cs.symm rfl rfl (Nat.le_of_ble_eq_true rfl) (Nat.le_of_ble_eq_true rfl) (Nat.le_of_ble_eq_true rfl) (by omega) (by omega) ?_
    refine x_iload C dL_law_625 rfl ?_
    refine x_beq C 640 dL_law_627 (by decide) (fun _ => ?_) (fun h => absurd h hp)
    refine x_iconst (v := (-1)) C dL_law_640 (by decide) ?_
    refine x_ic_eq C 646 dL_law_641 (by decide) (fun _ => ?_) (fun h => absurd rfl h)
    refine x_aload_n C dL_law_646 rfl ?_
    refine x_bipush (v := 9) C dL_law_647 (by decide) ?_
    refine x_iload C dL_law_649 rfl ?_
    refine x_iadd C dL_law_651 ?_
    refine x_iload C dL_law_652 rfl ?_
    refine x_beq C 662 dL_law_654 (by decide) (fun _ => ?_) (fun h => absurd h hp)
    refine x_iconst (v := (-1)) C dL_law_662 (by decide) ?_
    refine x_iast2 C wput_q (ix9 who) (by omega) (by decide) (fun _ _ => rfl) wput_uq dL_law_663 ?_
    refine x_goto C 1333 dL_law_664 (by decide) ?_
    refine xX.cl (J1 _ _ _ _ _ hp6 hz (by rw [upd_e ((H.sr hw4).no hp).1]; exact H)) rfl (And.intro rfl (And.intro rfl (And.intro rfl (And.intro rfl (And.intro rfl (And.intro rfl (And.intro rfl (And.intro rfl trivial)))))))) rfl
set_option maxRecDepth 100000 in
set_option maxHeartbeats 4000000 in
theorem la_teach {k0 : xT} {l : Launch} {E : xEnv} {B N a b bb t : Nat} {mn : String} {σ : Sg} {VV : Cs} {p z n : Nat} {tx : Fn} {Q : Fn} {R : Nat → Fn} {X Y : Int32} {who other m w kd : Nat} (C : xC k0 l E B cL_law 27 ret RL mn 9 352 600000 7302250) (ha : a ≤ 600000) (hb : b ≤ 7302250) (hp6 : p < 6) (hz : z ≤ 6) (H : LR (VV 0) Q R 99 0 0) (hw4 : who < 4) (ho4 : other < 4) (hm : m < 6) (hw : w < 10) (hk1 : 5 ≤ kd) (hk2 : kd < 10) (J1 : ∀ (VV : Cs) (p z : Nat) (Q : Fn) (R : Nat → Fn), p < 6 → z ≤ 6 → LR (VV 0) Q R 99 0 0 → xX k0 N a b (wput E (cput E σ B VV (nI p) (nI z) (nI n) tx) (B + 165) Q R) 1333 [some (.ref bb), some (.ref B), some (.ref (B + 165)), some (.ref (B + 165 + 1)), some (.ref (B + 165 + 2)), some (.ref (B + 165 + 3)), some (.ref (B + 165 + 4)), some (.int (nI t)), none, none, none, none, none, none, none, none, none, none, none, none, none, none, none, none, none, none, none] []) (J2 : xX k0 N a b (wput E (cput E σ B VV (nI p) (nI z) (nI n) tx) (B + 165) Q R) 1350 [some (.ref bb), some (.ref B), some (.ref (B + 165)), some (.ref (B + 165 + 1)), some (.ref (B + 165 + 2)), some (.ref (B + 165 + 3)), some (.ref (B + 165 + 4)), some (.int (nI t)), none, none, none, none, none, none, none, none, none, none, none, none, none, none, none, none, none, none, none] []) : xX k0 N a b (wput E (cput E σ B VV (nI p) (nI z) (nI n) tx) (B + 165) Q R) 269 [some (.ref bb), some (.ref B), some (.ref (B + 165)), some (.ref (B + 165 + 1)), some (.ref (B + 165 + 2)), some (.ref (B + 165 + 3)), some (.ref (B + 165 + 4)), some (.int (nI t)), some (.int X), some (.int Y), some (.int (nI kd)), some (.int (nI who)), some (.int (nI other)), some (.int (nI m)), some (.int (nI w)), some (.int (xb (VV 0 10 who = 1))), some (.int (xb (VV 0 10 who = 1 ∧ VV 0 10 other = 1))), some (.ref (B + 165 + 1 + who)), some (.ref (B + 165 + 1 + other)), none, none, none, none, none, none, none, none] [] := by
  have hx : (if lwN2 (X >>> (6 &&& 31)) 3 = 0 then lwN2 (X >>> (8 &&& 31)) 100 else lwN2 (X >>> (8 &&& 31)) 12) < 100 := by
    split
    · exact lw_lt (by decide)
    · exact Nat.lt_trans (lw_lt (n := 12) (by decide)) (by decide)
  refine x_iload C dL_law_269 rfl ?_
  refine x_if_ne C 338 dL_law_271 (by decide) (fun _ => ?_) (fun h => absurd h (nI_neL (b := 0) (by omega) (by decide) (by omega)))
  refine x_iload C dL_law_338 rfl ?_
  refine x_iconst (v := 1) C dL_law_340 (by decide) ?_
  refine x_ic_ne C 451 dL_law_341 (by decide) (fun _ => ?_) (fun h => absurd h (nI_neL (b := 1) (by omega) (by decide) (by omega)))
  refine x_iload C dL_law_451 rfl ?_
  refine x_iconst (v := 2) C dL_law_453 (by decide) ?_
  refine x_ic_ne C 563 dL_law_454 (by decide) (fun _ => ?_) (fun h => absurd h (nI_neL (b := 2) (by omega) (by decide) (by omega)))
  refine x_iload C dL_law_563 rfl ?_
  refine x_iconst (v := 3) C dL_law_565 (by decide) ?_
  refine x_ic_ne C 600 dL_law_566 (by decide) (fun _ => ?_) (fun h => absurd h (nI_neL (b := 3) (by omega) (by decide) (by omega)))
  refine x_iload C dL_law_600 rfl ?_
  refine x_iconst (v := 4) C dL_law_602 (by decide) ?_
  refine x_ic_ne C 667 dL_law_603 (by decide) (fun _ => ?_) (fun h => absurd h (nI_neL (b := 4) (by omega) (by decide) (by omega)))
  refine x_iload C dL_law_667 rfl ?_
  refine x_bipush (v := 10) C dL_law_669 (by decide) ?_
  refine x_ic_ge C 773 dL_law_671 (by decide) (fun h => absurd h (nI_ge (b := 10) (by omega) (by decide))) (fun _ => ?_)
  refine xX.mrg 709 (nI (if lwN2 (X >>> (6 &&& 31)) 3 = 0 then lwN2 (X >>> (8 &&& 31)) 100 else lwN2 (X >>> (8 &&& 31)) 12)) (fun hk709 => ?_) ?_
  · refine x_iload C dL_law_674 rfl ?_
    refine x_bipush (v := 6) C dL_law_676 (by decide) ?_
    refine x_ishr C dL_law_678 ?_
    refine x_iconst (v := 3) C dL_law_679 (by decide) ?_
    refine x_callS C (c_L_low _ (n := 3) (by omega) (by omega)) ks_L_low kl_L_79 dL_law_680 rfl rfl rfl rfl (Nat.le_of_ble_eq_true rfl) (Nat.le_of_ble_eq_true rfl) (Nat.le_of_ble_eq_true rfl) (by omega) (by omega) ?_
    refine x_if_ne C 699 dL_law_683 (by decide) (fun h683 => ?_) (fun h683 => ?_)
    · refine x_iload C dL_law_699 rfl ?_
      refine x_bipush (v := 8) C dL_law_701 (by decide) ?_
      refine x_ishr C dL_law_703 ?_
      refine x_bipush (v := 12) C dL_law_704 (by decide) ?_
      refine x_callS C (c_L_low _ (n := 12) (by omega) (by omega)) ks_L_low kl_L_79 dL_law_706 rfl rfl rfl rfl (Nat.le_of_ble_eq_true rfl) (Nat.le_of_ble_eq_true rfl) (Nat.le_of_ble_eq_true rfl) (by omega) (by omega) ?_
      exact xX.vl hk709 (congrArg nI (if_neg (fun z => h683 (congrArg nI z))))
    · refine x_iload C dL_law_686 rfl ?_
      refine x_bipush (v := 8) C dL_law_688 (by decide) ?_
      refine x_ishr C dL_law_690 ?_
      refine x_bipush (v := 100) C dL_law_691 (by decide) ?_
      refine x_callS C (c_L_low _ (n := 100) (by omega) (by omega)) ks_L_low kl_L_79 dL_law_693 rfl rfl rfl rfl (Nat.le_of_ble_eq_true rfl) (Nat.le_of_ble_eq_true rfl) (Nat.le_of_ble_eq_true rfl) (by omega) (by omega) ?_
      refine x_goto C 709 dL_law_696 (by decide) ?_
      exact xX.vl hk709 (congrArg nI (if_pos ((nI_eq (b := 0) (by have := lw_lt (x := X >>> (6 &&& 31)) (n := 3) (by decide); omega) (by decide)).mp h683)))
  refine x_istore C dL_law_709 (by decide) rfl ?_
  generalize (if lwN2 (X >>> (6 &&& 31)) 3 = 0 then lwN2 (X >>> (8 &&& 31)) 100 else lwN2 (X >>> (8 &&& 31)) 12) = x at hx ⊢
  by_cases hp : VV 0 10 who = 1
  · refine x_aload_n C dL_law_711 rfl ?_
    refine x_iload C dL_law_712 rfl ?_
    refine x_iload C dL_law_714 rfl ?_
    refine x_iload C dL_law_716 rfl ?_
    refine x_iload C dL_law_718 rfl ?_
    refine x_callV C (c_X4_teach_ok hp6 hz (by omega) hp hm (by omega) (x := nI x) (nI_pos (by omega)) (show ¬ nI 99 < nI x from nI_nlt (by omega) (by decide))) kv_X4_teach kl_L_99 dL_law_720 wput_0 wput_cs wput_cs.symm rfl rfl (Nat.le_of_ble_eq_true rfl) (Nat.le_of_ble_eq_true rfl) (Nat.le_of_ble_eq_true rfl) (by omega) (by omega) ?_
    refine x_iload C dL_law_723 rfl ?_
    refine x_beq C 742 dL_law_725 (by decide) (fun h => absurd hp h) (fun _ => ?_)
    refine x_aload C dL_law_728 rfl ?_
    refine x_bipush (v := 10) C dL_law_730 (by decide) ?_
    refine x_iload C dL_law_732 rfl ?_
    refine x_imul C dL_law_734 ?_
    refine x_iload C dL_law_735 rfl ?_
    refine x_iadd C dL_law_737 ?_
    refine x_iald2 C (wput_r hw4) (ix10 m w) (by omega) (by decide) dL_law_738 ?_
    refine x_goto C 743 dL_law_739 (by decide) ?_
    refine x_ic_eq C 748 dL_law_743 (by decide) (fun _ => ?_) (fun h => absurd ((H.row hw4 hp).1 m w hm hw).symm h)
    refine x_aload C dL_law_748 rfl ?_
    refine x_bipush (v := 10) C dL_law_750 (by decide) ?_
    refine x_iload C dL_law_752 rfl ?_
    refine x_imul C dL_law_754 ?_
    refine x_iload C dL_law_755 rfl ?_
    refine x_iadd C dL_law_757 ?_
    refine x_iload C dL_law_758 rfl ?_
    refine x_beq C 768 dL_law_760 (by decide) (fun h => absurd hp h) (fun _ => ?_)
    refine x_iload C dL_law_763 rfl ?_
    refine x_goto C 769 dL_law_765 (by decide) ?_
    refine x_iast2 C (wput_r hw4) (ix10 m w) (by omega) (by decide) (fun _ _ => rfl) (wput_ur hw4) dL_law_769 ?_
    refine x_goto C 1333 dL_law_770 (by decide) ?_
    refine xX.cl (J1 _ _ _ _ _ md6 mn6 (by rw [kp_0, cl_nI (by omega)]; exact LR_teach H hw4 hp hm hw (by omega))) rfl (And.intro rfl (And.intro rfl (And.intro rfl (And.intro rfl (And.intro rfl (And.intro rfl (And.intro rfl (And.intro rfl trivial)))))))) rfl
  · refine x_aload_n C dL_law_711 rfl ?_
    refine x_iload C dL_law_712 rfl ?_
    refine x_iload C dL_law_714 rfl ?_
    refine x_iload C dL_law_716 rfl ?_
    refine x_iload C dL_law_718 rfl ?_
    refine x_callV C (c_X4_teach_n1 (no_k (by omega) hp)) kv_X4_teach kl_L_99 dL_law_720 wput_0 wput_cs wput_cs.symm rfl rfl (Nat.le_of_ble_eq_true rfl) (Nat.le_of_ble_eq_true rfl) (Nat.le_of_ble_eq_true rfl) (by omega) (by omega) ?_
    refine x_iload C dL_law_723 rfl ?_
    refine x_beq C 742 dL_law_725 (by decide) (fun _ => ?_) (fun h => absurd h hp)
    refine x_iconst (v := (-1)) C dL_law_742 (by decide) ?_
    refine x_ic_eq C 748 dL_law_743 (by decide) (fun _ => ?_) (fun h => absurd rfl h)
    refine x_aload C dL_law_748 rfl ?_
    refine x_bipush (v := 10) C dL_law_750 (by decide) ?_
    refine x_iload C dL_law_752 rfl ?_
    refine x_imul C dL_law_754 ?_
    refine x_iload C dL_law_755 rfl ?_
    refine x_iadd C dL_law_757 ?_
    refine x_iload C dL_law_758 rfl ?_
    refine x_beq C 768 dL_law_760 (by decide) (fun _ => ?_) (fun h => absurd h hp)
    refine x_iconst (v := 0) C dL_law_768 (by decide) ?_
    refine x_iast2 C (wput_r hw4) (ix10 m w) (by omega) (by decide) (fun _ _ => rfl) (wput_ur hw4) dL_law_769 ?_
    refine x_goto C 1333 dL_law_770 (by decide) ?_
    refine xX.cl (J1 _ _ _ _ _ hp6 hz (LR_abs H hw4 hp (fun _ _ => rfl) ((H.sr hw4).no hp).1 (fun j hj => by by_cases ej : j = 10 * m + w; (rw [ej, pk_us]); (rw [pk_un ej]; exact ((H.sr hw4).no hp).2 j hj)))) rfl (And.intro rfl (And.intro rfl (And.intro rfl (And.intro rfl (And.intro rfl (And.intro rfl (And.intro rfl (And.intro rfl trivial)))))))) rfl
