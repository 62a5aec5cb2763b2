/-! years pass in the law's village -/
theorem LR.old {W : Vs} {Q : Fn} {R : Nat → Fn} {A k : Nat} {c y : Int32} (H : LR W Q R A c y) (hk : k < 4) : Q 7 < Q (9 + k) ↔ (W 10 k = 1 ∧ ¬ W 11 k ≤ W 8 2) := by
  have q7 : Q 7 = W 8 2 := H.q5 (j := 2) (by decide)
  by_cases hp : W 10 k = 1
  · rw [((H.sr hk).is hp).2.1, q7]
    exact ⟨fun z => ⟨hp, Int32.not_le.mpr z⟩, fun z => Int32.not_le.mp z.2⟩
  · obtain ⟨-, l, hl, el⟩ := H.2.1
    rw [((H.sr hk).no hp).1, q7, el]
    exact ⟨fun z => absurd (Int32.lt_trans z (show (-1 : Int32) < 0 by decide)) (nI_pos (by omega)), fun z => absurd z.1 hp⟩
theorem born_e {a b c q q0 : Int32} (h : q + c = a) (h2 : q0 + 0 = b) (e : q = q0) : a - b = c := by
  subst h; subst h2; subst e
  rw [Int32.add_zero, Int32.add_comm, Int32.add_sub_cancel]
theorem ix1 (a : Nat) : 1 + nI a = nI (1 + a) := by
  rw [show (1 : Int32) = nI 1 from rfl, nI_add]
def tI (o : Option Nat) : Int32 := match o with
  | none => -1
  | some b => nI b
def agV (V : Vs) : Vs := agL (up2 V 9 4 (V 9 4 + 1)) 8
theorem yrL_n {V : Vs} {i : Nat} : yrL V (i + 1) = byL (agV (yrL V i)) 8 := by
  rw [yrL, yrS, agV]
theorem yr_next {V : Vs} {i : Nat} {Q : Fn} {R : Nat → Fn} {c y : Int32} (H : LR (byL (agV (yrL V i)) 4) Q R 100 c y) (ok : okA (byL (agV (yrL V i)) 4) 4) : LR (yrL V (i + 1)) Q R 99 c y := by
  rw [yrL_n, byL_48 rfl H]
  exact LR_99 H ok
theorem LR_agV {V : Vs} {Q : Fn} {R : Nat → Fn} {c y : Int32} (H : LR V Q R 99 c y) : LR (byL (agV V) 0) (agQ Q 4) R 100 c (y + 1) := by
  rw [byL, agV]
  exact LR_ag H
theorem byL_n {X : Vs} {k : Nat} : byL X (k + 1) = byK (byL X k) k := by rw [byL]
set_option maxRecDepth 100000 in
set_option maxHeartbeats 4000000 in
theorem la_years {k0 : xT} {l : Launch} {E : xEnv} {B N a b bb t : Nat} {mn : String} {σ : Sg} {VV : Cs} {p z n : Nat} {tx : Fn} {Q : Fn} {R : Nat → Fn} {X Y : Int32} {who other m w kd : Nat} (C : xC k0 l E B cL_law 27 ret RL mn 9 352 600000 7302250) (ha : a ≤ 600000) (hb : b ≤ 7302250) (hp6 : p < 6) (hz : z ≤ 6) (H : LR (VV 0) Q R 99 0 0) (hw4 : who < 4) (ho4 : other < 4) (hm : m < 6) (hw : w < 10) (hk1 : 19 ≤ kd) (hk2 : kd < 22) (J1 : ∀ (VV : Cs) (p z : Nat) (Q : Fn) (R : Nat → Fn), p < 6 → z ≤ 6 → LR (VV 0) Q R 99 0 0 → xX k0 N a b (wput E (cput E σ B VV (nI p) (nI z) (nI n) tx) (B + 165) Q R) 1333 [some (.ref bb), some (.ref B), some (.ref (B + 165)), some (.ref (B + 165 + 1)), some (.ref (B + 165 + 2)), some (.ref (B + 165 + 3)), some (.ref (B + 165 + 4)), some (.int (nI t)), none, none, none, none, none, none, none, none, none, none, none, none, none, none, none, none, none, none, none] []) : xX k0 N a b (wput E (cput E σ B VV (nI p) (nI z) (nI n) tx) (B + 165) Q R) 269 [some (.ref bb), some (.ref B), some (.ref (B + 165)), some (.ref (B + 165 + 1)), some (.ref (B + 165 + 2)), some (.ref (B + 165 + 3)), some (.ref (B + 165 + 4)), some (.int (nI t)), some (.int X), some (.int Y), some (.int (nI kd)), some (.int (nI who)), some (.int (nI other)), some (.int (nI m)), some (.int (nI w)), some (.int (xb (VV 0 10 who = 1))), some (.int (xb (VV 0 10 who = 1 ∧ VV 0 10 other = 1))), some (.ref (B + 165 + 1 + who)), some (.ref (B + 165 + 1 + other)), none, none, none, none, none, none, none, none] [] := by
  have hnb : 0 < (if lwN2 (X >>> (6 &&& 31)) 3 = 0 then 99 else 12) ∧ (if lwN2 (X >>> (6 &&& 31)) 3 = 0 then 99 else 12) ≤ 99 := by split <;> decide
  refine x_iload C dL_law_269 rfl ?_
  refine x_if_ne C 338 dL_law_271 (by decide) (fun _ => ?_) (fun h => absurd h (nI_neL (b := 0) (by omega) (by decide) (by omega)))
  refine x_iload C dL_law_338 rfl ?_
  refine x_iconst (v := 1) C dL_law_340 (by decide) ?_
  refine x_ic_ne C 451 dL_law_341 (by decide) (fun _ => ?_) (fun h => absurd h (nI_neL (b := 1) (by omega) (by decide) (by omega)))
  refine x_iload C dL_law_451 rfl ?_
  refine x_iconst (v := 2) C dL_law_453 (by decide) ?_
  refine x_ic_ne C 563 dL_law_454 (by decide) (fun _ => ?_) (fun h => absurd h (nI_neL (b := 2) (by omega) (by decide) (by omega)))
  refine x_iload C dL_law_563 rfl ?_
  refine x_iconst (v := 3) C dL_law_565 (by decide) ?_
  refine x_ic_ne C 600 dL_law_566 (by decide) (fun _ => ?_) (fun h => absurd h (nI_neL (b := 3) (by omega) (by decide) (by omega)))
  refine x_iload C dL_law_600 rfl ?_
  refine x_iconst (v := 4) C dL_law_602 (by decide) ?_
  refine x_ic_ne C 667 dL_law_603 (by decide) (fun _ => ?_) (fun h => absurd h (nI_neL (b := 4) (by omega) (by decide) (by omega)))
  refine x_iload C dL_law_667 rfl ?_
  refine x_bipush (v := 10) C dL_law_669 (by decide) ?_
  refine x_ic_ge C 773 dL_law_671 (by decide) (fun _ => ?_) (fun h => absurd (nI_le (a := 10) (by omega) (by omega)) h)
  refine x_iload C dL_law_773 rfl ?_
  refine x_bipush (v := 19) C dL_law_775 (by decide) ?_
  refine x_ic_ge C 1011 dL_law_777 (by decide) (fun _ => ?_) (fun h => absurd (nI_le (a := 19) (by omega) (by omega)) h)
  refine x_iconst (v := 1) C dL_law_1011 (by decide) ?_
  refine x_iload C dL_law_1012 rfl ?_
  refine xX.mrg 1033 (nI (if lwN2 (X >>> (6 &&& 31)) 3 = 0 then 99 else 12)) (fun hk1033 => ?_) ?_
  · refine x_iload C dL_law_1014 rfl ?_
    refine x_bipush (v := 6) C dL_law_1016 (by decide) ?_
    refine x_ishr C dL_law_1018 ?_
    refine x_iconst (v := 3) C dL_law_1019 (by decide) ?_
    refine x_callS C (c_L_low _ (n := 3) (by omega) (by omega)) ks_L_low kl_L_79 dL_law_1020 rfl rfl rfl rfl (Nat.le_of_ble_eq_true rfl) (Nat.le_of_ble_eq_true rfl) (Nat.le_of_ble_eq_true rfl) (by omega) (by omega) ?_
    refine x_if_ne C 1031 dL_law_1023 (by decide) (fun h1023 => ?_) (fun h1023 => ?_)
    · refine x_bipush (v := 12) C dL_law_1031 (by decide) ?_
      exact xX.vl hk1033 (congrArg nI (if_neg (fun z => h1023 (congrArg nI z))))
    · refine x_bipush (v := 99) C dL_law_1026 (by decide) ?_
      refine x_goto C 1033 dL_law_1028 (by decide) ?_
      exact xX.vl hk1033 (congrArg nI (if_pos ((nI_eq (b := 0) (by have := lw_lt (x := X >>> (6 &&& 31)) (n := 3) (by decide); omega) (by decide)).mp h1023)))
  refine x_callS C (c_L_low Y (n := (if lwN2 (X >>> (6 &&& 31)) 3 = 0 then 99 else 12)) hnb.1 (Nat.lt_of_le_of_lt hnb.2 (by decide))) ks_L_low kl_L_79 dL_law_1033 rfl rfl rfl rfl (Nat.le_of_ble_eq_true rfl) (Nat.le_of_ble_eq_true rfl) (Nat.le_of_ble_eq_true rfl) (by omega) (by omega) ?_
  refine x_iadd C dL_law_1036 ?_
  rw [ix1]
  have hy1 : 1 ≤ 1 + lwN2 Y (if lwN2 (X >>> (6 &&& 31)) 3 = 0 then 99 else 12) := by omega
  have hy2 : 1 + lwN2 Y (if lwN2 (X >>> (6 &&& 31)) 3 = 0 then 99 else 12) ≤ 99 := by have := lw_lt (x := Y) hnb.1; omega
  generalize 1 + lwN2 Y (if lwN2 (X >>> (6 &&& 31)) 3 = 0 then 99 else 12) = yr at hy1 hy2 ⊢
  have hl : ∀ i, i ≤ yr → ∀ (Q2 : Fn) (R2 : Nat → Fn) (c : Int32), LR (yrL (VV 0) i) Q2 R2 99 c (nI i) → Q2 3 = Q 3 → Q2 4 = Q 4 → xX k0 N a b (wput E (cput E σ B VV (nI p) (nI z) (nI n) tx) (B + 165) Q2 R2) 1045 [some (.ref bb), some (.ref B), some (.ref (B + 165)), some (.ref (B + 165 + 1)), some (.ref (B + 165 + 2)), some (.ref (B + 165 + 3)), some (.ref (B + 165 + 4)), some (.int (nI t)), some (.int X), some (.int Y), some (.int (nI kd)), some (.int (nI who)), some (.int (nI other)), some (.int (nI m)), some (.int (nI w)), some (.int (xb (VV 0 10 who = 1))), some (.int (xb (VV 0 10 who = 1 ∧ VV 0 10 other = 1))), some (.ref (B + 165 + 1 + who)), some (.ref (B + 165 + 1 + other)), some (.int (nI yr)), some (.int c), some (.int (nI i)), none, none, none, none, none] [] := by
    refine x_for yr ?_ ?_
    · intro Q2 R2 c H2 e3 e4
      refine x_iload C dL_law_1045 rfl ?_
      refine x_iload C dL_law_1047 rfl ?_
      refine x_ic_ge C 1304 dL_law_1049 (by decide) (fun _ => ?_) (fun h => absurd (nI_le (a := yr) (Nat.le_refl _) (by omega)) h)
      refine x_aload_n C dL_law_1304 rfl ?_
      refine x_iconst (v := 3) C dL_law_1305 (by decide) ?_
      refine x_dup2 C dL_law_1306 rfl rfl ?_
      refine x_iald2 C wput_q (show (3 : Int32) = nI 3 from rfl) (by decide) (by decide) dL_law_1307 ?_
      refine x_iload C dL_law_1308 rfl ?_
      refine x_iadd C dL_law_1310 ?_
      refine x_iast2 C wput_q (show (3 : Int32) = nI 3 from rfl) (by decide) (by decide) (fun _ _ => rfl) wput_uq dL_law_1311 ?_
      refine x_aload_n C dL_law_1312 rfl ?_
      refine x_iconst (v := 4) C dL_law_1313 (by decide) ?_
      refine x_dup2 C dL_law_1314 rfl rfl ?_
      refine x_iald2 C wput_q (show (4 : Int32) = nI 4 from rfl) (by decide) (by decide) dL_law_1315 ?_
      rw [pk_un (show 4 ≠ 3 by decide)]
      refine x_iload C dL_law_1316 rfl ?_
      refine x_iadd C dL_law_1318 ?_
      refine x_iast2 C wput_q (show (4 : Int32) = nI 4 from rfl) (by decide) (by decide) (fun _ _ => rfl) wput_uq dL_law_1319 ?_
      refine x_aload_n C dL_law_1320 rfl ?_
      refine x_iload C dL_law_1321 rfl ?_
      refine x_callV C (c_X4_age_ok hp6 hz (q := yr) hy1 hy2) kv_X4_age kl_L_112 dL_law_1323 wput_0 wput_cs wput_cs.symm rfl rfl (Nat.le_of_ble_eq_true rfl) (Nat.le_of_ble_eq_true rfl) (Nat.le_of_ble_eq_true rfl) (by omega) (by omega) ?_
      refine x_iload C dL_law_1326 rfl ?_
      refine x_ic_eq C 1333 dL_law_1328 (by decide) (fun _ => ?_) (fun h => absurd (born_e H2.2.2.1.2.2.2.1 H.2.2.1.2.2.2.1 e3) h)
      refine xX.cl (J1 _ _ _ _ _ md6 mn6 (by rw [kp_0]; exact LR_fin H2)) rfl (And.intro rfl (And.intro rfl (And.intro rfl (And.intro rfl (And.intro rfl (And.intro rfl (And.intro rfl (And.intro rfl trivial)))))))) rfl
    · intro i hi ih Q2 R2 c H2 e3 e4
      have hB : ∀ k, k ≤ 4 → ∀ (Q3 : Fn) (R3 : Nat → Fn) (c3 : Int32), LR (byL (agV (yrL (VV 0) i)) k) Q3 R3 100 c3 (nI i + 1) → okA (byL (agV (yrL (VV 0) i)) k) k → Q3 3 = Q 3 → Q3 4 = Q 4 → xX k0 N a b (wput E (cput E σ B VV (nI p) (nI z) (nI n) tx) (B + 165) Q3 R3) 1095 [some (.ref bb), some (.ref B), some (.ref (B + 165)), some (.ref (B + 165 + 1)), some (.ref (B + 165 + 2)), some (.ref (B + 165 + 3)), some (.ref (B + 165 + 4)), some (.int (nI t)), some (.int X), some (.int Y), some (.int (nI kd)), some (.int (nI who)), some (.int (nI other)), some (.int (nI m)), some (.int (nI w)), some (.int (xb (VV 0 10 who = 1))), some (.int (xb (VV 0 10 who = 1 ∧ VV 0 10 other = 1))), some (.ref (B + 165 + 1 + who)), some (.ref (B + 165 + 1 + other)), some (.int (nI yr)), some (.int c3), some (.int (nI i)), some (.int (nI k)), none, none, none, none] [] := by
        refine x_for 4 ?_ ?_
        · intro Q3 R3 c3 H3 hok g3 g4
          have H4 : LR (yrL (VV 0) (i + 1)) Q3 R3 99 c3 (nI (i + 1)) := by
            rw [← nI_1]
            exact yr_next H3 hok
          refine x_iload C dL_law_1095 rfl ?_
          refine x_iconst (v := 4) C dL_law_1097 (by decide) ?_
          refine x_ic_ge C 1298 dL_law_1098 (by decide) (fun _ => ?_) (fun h => absurd (nI_le (a := 4) (Nat.le_refl _) (by decide)) h)
          refine x_iinc C dL_law_1298 rfl (nI_inc _) (by decide) rfl ?_
          refine x_goto C 1045 dL_law_1301 (by decide) ?_
          refine xX.cl (ih Q3 R3 c3 H4 g3 g4) rfl (And.intro rfl (And.intro rfl (And.intro rfl (And.intro rfl (And.intro rfl (And.intro rfl (And.intro rfl (And.intro rfl (And.intro rfl (And.intro rfl (And.intro rfl (And.intro rfl (And.intro rfl (And.intro rfl (And.intro rfl (And.intro rfl (And.intro rfl (And.intro rfl (And.intro rfl (And.intro rfl (And.intro rfl (And.intro rfl trivial)))))))))))))))))))))) rfl
        · intro k hk ihB Q3 R3 c3 H3 hok g3 g4
          rw [byL_n] at ihB
          generalize byL (agV (yrL (VV 0) i)) k = W at H3 hok ihB
          have hok2 : okA (byK W k) (k + 1) := okA_s (by omega) H3.2.1.2 hok
          by_cases hc : W 10 k = 1 ∧ ¬ W 11 k ≤ W 8 2
          · have hT : ∀ j, j ≤ 4 → ∀ o, isTe W k j 4 o → xX k0 N a b (wput E (cput E σ B VV (nI p) (nI z) (nI n) tx) (B + 165) Q3 R3) 1124 [some (.ref bb), some (.ref B), some (.ref (B + 165)), some (.ref (B + 165 + 1)), some (.ref (B + 165 + 2)), some (.ref (B + 165 + 3)), some (.ref (B + 165 + 4)), some (.int (nI t)), some (.int X), some (.int Y), some (.int (nI kd)), some (.int (nI who)), some (.int (nI other)), some (.int (nI m)), some (.int (nI w)), some (.int (xb (VV 0 10 who = 1))), some (.int (xb (VV 0 10 who = 1 ∧ VV 0 10 other = 1))), some (.ref (B + 165 + 1 + who)), some (.ref (B + 165 + 1 + other)), some (.int (nI yr)), some (.int c3), some (.int (nI i)), some (.int (nI k)), some (.int (tI o)), some (.int (nI j - 1)), none, none] [] := by
              refine x_down 4 ?_ ?_
              · intro o ho
                have eo : o = teS W k 8 := te_e H3 ho
                refine x_iload C dL_law_1124 rfl ?_
                refine x_if_lt C 1192 dL_law_1126 (by decide) (fun _ => ?_) (fun h => absurd (by decide) h)
                cases o with
                | none =>
                  have hW : ∀ q, q ≤ 60 → xX k0 N a b (wput E (cput E σ B VV (nI p) (nI z) (nI n) tx) (B + 165) Q3 (upR R3 k (tyF R3 k none (Q3 8) q))) 1233 [some (.ref bb), some (.ref B), some (.ref (B + 165)), some (.ref (B + 165 + 1)), some (.ref (B + 165 + 2)), some (.ref (B + 165 + 3)), some (.ref (B + 165 + 4)), some (.int (nI t)), some (.int X), some (.int Y), some (.int (nI kd)), some (.int (nI who)), some (.int (nI other)), some (.int (nI m)), some (.int (nI w)), some (.int (xb (VV 0 10 who = 1))), some (.int (xb (VV 0 10 who = 1 ∧ VV 0 10 other = 1))), some (.ref (B + 165 + 1 + who)), some (.ref (B + 165 + 1 + other)), some (.int (nI yr)), some (.int c3), some (.int (nI i)), some (.int (nI k)), some (.int (tI none)), some (.ref (B + 165 + 1 + k)), some (.ref (B + 165 + 1 + k)), some (.int (nI q))] [] := by
                    refine x_for 60 ?_ ?_
                    · refine x_iload C dL_law_1233 rfl ?_
                      refine x_bipush (v := 60) C dL_law_1235 (by decide) ?_
                      refine x_ic_ge C 1273 dL_law_1237 (by decide) (fun _ => ?_) (fun h => absurd (nI_le (a := 60) (Nat.le_refl _) (by decide)) h)
                      refine x_aload_n C dL_law_1273 rfl ?_
                      refine x_bipush (v := 9) C dL_law_1274 (by decide) ?_
                      refine x_iload C dL_law_1276 rfl ?_
                      refine x_iadd C dL_law_1278 ?_
                      refine x_iconst (v := 0) C dL_law_1279 (by decide) ?_
                      refine x_iast2 C wput_q (ix9 k) (by omega) (by decide) (fun _ _ => rfl) wput_uq dL_law_1280 ?_
                      refine x_aload_n C dL_law_1281 rfl ?_
                      refine x_bipush (v := 13) C dL_law_1282 (by decide) ?_
                      refine x_iload C dL_law_1284 rfl ?_
                      refine x_iadd C dL_law_1286 ?_
                      refine x_iconst (v := 0) C dL_law_1287 (by decide) ?_
                      refine x_iast2 C wput_q (ix13 k) (by omega) (by decide) (fun _ _ => rfl) wput_uq dL_law_1288 ?_
                      refine x_iinc C dL_law_1289 rfl (inc1 c3) (by decide) rfl ?_
                      refine x_iinc C dL_law_1292 rfl (nI_inc _) (by decide) rfl ?_
                      refine x_goto C 1095 dL_law_1295 (by decide) ?_
                      refine xX.cl (ihB _ _ (c3 + 1) (LR_by H3 hk hc (g := tyF R3 k none (Q3 8) 60) (fun j hj => by rw [← eo]; exact if_pos hj)) hok2 (by rw [pk_un (by omega), pk_un (by omega)]; exact g3) (by rw [pk_un (by omega), pk_un (by omega)]; exact g4)) rfl (And.intro rfl (And.intro rfl (And.intro rfl (And.intro rfl (And.intro rfl (And.intro rfl (And.intro rfl (And.intro rfl (And.intro rfl (And.intro rfl (And.intro rfl (And.intro rfl (And.intro rfl (And.intro rfl (And.intro rfl (And.intro rfl (And.intro rfl (And.intro rfl (And.intro rfl (And.intro rfl (And.intro rfl (And.intro rfl (And.intro rfl trivial))))))))))))))))))))))) rfl
                    · intro q hq ihq
                      refine x_iload C dL_law_1233 rfl ?_
                      refine x_bipush (v := 60) C dL_law_1235 (by decide) ?_
                      refine x_ic_ge C 1273 dL_law_1237 (by decide) (fun h => absurd h (nI_ge (b := 60) hq (by decide))) (fun _ => ?_)
                      refine x_aload C dL_law_1240 rfl ?_
                      refine x_iload C dL_law_1242 rfl ?_
                      refine x_iload C dL_law_1244 rfl ?_
                      refine x_if_ge C 1253 dL_law_1246 (by decide) (fun h => absurd h (by decide)) (fun _ => ?_)
                      refine x_iconst (v := 0) C dL_law_1249 (by decide) ?_
                      refine x_goto C 1266 dL_law_1250 (by decide) ?_
                      refine x_iast2 C (wput_r hk) rfl hq (by decide) (fun _ _ => rfl) (wput_ur hk) dL_law_1266 ?_
                      refine x_iinc C dL_law_1267 rfl (nI_inc _) (by decide) rfl ?_
                      refine x_goto C 1233 dL_law_1270 (by decide) ?_
                      refine xX.cl (ihq) (wput_sg rfl (by rw [upR_s, upR_u]; exact congrArg (upR R3 k) tyF_s)) (And.intro rfl (And.intro rfl (And.intro rfl (And.intro rfl (And.intro rfl (And.intro rfl (And.intro rfl (And.intro rfl (And.intro rfl (And.intro rfl (And.intro rfl (And.intro rfl (And.intro rfl (And.intro rfl (And.intro rfl (And.intro rfl (And.intro rfl (And.intro rfl (And.intro rfl (And.intro rfl (And.intro rfl (And.intro rfl (And.intro rfl (And.intro rfl (And.intro rfl (And.intro rfl (And.intro rfl trivial))))))))))))))))))))))))))) rfl
                  refine x_iload C dL_law_1192 rfl ?_
                  refine x_aload_n C dL_law_1194 rfl ?_
                  refine x_aload C dL_law_1195 rfl ?_
                  refine x_aload C dL_law_1197 rfl ?_
                  refine x_aload C dL_law_1199 rfl ?_
                  refine x_callS C (c_L_row hk) ks_L_row kl_L_35 dL_law_1201 rfl rfl rfl rfl (Nat.le_of_ble_eq_true rfl) (Nat.le_of_ble_eq_true rfl) (Nat.le_of_ble_eq_true rfl) (by omega) (by omega) ?_
                  refine x_astore C dL_law_1204 (by decide) rfl ?_
                  refine x_iload C dL_law_1206 rfl ?_
                  refine x_if_ge C 1216 dL_law_1208 (by decide) (fun h => absurd h (by decide)) (fun _ => ?_)
                  refine x_aload C dL_law_1211 rfl ?_
                  refine x_goto C 1228 dL_law_1213 (by decide) ?_
                  refine x_astore C dL_law_1228 (by decide) rfl ?_
                  refine x_iconst (v := 0) C dL_law_1230 (by decide) ?_
                  refine x_istore C dL_law_1231 (by decide) rfl ?_
                  refine xX.cl (hW 0 (by omega)) (wput_sg rfl (by rw [tyF_0, upR_e])) (And.intro rfl (And.intro rfl (And.intro rfl (And.intro rfl (And.intro rfl (And.intro rfl (And.intro rfl (And.intro rfl (And.intro rfl (And.intro rfl (And.intro rfl (And.intro rfl (And.intro rfl (And.intro rfl (And.intro rfl (And.intro rfl (And.intro rfl (And.intro rfl (And.intro rfl (And.intro rfl (And.intro rfl (And.intro rfl (And.intro rfl (And.intro rfl (And.intro rfl (And.intro rfl (And.intro rfl trivial))))))))))))))))))))))))))) rfl
                | some b2 =>
                  have hb4 : b2 < 4 := ho.2.1
                  have hbk : b2 ≠ k := ho.2.2.1.1
                  have hW : ∀ q, q ≤ 60 → xX k0 N a b (wput E (cput E σ B VV (nI p) (nI z) (nI n) tx) (B + 165) Q3 (upR R3 k (tyF R3 k (some b2) (Q3 8) q))) 1233 [some (.ref bb), some (.ref B), some (.ref (B + 165)), some (.ref (B + 165 + 1)), some (.ref (B + 165 + 2)), some (.ref (B + 165 + 3)), some (.ref (B + 165 + 4)), some (.int (nI t)), some (.int X), some (.int Y), some (.int (nI kd)), some (.int (nI who)), some (.int (nI other)), some (.int (nI m)), some (.int (nI w)), some (.int (xb (VV 0 10 who = 1))), some (.int (xb (VV 0 10 who = 1 ∧ VV 0 10 other = 1))), some (.ref (B + 165 + 1 + who)), some (.ref (B + 165 + 1 + other)), some (.int (nI yr)), some (.int c3), some (.int (nI i)), some (.int (nI k)), some (.int (tI (some b2))), some (.ref (B + 165 + 1 + k)), some (.ref (B + 165 + 1 + b2)), some (.int (nI q))] [] := by
                    refine x_for 60 ?_ ?_
                    · refine x_iload C dL_law_1233 rfl ?_
                      refine x_bipush (v := 60) C dL_law_1235 (by decide) ?_
                      refine x_ic_ge C 1273 dL_law_1237 (by decide) (fun _ => ?_) (fun h => absurd (nI_le (a := 60) (Nat.le_refl _) (by decide)) h)
                      refine x_aload_n C dL_law_1273 rfl ?_
                      refine x_bipush (v := 9) C dL_law_1274 (by decide) ?_
                      refine x_iload C dL_law_1276 rfl ?_
                      refine x_iadd C dL_law_1278 ?_
                      refine x_iconst (v := 0) C dL_law_1279 (by decide) ?_
                      refine x_iast2 C wput_q (ix9 k) (by omega) (by decide) (fun _ _ => rfl) wput_uq dL_law_1280 ?_
                      refine x_aload_n C dL_law_1281 rfl ?_
                      refine x_bipush (v := 13) C dL_law_1282 (by decide) ?_
                      refine x_iload C dL_law_1284 rfl ?_
                      refine x_iadd C dL_law_1286 ?_
                      refine x_iconst (v := 0) C dL_law_1287 (by decide) ?_
                      refine x_iast2 C wput_q (ix13 k) (by omega) (by decide) (fun _ _ => rfl) wput_uq dL_law_1288 ?_
                      refine x_iinc C dL_law_1289 rfl (inc1 c3) (by decide) rfl ?_
                      refine x_iinc C dL_law_1292 rfl (nI_inc _) (by decide) rfl ?_
                      refine x_goto C 1095 dL_law_1295 (by decide) ?_
                      refine xX.cl (ihB _ _ (c3 + 1) (LR_by H3 hk hc (g := tyF R3 k (some b2) (Q3 8) 60) (fun j hj => by rw [← eo]; exact if_pos hj)) hok2 (by rw [pk_un (by omega), pk_un (by omega)]; exact g3) (by rw [pk_un (by omega), pk_un (by omega)]; exact g4)) rfl (And.intro rfl (And.intro rfl (And.intro rfl (And.intro rfl (And.intro rfl (And.intro rfl (And.intro rfl (And.intro rfl (And.intro rfl (And.intro rfl (And.intro rfl (And.intro rfl (And.intro rfl (And.intro rfl (And.intro rfl (And.intro rfl (And.intro rfl (And.intro rfl (And.intro rfl (And.intro rfl (And.intro rfl (And.intro rfl (And.intro rfl trivial))))))))))))))))))))))) rfl
                    · intro q hq ihq
                      refine x_iload C dL_law_1233 rfl ?_
                      refine x_bipush (v := 60) C dL_law_1235 (by decide) ?_
                      refine x_ic_ge C 1273 dL_law_1237 (by decide) (fun h => absurd h (nI_ge (b := 60) hq (by decide))) (fun _ => ?_)
                      refine x_aload C dL_law_1240 rfl ?_
                      refine x_iload C dL_law_1242 rfl ?_
                      refine x_iload C dL_law_1244 rfl ?_
                      refine x_if_ge C 1253 dL_law_1246 (by decide) (fun _ => ?_) (fun h => absurd (nI_pos' (n := b2) (by omega)) h)
                      refine x_aload C dL_law_1253 rfl ?_
                      refine x_iload C dL_law_1255 rfl ?_
                      refine x_iald2 C (wput_r hb4) rfl hq (by decide) dL_law_1257 ?_
                      rw [upR_n hbk]
                      refine x_aload_n C dL_law_1258 rfl ?_
                      refine x_bipush (v := 8) C dL_law_1259 (by decide) ?_
                      refine x_iald2 C wput_q (show (8 : Int32) = nI 8 from rfl) (by decide) (by decide) dL_law_1261 ?_
                      refine x_imul C dL_law_1262 ?_
                      refine x_bipush (v := 100) C dL_law_1263 (by decide) ?_
                      refine x_idiv C dL_law_1265 (by decide) ?_
                      refine x_iast2 C (wput_r hk) rfl hq (by decide) (fun _ _ => rfl) (wput_ur hk) dL_law_1266 ?_
                      refine x_iinc C dL_law_1267 rfl (nI_inc _) (by decide) rfl ?_
                      refine x_goto C 1233 dL_law_1270 (by decide) ?_
                      refine xX.cl (ihq) (wput_sg rfl (by rw [upR_s, upR_u]; exact congrArg (upR R3 k) tyF_s)) (And.intro rfl (And.intro rfl (And.intro rfl (And.intro rfl (And.intro rfl (And.intro rfl (And.intro rfl (And.intro rfl (And.intro rfl (And.intro rfl (And.intro rfl (And.intro rfl (And.intro rfl (And.intro rfl (And.intro rfl (And.intro rfl (And.intro rfl (And.intro rfl (And.intro rfl (And.intro rfl (And.intro rfl (And.intro rfl (And.intro rfl (And.intro rfl (And.intro rfl (And.intro rfl (And.intro rfl trivial))))))))))))))))))))))))))) rfl
                  refine x_iload C dL_law_1192 rfl ?_
                  refine x_aload_n C dL_law_1194 rfl ?_
                  refine x_aload C dL_law_1195 rfl ?_
                  refine x_aload C dL_law_1197 rfl ?_
                  refine x_aload C dL_law_1199 rfl ?_
                  refine x_callS C (c_L_row hk) ks_L_row kl_L_35 dL_law_1201 rfl rfl rfl rfl (Nat.le_of_ble_eq_true rfl) (Nat.le_of_ble_eq_true rfl) (Nat.le_of_ble_eq_true rfl) (by omega) (by omega) ?_
                  refine x_astore C dL_law_1204 (by decide) rfl ?_
                  refine x_iload C dL_law_1206 rfl ?_
                  refine x_if_ge C 1216 dL_law_1208 (by decide) (fun _ => ?_) (fun h => absurd (nI_pos' (n := b2) (by omega)) h)
                  refine x_iload C dL_law_1216 rfl ?_
                  refine x_aload_n C dL_law_1218 rfl ?_
                  refine x_aload C dL_law_1219 rfl ?_
                  refine x_aload C dL_law_1221 rfl ?_
                  refine x_aload C dL_law_1223 rfl ?_
                  refine x_callS C (c_L_row hb4) ks_L_row kl_L_35 dL_law_1225 rfl rfl rfl rfl (Nat.le_of_ble_eq_true rfl) (Nat.le_of_ble_eq_true rfl) (Nat.le_of_ble_eq_true rfl) (by omega) (by omega) ?_
                  refine x_astore C dL_law_1228 (by decide) rfl ?_
                  refine x_iconst (v := 0) C dL_law_1230 (by decide) ?_
                  refine x_istore C dL_law_1231 (by decide) rfl ?_
                  refine xX.cl (hW 0 (by omega)) (wput_sg rfl (by rw [tyF_0, upR_e])) (And.intro rfl (And.intro rfl (And.intro rfl (And.intro rfl (And.intro rfl (And.intro rfl (And.intro rfl (And.intro rfl (And.intro rfl (And.intro rfl (And.intro rfl (And.intro rfl (And.intro rfl (And.intro rfl (And.intro rfl (And.intro rfl (And.intro rfl (And.intro rfl (And.intro rfl (And.intro rfl (And.intro rfl (And.intro rfl (And.intro rfl (And.intro rfl (And.intro rfl (And.intro rfl (And.intro rfl trivial))))))))))))))))))))))))))) rfl
              · intro j hj ihT o ho
                rw [nI_p1]
                by_cases ejk : j = k
                · refine x_iload C dL_law_1124 rfl ?_
                  refine x_if_lt C 1192 dL_law_1126 (by decide) (fun h => absurd h (nI_pos (by omega))) (fun _ => ?_)
                  refine x_iload C dL_law_1129 rfl ?_
                  refine x_iload C dL_law_1131 rfl ?_
                  refine x_ic_eq C 1186 dL_law_1133 (by decide) (fun _ => ?_) (fun h => absurd (congrArg nI ejk) h)
                  refine x_iinc C dL_law_1186 rfl (nI_m j) (by decide) rfl ?_
                  refine x_goto C 1124 dL_law_1189 (by decide) ?_
                  refine xX.cl (ihT o (isT_dsk (fun z => z.1 ejk) ho)) rfl (And.intro rfl (And.intro rfl (And.intro rfl (And.intro rfl (And.intro rfl (And.intro rfl (And.intro rfl (And.intro rfl (And.intro rfl (And.intro rfl (And.intro rfl (And.intro rfl (And.intro rfl (And.intro rfl (And.intro rfl (And.intro rfl (And.intro rfl (And.intro rfl (And.intro rfl (And.intro rfl (And.intro rfl (And.intro rfl (And.intro rfl (And.intro rfl (And.intro rfl trivial))))))))))))))))))))))))) rfl
                · by_cases hp : W 10 j = 1
                  · have u1 : Q3 (9 + j) = W 11 j := ((H3.sr hj).is hp).2.1
                    by_cases hle : W 11 j ≤ W 8 2
                    · refine x_iload C dL_law_1124 rfl ?_
                      refine x_if_lt C 1192 dL_law_1126 (by decide) (fun h => absurd h (nI_pos (by omega))) (fun _ => ?_)
                      refine x_iload C dL_law_1129 rfl ?_
                      refine x_iload C dL_law_1131 rfl ?_
                      refine x_ic_eq C 1186 dL_law_1133 (by decide) (fun h => absurd h (nI_neL (by omega) (by omega) ejk)) (fun _ => ?_)
                      refine x_aload_n C dL_law_1136 rfl ?_
                      refine x_bipush (v := 9) C dL_law_1137 (by decide) ?_
                      refine x_iload C dL_law_1139 rfl ?_
                      refine x_iadd C dL_law_1141 ?_
                      refine x_iald2 C wput_q (ix9 j) (by omega) (by decide) dL_law_1142 ?_
                      refine x_if_lt C 1186 dL_law_1143 (by decide) (fun h => absurd h (fun z => (H3.neg (by decide) hj).mp z hp)) (fun _ => ?_)
                      refine x_aload_n C dL_law_1146 rfl ?_
                      refine x_bipush (v := 9) C dL_law_1147 (by decide) ?_
                      refine x_iload C dL_law_1149 rfl ?_
                      refine x_iadd C dL_law_1151 ?_
                      refine x_iald2 C wput_q (ix9 j) (by omega) (by decide) dL_law_1152 ?_
                      refine x_aload_n C dL_law_1153 rfl ?_
                      refine x_bipush (v := 7) C dL_law_1154 (by decide) ?_
                      refine x_iald2 C wput_q (show (7 : Int32) = nI 7 from rfl) (by decide) (by decide) dL_law_1156 ?_
                      refine x_ic_gt C 1186 dL_law_1157 (by decide) (fun h => absurd h (fun z => ((H3.old hj).mp z).2 hle)) (fun _ => ?_)
                      refine x_iload C dL_law_1160 rfl ?_
                      cases o with
                      | none =>
                        refine x_if_lt C 1182 dL_law_1162 (by decide) (fun _ => ?_) (fun h => absurd (by decide) h)
                        refine x_iload C dL_law_1182 rfl ?_
                        refine x_istore C dL_law_1184 (by decide) rfl ?_
                        refine x_iinc C dL_law_1186 rfl (nI_m j) (by decide) rfl ?_
                        refine x_goto C 1124 dL_law_1189 (by decide) ?_
                        refine xX.cl (ihT (some j) (isT_dtk ⟨ejk, hp, hle⟩ (by omega) (fun b z => by cases z) ho)) rfl (And.intro rfl (And.intro rfl (And.intro rfl (And.intro rfl (And.intro rfl (And.intro rfl (And.intro rfl (And.intro rfl (And.intro rfl (And.intro rfl (And.intro rfl (And.intro rfl (And.intro rfl (And.intro rfl (And.intro rfl (And.intro rfl (And.intro rfl (And.intro rfl (And.intro rfl (And.intro rfl (And.intro rfl (And.intro rfl (And.intro rfl (And.intro rfl (And.intro rfl trivial))))))))))))))))))))))))) rfl
                      | some b2 =>
                        have hb4 : b2 < 4 := ho.2.1
                        have u2 : Q3 (9 + b2) = W 11 b2 := ((H3.sr hb4).is ho.2.2.1.2.1).2.1
                        refine x_if_lt C 1182 dL_law_1162 (by decide) (fun h => absurd h (nI_pos (n := b2) (by omega))) (fun _ => ?_)
                        refine x_aload_n C dL_law_1165 rfl ?_
                        refine x_bipush (v := 9) C dL_law_1166 (by decide) ?_
                        refine x_iload C dL_law_1168 rfl ?_
                        refine x_iadd C dL_law_1170 ?_
                        refine x_iald2 C wput_q (ix9 j) (by omega) (by decide) dL_law_1171 ?_
                        refine x_aload_n C dL_law_1172 rfl ?_
                        refine x_bipush (v := 9) C dL_law_1173 (by decide) ?_
                        refine x_iload C dL_law_1175 rfl ?_
                        refine x_iadd C dL_law_1177 ?_
                        refine x_iald2 C wput_q (ix9 b2) (by omega) (by decide) dL_law_1178 ?_
                        refine x_ic_gt C 1186 dL_law_1179 (by decide) (fun h1179 => ?_) (fun h1179 => ?_)
                        · rw [u1, u2] at h1179
                          refine x_iinc C dL_law_1186 rfl (nI_m j) (by decide) rfl ?_
                          refine x_goto C 1124 dL_law_1189 (by decide) ?_
                          refine xX.cl (ihT (some b2) (isT_dkp (Int32.lt_iff_toInt_lt.mp h1179) ho)) rfl (And.intro rfl (And.intro rfl (And.intro rfl (And.intro rfl (And.intro rfl (And.intro rfl (And.intro rfl (And.intro rfl (And.intro rfl (And.intro rfl (And.intro rfl (And.intro rfl (And.intro rfl (And.intro rfl (And.intro rfl (And.intro rfl (And.intro rfl (And.intro rfl (And.intro rfl (And.intro rfl (And.intro rfl (And.intro rfl (And.intro rfl (And.intro rfl (And.intro rfl trivial))))))))))))))))))))))))) rfl
                        · rw [u1, u2] at h1179
                          refine x_iload C dL_law_1182 rfl ?_
                          refine x_istore C dL_law_1184 (by decide) rfl ?_
                          refine x_iinc C dL_law_1186 rfl (nI_m j) (by decide) rfl ?_
                          refine x_goto C 1124 dL_law_1189 (by decide) ?_
                          refine xX.cl (ihT (some j) (isT_dtk ⟨ejk, hp, hle⟩ (by omega) (fun b z => by cases z; exact Int32.le_iff_toInt_le.mp (Int32.not_lt.mp h1179)) ho)) rfl (And.intro rfl (And.intro rfl (And.intro rfl (And.intro rfl (And.intro rfl (And.intro rfl (And.intro rfl (And.intro rfl (And.intro rfl (And.intro rfl (And.intro rfl (And.intro rfl (And.intro rfl (And.intro rfl (And.intro rfl (And.intro rfl (And.intro rfl (And.intro rfl (And.intro rfl (And.intro rfl (And.intro rfl (And.intro rfl (And.intro rfl (And.intro rfl (And.intro rfl trivial))))))))))))))))))))))))) rfl
                    · refine x_iload C dL_law_1124 rfl ?_
                      refine x_if_lt C 1192 dL_law_1126 (by decide) (fun h => absurd h (nI_pos (by omega))) (fun _ => ?_)
                      refine x_iload C dL_law_1129 rfl ?_
                      refine x_iload C dL_law_1131 rfl ?_
                      refine x_ic_eq C 1186 dL_law_1133 (by decide) (fun h => absurd h (nI_neL (by omega) (by omega) ejk)) (fun _ => ?_)
                      refine x_aload_n C dL_law_1136 rfl ?_
                      refine x_bipush (v := 9) C dL_law_1137 (by decide) ?_
                      refine x_iload C dL_law_1139 rfl ?_
                      refine x_iadd C dL_law_1141 ?_
                      refine x_iald2 C wput_q (ix9 j) (by omega) (by decide) dL_law_1142 ?_
                      refine x_if_lt C 1186 dL_law_1143 (by decide) (fun h => absurd h (fun z => (H3.neg (by decide) hj).mp z hp)) (fun _ => ?_)
                      refine x_aload_n C dL_law_1146 rfl ?_
                      refine x_bipush (v := 9) C dL_law_1147 (by decide) ?_
                      refine x_iload C dL_law_1149 rfl ?_
                      refine x_iadd C dL_law_1151 ?_
                      refine x_iald2 C wput_q (ix9 j) (by omega) (by decide) dL_law_1152 ?_
                      refine x_aload_n C dL_law_1153 rfl ?_
                      refine x_bipush (v := 7) C dL_law_1154 (by decide) ?_
                      refine x_iald2 C wput_q (show (7 : Int32) = nI 7 from rfl) (by decide) (by decide) dL_law_1156 ?_
                      refine x_ic_gt C 1186 dL_law_1157 (by decide) (fun _ => ?_) (fun h => absurd ((H3.old hj).mpr ⟨hp, hle⟩) h)
                      refine x_iinc C dL_law_1186 rfl (nI_m j) (by decide) rfl ?_
                      refine x_goto C 1124 dL_law_1189 (by decide) ?_
                      refine xX.cl (ihT o (isT_dsk (fun z => hle z.2.2) ho)) rfl (And.intro rfl (And.intro rfl (And.intro rfl (And.intro rfl (And.intro rfl (And.intro rfl (And.intro rfl (And.intro rfl (And.intro rfl (And.intro rfl (And.intro rfl (And.intro rfl (And.intro rfl (And.intro rfl (And.intro rfl (And.intro rfl (And.intro rfl (And.intro rfl (And.intro rfl (And.intro rfl (And.intro rfl (And.intro rfl (And.intro rfl (And.intro rfl (And.intro rfl trivial))))))))))))))))))))))))) rfl
                  · refine x_iload C dL_law_1124 rfl ?_
                    refine x_if_lt C 1192 dL_law_1126 (by decide) (fun h => absurd h (nI_pos (by omega))) (fun _ => ?_)
                    refine x_iload C dL_law_1129 rfl ?_
                    refine x_iload C dL_law_1131 rfl ?_
                    refine x_ic_eq C 1186 dL_law_1133 (by decide) (fun h => absurd h (nI_neL (by omega) (by omega) ejk)) (fun _ => ?_)
                    refine x_aload_n C dL_law_1136 rfl ?_
                    refine x_bipush (v := 9) C dL_law_1137 (by decide) ?_
                    refine x_iload C dL_law_1139 rfl ?_
                    refine x_iadd C dL_law_1141 ?_
                    refine x_iald2 C wput_q (ix9 j) (by omega) (by decide) dL_law_1142 ?_
                    refine x_if_lt C 1186 dL_law_1143 (by decide) (fun _ => ?_) (fun h => absurd ((H3.neg (by decide) hj).mpr hp) h)
                    refine x_iinc C dL_law_1186 rfl (nI_m j) (by decide) rfl ?_
                    refine x_goto C 1124 dL_law_1189 (by decide) ?_
                    refine xX.cl (ihT o (isT_dsk (fun z => hp z.2.1) ho)) rfl (And.intro rfl (And.intro rfl (And.intro rfl (And.intro rfl (And.intro rfl (And.intro rfl (And.intro rfl (And.intro rfl (And.intro rfl (And.intro rfl (And.intro rfl (And.intro rfl (And.intro rfl (And.intro rfl (And.intro rfl (And.intro rfl (And.intro rfl (And.intro rfl (And.intro rfl (And.intro rfl (And.intro rfl (And.intro rfl (And.intro rfl (And.intro rfl (And.intro rfl trivial))))))))))))))))))))))))) rfl
            refine x_iload C dL_law_1095 rfl ?_
            refine x_iconst (v := 4) C dL_law_1097 (by decide) ?_
            refine x_ic_ge C 1298 dL_law_1098 (by decide) (fun h => absurd h (nI_ge (b := 4) hk (by decide))) (fun _ => ?_)
            refine x_aload_n C dL_law_1101 rfl ?_
            refine x_bipush (v := 9) C dL_law_1102 (by decide) ?_
            refine x_iload C dL_law_1104 rfl ?_
            refine x_iadd C dL_law_1106 ?_
            refine x_iald2 C wput_q (ix9 k) (by omega) (by decide) dL_law_1107 ?_
            refine x_aload_n C dL_law_1108 rfl ?_
            refine x_bipush (v := 7) C dL_law_1109 (by decide) ?_
            refine x_iald2 C wput_q (show (7 : Int32) = nI 7 from rfl) (by decide) (by decide) dL_law_1111 ?_
            refine x_ic_gt C 1118 dL_law_1112 (by decide) (fun _ => ?_) (fun h => absurd ((H3.old hk).mpr hc) h)
            refine x_iconst (v := (-1)) C dL_law_1118 (by decide) ?_
            refine x_istore C dL_law_1119 (by decide) rfl ?_
            refine x_iconst (v := 3) C dL_law_1121 (by decide) ?_
            refine x_istore C dL_law_1122 (by decide) rfl ?_
            refine xX.cl (hT 4 (Nat.le_refl _) none isT_0) rfl (And.intro rfl (And.intro rfl (And.intro rfl (And.intro rfl (And.intro rfl (And.intro rfl (And.intro rfl (And.intro rfl (And.intro rfl (And.intro rfl (And.intro rfl (And.intro rfl (And.intro rfl (And.intro rfl (And.intro rfl (And.intro rfl (And.intro rfl (And.intro rfl (And.intro rfl (And.intro rfl (And.intro rfl (And.intro rfl (And.intro rfl (And.intro rfl (And.intro rfl trivial))))))))))))))))))))))))) rfl
          · refine x_iload C dL_law_1095 rfl ?_
            refine x_iconst (v := 4) C dL_law_1097 (by decide) ?_
            refine x_ic_ge C 1298 dL_law_1098 (by decide) (fun h => absurd h (nI_ge (b := 4) hk (by decide))) (fun _ => ?_)
            refine x_aload_n C dL_law_1101 rfl ?_
            refine x_bipush (v := 9) C dL_law_1102 (by decide) ?_
            refine x_iload C dL_law_1104 rfl ?_
            refine x_iadd C dL_law_1106 ?_
            refine x_iald2 C wput_q (ix9 k) (by omega) (by decide) dL_law_1107 ?_
            refine x_aload_n C dL_law_1108 rfl ?_
            refine x_bipush (v := 7) C dL_law_1109 (by decide) ?_
            refine x_iald2 C wput_q (show (7 : Int32) = nI 7 from rfl) (by decide) (by decide) dL_law_1111 ?_
            refine x_ic_gt C 1118 dL_law_1112 (by decide) (fun h => absurd h (fun z => hc ((H3.old hk).mp z))) (fun _ => ?_)
            refine x_goto C 1292 dL_law_1115 (by decide) ?_
            refine x_iinc C dL_law_1292 rfl (nI_inc _) (by decide) rfl ?_
            refine x_goto C 1095 dL_law_1295 (by decide) ?_
            refine xX.cl (ihB Q3 R3 c3 (by rw [byK_f hc]; exact H3) hok2 g3 g4) rfl (And.intro rfl (And.intro rfl (And.intro rfl (And.intro rfl (And.intro rfl (And.intro rfl (And.intro rfl (And.intro rfl (And.intro rfl (And.intro rfl (And.intro rfl (And.intro rfl (And.intro rfl (And.intro rfl (And.intro rfl (And.intro rfl (And.intro rfl (And.intro rfl (And.intro rfl (And.intro rfl (And.intro rfl (And.intro rfl (And.intro rfl trivial))))))))))))))))))))))) rfl
      have hA : ∀ k, k ≤ 4 → xX k0 N a b (wput E (cput E σ B VV (nI p) (nI z) (nI n) tx) (B + 165) (agQ Q2 k) R2) 1055 [some (.ref bb), some (.ref B), some (.ref (B + 165)), some (.ref (B + 165 + 1)), some (.ref (B + 165 + 2)), some (.ref (B + 165 + 3)), some (.ref (B + 165 + 4)), some (.int (nI t)), some (.int X), some (.int Y), some (.int (nI kd)), some (.int (nI who)), some (.int (nI other)), some (.int (nI m)), some (.int (nI w)), some (.int (xb (VV 0 10 who = 1))), some (.int (xb (VV 0 10 who = 1 ∧ VV 0 10 other = 1))), some (.ref (B + 165 + 1 + who)), some (.ref (B + 165 + 1 + other)), some (.int (nI yr)), some (.int c), some (.int (nI i)), some (.int (nI k)), none, none, none, none] [] := by
        refine x_for 4 ?_ ?_
        · refine x_iload C dL_law_1055 rfl ?_
          refine x_iconst (v := 4) C dL_law_1057 (by decide) ?_
          refine x_ic_ge C 1092 dL_law_1058 (by decide) (fun _ => ?_) (fun h => absurd (nI_le (a := 4) (Nat.le_refl _) (by decide)) h)
          refine x_iconst (v := 0) C dL_law_1092 (by decide) ?_
          refine x_istore C dL_law_1093 (by decide) rfl ?_
          refine xX.cl (hB 0 (by omega) (agQ Q2 4) R2 c (LR_agV H2) okA_0 ((agQ_n (Or.inl (by decide))).trans e3) ((agQ_n (Or.inl (by decide))).trans e4)) rfl (And.intro rfl (And.intro rfl (And.intro rfl (And.intro rfl (And.intro rfl (And.intro rfl (And.intro rfl (And.intro rfl (And.intro rfl (And.intro rfl (And.intro rfl (And.intro rfl (And.intro rfl (And.intro rfl (And.intro rfl (And.intro rfl (And.intro rfl (And.intro rfl (And.intro rfl (And.intro rfl (And.intro rfl (And.intro rfl (And.intro rfl trivial))))))))))))))))))))))) rfl
        · intro k hk ihA
          refine x_iload C dL_law_1055 rfl ?_
          refine x_iconst (v := 4) C dL_law_1057 (by decide) ?_
          refine x_ic_ge C 1092 dL_law_1058 (by decide) (fun h => absurd h (nI_ge (b := 4) hk (by decide))) (fun _ => ?_)
          refine x_aload_n C dL_law_1061 rfl ?_
          refine x_bipush (v := 9) C dL_law_1062 (by decide) ?_
          refine x_iload C dL_law_1064 rfl ?_
          refine x_iadd C dL_law_1066 ?_
          refine x_dup2 C dL_law_1067 rfl rfl ?_
          refine x_iald2 C wput_q (ix9 k) (by omega) (by decide) dL_law_1068 ?_
          refine xX.mrg 1084 (if Q2 (9 + k) < 0 then 0 else 1) (fun hk1084 => ?_) ?_
          · refine x_aload_n C dL_law_1069 rfl ?_
            refine x_bipush (v := 9) C dL_law_1070 (by decide) ?_
            refine x_iload C dL_law_1072 rfl ?_
            refine x_iadd C dL_law_1074 ?_
            refine x_iald2 C wput_q (ix9 k) (by omega) (by decide) dL_law_1075 ?_
            refine x_if_ge C 1083 dL_law_1076 (by decide) (fun h1076 => ?_) (fun h1076 => ?_)
            · rw [agQ_n (Or.inr (Nat.le_refl _))] at h1076
              refine x_iconst (v := 1) C dL_law_1083 (by decide) ?_
              exact xX.vl hk1084 (if_neg (Int32.not_lt.mpr h1076))
            · rw [agQ_n (Or.inr (Nat.le_refl _))] at h1076
              refine x_iconst (v := 0) C dL_law_1079 (by decide) ?_
              refine x_goto C 1084 dL_law_1080 (by decide) ?_
              exact xX.vl hk1084 (if_pos (Int32.not_le.mp h1076))
          refine x_iadd C dL_law_1084 ?_
          refine x_iast2 C wput_q (ix9 k) (by omega) (by decide) (fun _ _ => rfl) wput_uq dL_law_1085 ?_
          refine x_iinc C dL_law_1086 rfl (nI_inc _) (by decide) rfl ?_
          refine x_goto C 1055 dL_law_1089 (by decide) ?_
          refine xX.cl (ihA) (wput_sg agQ_s rfl) (And.intro rfl (And.intro rfl (And.intro rfl (And.intro rfl (And.intro rfl (And.intro rfl (And.intro rfl (And.intro rfl (And.intro rfl (And.intro rfl (And.intro rfl (And.intro rfl (And.intro rfl (And.intro rfl (And.intro rfl (And.intro rfl (And.intro rfl (And.intro rfl (And.intro rfl (And.intro rfl (And.intro rfl (And.intro rfl (And.intro rfl trivial))))))))))))))))))))))) rfl
      refine x_iload C dL_law_1045 rfl ?_
      refine x_iload C dL_law_1047 rfl ?_
      refine x_ic_ge C 1304 dL_law_1049 (by decide) (fun h => absurd h (nI_ge hi (by omega))) (fun _ => ?_)
      refine x_iconst (v := 0) C dL_law_1052 (by decide) ?_
      refine x_istore C dL_law_1053 (by decide) rfl ?_
      refine xX.cl (hA 0 (by omega)) (wput_sg agQ_0.symm rfl) (And.intro rfl (And.intro rfl (And.intro rfl (And.intro rfl (And.intro rfl (And.intro rfl (And.intro rfl (And.intro rfl (And.intro rfl (And.intro rfl (And.intro rfl (And.intro rfl (And.intro rfl (And.intro rfl (And.intro rfl (And.intro rfl (And.intro rfl (And.intro rfl (And.intro rfl (And.intro rfl (And.intro rfl (And.intro rfl (And.intro rfl trivial))))))))))))))))))))))) rfl
  refine x_istore C dL_law_1037 (by decide) rfl ?_
  refine x_iconst (v := 0) C dL_law_1039 (by decide) ?_
  refine x_istore C dL_law_1040 (by decide) rfl ?_
  refine x_iconst (v := 0) C dL_law_1042 (by decide) ?_
  refine x_istore C dL_law_1043 (by decide) rfl ?_
  refine xX.cl (hl 0 (by omega) Q R 0 H rfl rfl) rfl (And.intro rfl (And.intro rfl (And.intro rfl (And.intro rfl (And.intro rfl (And.intro rfl (And.intro rfl (And.intro rfl (And.intro rfl (And.intro rfl (And.intro rfl (And.intro rfl (And.intro rfl (And.intro rfl (And.intro rfl (And.intro rfl (And.intro rfl (And.intro rfl (And.intro rfl (And.intro rfl (And.intro rfl (And.intro rfl trivial)))))))))))))))))))))) rfl
