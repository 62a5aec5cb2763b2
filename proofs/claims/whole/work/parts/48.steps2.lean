theorem xM_val {l : Launch} {y : MethodName} {cc : ByteArray} {nL : Nat} {ret : Option FieldType} {fr lo ce sl : Nat} {E : xEnv} {B : Nat} {av : List Value} {N : Nat} {σ : Sg} {N2 : Nat} {σ2 : Sg} {oc oc2 : Option Value} (h : xM l y cc nL ret fr lo ce sl E B av N σ N2 σ2 oc) (e : oc = oc2) : xM l y cc nL ret fr lo ce sl E B av N σ N2 σ2 oc2 := e ▸ h
theorem vI {x y : Int32} (h : x = y) : some (Value.int x) = some (Value.int y) := by rw [h]
theorem low_q {P : Fn} (h : ¬ ∀ j, j < 8 → P j = 1) : ∃ q, q < 8 ∧ (∀ j, j < q → P j = 1) ∧ ¬ P q = 1 := by
  have g : ∀ n, n ≤ 8 → (∀ j, j < n → P j = 1) ∨ ∃ q, q < 8 ∧ (∀ j, j < q → P j = 1) ∧ ¬ P q = 1 := by
    intro n
    induction n with
    | zero => intro _; exact Or.inl (fun j hj => absurd hj (Nat.not_lt_zero _))
    | succ n ih =>
      intro hn
      rcases ih (by omega) with i | i
      · by_cases hp : P n = 1
        · refine Or.inl (fun j hj => ?_)
          by_cases e : j = n
          · rw [e]; exact hp
          · exact i j (by omega)
        · exact Or.inr ⟨n, by omega, i, hp⟩
      · exact Or.inr i
  exact (g 8 (Nat.le_refl _)).resolve_left h
theorem rg_q {lo hh : Nat} {x : Int32} (hl : hh + 1 < 2 ^ 31) (hlo : lo < 2 ^ 31) (h1 : ¬ x < nI lo) (h2 : ¬ nI hh < x) : ∃ q, lo ≤ q ∧ q ≤ hh ∧ x = nI q := by
  have a : nI lo ≤ x := Int32.not_lt.mp h1
  obtain ⟨q, hq, rfl⟩ := bd_of (x := x) (c := hh + 1) (by omega) ⟨Int32.le_trans (nI_pos' hlo) a, (le_s hl).mp (Int32.not_lt.mp h2)⟩
  exact ⟨q, (nI_leI hlo (by omega)).mp a, by omega, rfl⟩
theorem WR_r0 {VV : Cs} {p z n : Nat} {U U2 V2 : Vs} {ho sc : Fn} (W : WR VV p z n U ho sc) (hR : RV V2 U2) (hI : IU U2) : WR (upV (kpV VV p) 0 V2) ((p + 1) % 6) (min 6 (z + 1)) n U2 (rcH ho U z) (upd sc 0 (nI (min 6 (z + 1)))) :=
  WR_rec W hR hI pk_us ((pk_un (by decide)).trans W.2.2.2.2.2.2.1) W.2.2.1
theorem iu_set {U : Vs} {j : Nat} {v : Int32} (hj : j < 4) (h1 : ¬ v < leS j) (h2 : ¬ moS j < v) (h : IU U) : IU (up2 U 8 j v) := by
  refine ⟨⟨fun t ht q hq => ?_, ?_⟩, sk_up (by omega) h.2⟩
  · rw [up2_r (by omega)]; exact h.1.1 t ht q hq
  · by_cases e : j = 3
    · subst e
      obtain ⟨q, -, hq, rfl⟩ := rg_q (x := v) (lo := 0) (hh := 100) (by decide) (by decide) h1 h2
      exact ⟨q, hq, by rw [up2_s]⟩
    · rw [up2_n (by omega)]; exact h.1.2
theorem scC_0 {U : Vs} {c : Nat} {sc : Fn} {q : Nat} (hq : q < 2) : ∀ n, scC U c sc n q = sc q
  | 0 => rfl
  | n + 1 => by
    rw [scC, scT, pk_un (by omega), pk_un (by omega), scC_0 hq n]
theorem st_come {l : Launch} {E : xEnv} {B M : Nat} {VV : Cs} {p z n : Nat} {U : Vs} {kp ho tx sc : Fn} (W : WR VV p z n U ho sc) : ∃ (VV2 : Cs) (p2 z2 n2 : Nat) (tx2 : Fn) (U2 : Vs) (kp2 ho2 sc2 : Fn) (rv : Int32), WR VV2 p2 z2 n2 U2 ho2 sc2 ∧ (∀ N σ, xM l yX4_come cX4_come 2 (some .int) 5 110 0 0 E B [.ref B] N (cput E σ B VV (nI p) (nI z) (nI n) tx) N (cput E σ B VV2 (nI p2) (nI z2) (nI n2) tx2) (some (.int rv))) ∧ (∀ N σ, xM l yX5_come cX5_come 2 (some .int) 2 45 0 0 E B [.ref M] N (mput E σ M U kp ho tx sc) N (mput E σ M U2 kp2 ho2 tx2 sc2) (some (.int rv))) := by
  have W0 := W
  obtain ⟨w1, w2, w3, R, I, w6, w7, w8⟩ := W0
  have hsV : sok (VV 0) := sok_R R I.2
  by_cases hall : ∀ j, j < 8 → VV 0 10 j = 1
  · skip
    exact ⟨_, _, _, _, _, _, _, _, _, _, W, fun N σ => c_X4_come_full hall, fun N σ => (c_X5_come_full (fun j hj => by rw [R.p10 hj]; exact hall j hj))⟩
  · obtain ⟨q, hq, hlow, hno⟩ := low_q hall
    exact ⟨_, _, _, _, _, _, _, _, _, _, (WR_r0 W (come_R R hq hno) (iu_up (by decide) (by omega) I)), fun N σ => c_X4_come_ok w1 w2 hq hlow hno, fun N σ => (c_X5_come_ok w2 w6 hq (fun j hj => by rw [R.p10 (by omega)]; exact hlow j hj) (by rw [R.p10 hq]; exact hno))⟩
theorem st_go {l : Launch} {E : xEnv} {B M : Nat} {VV : Cs} {p z n : Nat} {U : Vs} {kp ho tx sc : Fn} (W : WR VV p z n U ho sc) (x : Int32) : ∃ (VV2 : Cs) (p2 z2 n2 : Nat) (tx2 : Fn) (U2 : Vs) (kp2 ho2 sc2 : Fn) (rv : Int32), WR VV2 p2 z2 n2 U2 ho2 sc2 ∧ (∀ N σ, xM l yX4_go cX4_go 3 (some .int) 4 96 0 0 E B [.ref B, .int x] N (cput E σ B VV (nI p) (nI z) (nI n) tx) N (cput E σ B VV2 (nI p2) (nI z2) (nI n2) tx2) (some (.int rv))) ∧ (∀ N σ, xM l yX5_go cX5_go 3 (some .int) 3 65 0 0 E B [.ref M, .int x] N (mput E σ M U kp ho tx sc) N (mput E σ M U2 kp2 ho2 tx2 sc2) (some (.int rv))) := by
  have W0 := W
  obtain ⟨w1, w2, w3, R, I, w6, w7, w8⟩ := W0
  have hsV : sok (VV 0) := sok_R R I.2
  by_cases s1 : ∃ k, k < 8 ∧ x = nI k ∧ VV 0 10 k = 1
  · obtain ⟨k, hk, rfl, hp⟩ := s1
    have up : U 10 k = 1 := by rw [R.p10 hk]; exact hp
    exact ⟨_, _, _, _, _, _, _, _, _, _, (WR_r0 W (go_R R hk) (iu_go hk I)), fun N σ => c_X4_go_ok w1 w2 hk hp, fun N σ => xM_val (c_X5_go_ok w2 w6 hk up) (vI (congrArg nI (cnN_R (go_R R hk) (Nat.le_refl _))))⟩
  · have nu := noU R s1
    exact ⟨_, _, _, _, _, _, _, _, _, _, W, fun N σ => c_X4_go_no s1, fun N σ => (c_X5_go_no nu)⟩
theorem st_set {l : Launch} {E : xEnv} {B M : Nat} {VV : Cs} {p z n : Nat} {U : Vs} {kp ho tx sc : Fn} (W : WR VV p z n U ho sc) (x v : Int32) : ∃ (VV2 : Cs) (p2 z2 n2 : Nat) (tx2 : Fn) (U2 : Vs) (kp2 ho2 sc2 : Fn) (rv : Int32), WR VV2 p2 z2 n2 U2 ho2 sc2 ∧ (∀ N σ, xM l yX4_set cX4_set 4 (some .int) 4 96 0 0 E B [.ref B, .int x, .int v] N (cput E σ B VV (nI p) (nI z) (nI n) tx) N (cput E σ B VV2 (nI p2) (nI z2) (nI n2) tx2) (some (.int rv))) ∧ (∀ N σ, xM l yX5_set cX5_set 5 (some .int) 2 45 0 0 E B [.ref M, .int x, .int v] N (mput E σ M U kp ho tx sc) N (mput E σ M U2 kp2 ho2 tx2 sc2) (some (.int rv))) := by
  have W0 := W
  obtain ⟨w1, w2, w3, R, I, w6, w7, w8⟩ := W0
  have hsV : sok (VV 0) := sok_R R I.2
  by_cases r : 0 ≤ x ∧ x < 4
  · obtain ⟨i, hi, rfl⟩ := bd_of (c := 4) (by decide) r
    by_cases h1 : v < leS i
    · skip
      exact ⟨_, _, _, _, _, _, _, _, _, _, W, fun N σ => c_X4_set_lo hi h1, fun N σ => (c_X5_set_bad hi (fun z => z.1 h1))⟩
    · by_cases h2 : moS i < v
      · skip
        exact ⟨_, _, _, _, _, _, _, _, _, _, W, fun N σ => c_X4_set_hi hi h1 h2, fun N σ => (c_X5_set_bad hi (fun z => z.2 h2))⟩
      · skip
        exact ⟨_, _, _, _, _, _, _, _, _, _, (WR_r0 W (RV_8 R) (iu_set hi h1 h2 I)), fun N σ => c_X4_set_ok w1 w2 hi h1 h2, fun N σ => xM_val (c_X5_set_ok w2 w6 hi h1 h2) (vI R.p8)⟩
  · skip
    exact ⟨_, _, _, _, _, _, _, _, _, _, W, fun N σ => c_X4_set_no r, fun N σ => (c_X5_set_no r)⟩
theorem st_setSeed {l : Launch} {E : xEnv} {B M : Nat} {VV : Cs} {p z n : Nat} {U : Vs} {kp ho tx sc : Fn} (W : WR VV p z n U ho sc) (x : Int32) : ∃ (VV2 : Cs) (p2 z2 n2 : Nat) (tx2 : Fn) (U2 : Vs) (kp2 ho2 sc2 : Fn) (rv : Int32), WR VV2 p2 z2 n2 U2 ho2 sc2 ∧ (∀ N σ, xM l yX4_setSeed cX4_setSeed 3 (some .int) 4 96 0 0 E B [.ref B, .int x] N (cput E σ B VV (nI p) (nI z) (nI n) tx) N (cput E σ B VV2 (nI p2) (nI z2) (nI n2) tx2) (some (.int rv))) ∧ (∀ N σ, xM l yX5_setSeed cX5_setSeed 3 (some .int) 2 45 0 0 E B [.ref M, .int x] N (mput E σ M U kp ho tx sc) N (mput E σ M U2 kp2 ho2 tx2 sc2) (some (.int rv))) := by
  have W0 := W
  obtain ⟨w1, w2, w3, R, I, w6, w7, w8⟩ := W0
  have hsV : sok (VV 0) := sok_R R I.2
  by_cases h1 : x < 0
  · skip
    exact ⟨_, _, _, _, _, _, _, _, _, _, W, fun N σ => c_X4_setSeed_lo h1, fun N σ => (c_X5_setSeed_bad (fun z => h1 |> fun y => absurd y (Int32.not_lt.mpr z.1)))⟩
  · by_cases h2 : 65535 < x
    · skip
      exact ⟨_, _, _, _, _, _, _, _, _, _, W, fun N σ => c_X4_setSeed_hi h1 h2, fun N σ => (c_X5_setSeed_bad (fun z => absurd h2 (Int32.not_lt.mpr z.2)))⟩
    · skip
      obtain ⟨q, -, hq, rfl⟩ := rg_q (x := x) (lo := 0) (hh := 65535) (by decide) (by decide) h1 h2
      exact ⟨_, _, _, _, _, _, _, _, _, _, (WR_r0 W (RV_9 R rfl) ⟨rg_up (by decide) I.1, ⟨q, by omega, up2_s⟩⟩), fun N σ => c_X4_setSeed_ok w1 w2 (q := q) (by omega), fun N σ => xM_val (c_X5_setSeed_ok w2 w6 (q := q) (by omega)) (vI (R.p9 (by decide)))⟩
theorem st_teach {l : Launch} {E : xEnv} {B M : Nat} {VV : Cs} {p z n : Nat} {U : Vs} {kp ho tx sc : Fn} (W : WR VV p z n U ho sc) (x m w v : Int32) : ∃ (VV2 : Cs) (p2 z2 n2 : Nat) (tx2 : Fn) (U2 : Vs) (kp2 ho2 sc2 : Fn) (rv : Int32), WR VV2 p2 z2 n2 U2 ho2 sc2 ∧ (∀ N σ, xM l yX4_teach cX4_teach 7 (some .int) 4 96 0 0 E B [.ref B, .int x, .int m, .int w, .int v] N (cput E σ B VV (nI p) (nI z) (nI n) tx) N (cput E σ B VV2 (nI p2) (nI z2) (nI n2) tx2) (some (.int rv))) ∧ (∀ N σ, xM l yX5_teach cX5_teach 6 (some .int) 2 45 0 0 E B [.ref M, .int x, .int m, .int w, .int v] N (mput E σ M U kp ho tx sc) N (mput E σ M U2 kp2 ho2 tx2 sc2) (some (.int rv))) := by
  have W0 := W
  obtain ⟨w1, w2, w3, R, I, w6, w7, w8⟩ := W0
  have hsV : sok (VV 0) := sok_R R I.2
  by_cases s1 : ∃ k, k < 8 ∧ x = nI k ∧ VV 0 10 k = 1
  · obtain ⟨k, hk, rfl, hp⟩ := s1
    have up : U 10 k = 1 := by rw [R.p10 hk]; exact hp
    by_cases r : 0 ≤ m ∧ m < 6
    · obtain ⟨i, hi, rfl⟩ := bd_of (c := 6) (by decide) r
      by_cases r2 : 0 ≤ w ∧ w < 14
      · obtain ⟨j, hj, rfl⟩ := bd_of (c := 14) (by decide) r2
        by_cases h1 : v < 0
        · skip
          exact ⟨_, _, _, _, _, _, _, _, _, _, W, fun N σ => c_X4_teach_lo hk hp hi hj h1, fun N σ => (c_X5_teach_bad hk up hi hj (fun z => h1 |> fun y => absurd y (Int32.not_lt.mpr z.1)))⟩
        · by_cases h2 : 99 < v
          · skip
            exact ⟨_, _, _, _, _, _, _, _, _, _, W, fun N σ => c_X4_teach_hi hk hp hi hj h1 h2, fun N σ => (c_X5_teach_bad hk up hi hj (fun z => absurd h2 (Int32.not_lt.mpr z.2)))⟩
          · skip
            have hx : clS v = v := cl_mid (Int32.not_lt.mp h1) (Int32.not_lt.mp h2)
            exact ⟨_, _, _, _, _, _, _, _, _, _, (WR_r0 W (V2 := up2 (VV 0) k (14 * i + j) (clS v)) (U2 := up2 U k (14 * i + j) v) (by rw [hx]; exact RV_w R hk hp) ⟨rg_w hk hx I.1, sk_up (by omega) I.2⟩), fun N σ => c_X4_teach_ok w1 w2 hk hp hi hj h1 h2, fun N σ => xM_val (c_X5_teach_ok w2 w6 hk up hi hj h1 h2) (vI (congrFun (R.row hk hp) _))⟩
      · skip
        exact ⟨_, _, _, _, _, _, _, _, _, _, W, fun N σ => c_X4_teach_n3 hk hp hi r2, fun N σ => (c_X5_teach_n3 hk up hi r2)⟩
    · skip
      exact ⟨_, _, _, _, _, _, _, _, _, _, W, fun N σ => c_X4_teach_n2 hk hp r, fun N σ => (c_X5_teach_n2 hk up r)⟩
  · have nu := noU R s1
    exact ⟨_, _, _, _, _, _, _, _, _, _, W, fun N σ => c_X4_teach_n1 s1, fun N σ => (c_X5_teach_n1 nu)⟩
theorem st_setAge {l : Launch} {E : xEnv} {B M : Nat} {VV : Cs} {p z n : Nat} {U : Vs} {kp ho tx sc : Fn} (W : WR VV p z n U ho sc) (x v : Int32) : ∃ (VV2 : Cs) (p2 z2 n2 : Nat) (tx2 : Fn) (U2 : Vs) (kp2 ho2 sc2 : Fn) (rv : Int32), WR VV2 p2 z2 n2 U2 ho2 sc2 ∧ (∀ N σ, xM l yX4_setAge cX4_setAge 5 (some .int) 4 96 0 0 E B [.ref B, .int x, .int v] N (cput E σ B VV (nI p) (nI z) (nI n) tx) N (cput E σ B VV2 (nI p2) (nI z2) (nI n2) tx2) (some (.int rv))) ∧ (∀ N σ, xM l yX5_setAge cX5_setAge 4 (some .int) 2 45 0 0 E B [.ref M, .int x, .int v] N (mput E σ M U kp ho tx sc) N (mput E σ M U2 kp2 ho2 tx2 sc2) (some (.int rv))) := by
  have W0 := W
  obtain ⟨w1, w2, w3, R, I, w6, w7, w8⟩ := W0
  have hsV : sok (VV 0) := sok_R R I.2
  by_cases s1 : ∃ k, k < 8 ∧ x = nI k ∧ VV 0 10 k = 1
  · obtain ⟨k, hk, rfl, hp⟩ := s1
    have up : U 10 k = 1 := by rw [R.p10 hk]; exact hp
    by_cases h1 : v < 0
    · skip
      exact ⟨_, _, _, _, _, _, _, _, _, _, W, fun N σ => c_X4_setAge_lo hk hp h1, fun N σ => (c_X5_setAge_bad hk up (fun z => h1 |> fun y => absurd y (Int32.not_lt.mpr z.1)))⟩
    · by_cases h2 : 99 < v
      · skip
        exact ⟨_, _, _, _, _, _, _, _, _, _, W, fun N σ => c_X4_setAge_hi hk hp h1 h2, fun N σ => (c_X5_setAge_bad hk up (fun z => absurd h2 (Int32.not_lt.mpr z.2)))⟩
      · skip
        exact ⟨_, _, _, _, _, _, _, _, _, _, (WR_r0 W (RV_11 R hk hp) (iu_up (by decide) (by omega) I)), fun N σ => c_X4_setAge_ok w1 w2 hk hp h1 h2, fun N σ => xM_val (c_X5_setAge_ok w2 w6 hk up h1 h2) (vI (R.p11 hk hp))⟩
  · have nu := noU R s1
    exact ⟨_, _, _, _, _, _, _, _, _, _, W, fun N σ => c_X4_setAge_no s1, fun N σ => (c_X5_setAge_no nu)⟩
theorem st_meet {l : Launch} {E : xEnv} {B M : Nat} {VV : Cs} {p z n : Nat} {U : Vs} {kp ho tx sc : Fn} (W : WR VV p z n U ho sc) (x y m : Int32) : ∃ (VV2 : Cs) (p2 z2 n2 : Nat) (tx2 : Fn) (U2 : Vs) (kp2 ho2 sc2 : Fn) (rv : Int32), WR VV2 p2 z2 n2 U2 ho2 sc2 ∧ (∀ N σ, xM l yX4_meet cX4_meet 6 (some .int) 5 118 0 0 E B [.ref B, .int x, .int y, .int m] N (cput E σ B VV (nI p) (nI z) (nI n) tx) N (cput E σ B VV2 (nI p2) (nI z2) (nI n2) tx2) (some (.int rv))) ∧ (∀ N σ, xM l yX5_meet cX5_meet 5 (some .int) 5 118 0 0 E B [.ref M, .int x, .int y, .int m] N (mput E σ M U kp ho tx sc) N (mput E σ M U2 kp2 ho2 tx2 sc2) (some (.int rv))) := by
  have W0 := W
  obtain ⟨w1, w2, w3, R, I, w6, w7, w8⟩ := W0
  have hsV : sok (VV 0) := sok_R R I.2
  by_cases s1 : ∃ k, k < 8 ∧ x = nI k ∧ VV 0 10 k = 1
  · obtain ⟨k, hk, rfl, hp⟩ := s1
    have up : U 10 k = 1 := by rw [R.p10 hk]; exact hp
    by_cases s2 : ∃ k, k < 8 ∧ y = nI k ∧ VV 0 10 k = 1
    · obtain ⟨q, hq, rfl, hpq⟩ := s2
      have uq : U 10 q = 1 := by rw [R.p10 hq]; exact hpq
      by_cases r : 0 ≤ m ∧ m < 6
      · obtain ⟨i, hi, rfl⟩ := bd_of (c := 6) (by decide) r
        by_cases hne : k = q
        · subst hne
          exact ⟨_, _, _, _, _, _, _, _, _, _, W, fun N σ => c_X4_meet_same hk hp hi, fun N σ => (c_X5_meet_same hk up hi)⟩
        · skip
          exact ⟨_, _, _, _, _, _, _, _, _, _, (WR_rec W (n2 := n) (mtV_R R hk hq hp hpq) (iu_mt hk hq I) (by simp [upd]) (by simpa [upd] using w7) w3), fun N σ => c_X4_meet_ok w1 w2 hk hp hq hpq hi hne hsV, fun N σ => xM_val (c_X5_meet_ok w2 w6 hk up hq uq hi hne I.2) (vI (by rw [(mt1_R R hk hq hp hpq).2]))⟩
      · skip
        exact ⟨_, _, _, _, _, _, _, _, _, _, W, fun N σ => c_X4_meet_n3 hk hp hq hpq r, fun N σ => (c_X5_meet_n3 hk up hq uq r)⟩
    · have nuq := noU R s2
      exact ⟨_, _, _, _, _, _, _, _, _, _, W, fun N σ => c_X4_meet_n2 hk hp s2, fun N σ => (c_X5_meet_n2 hk up nuq)⟩
  · have nu := noU R s1
    by_cases s2 : ∃ k, k < 8 ∧ y = nI k ∧ VV 0 10 k = 1
    · obtain ⟨q, hq, rfl, hpq⟩ := s2
      have uq : U 10 q = 1 := by rw [R.p10 hq]; exact hpq
      exact ⟨_, _, _, _, _, _, _, _, _, _, W, fun N σ => c_X4_meet_n1s s1 hq hpq, fun N σ => (c_X5_meet_n1 nu)⟩
    · have nuq := noU R s2
      exact ⟨_, _, _, _, _, _, _, _, _, _, W, fun N σ => c_X4_meet_n1n s1 s2, fun N σ => (c_X5_meet_n1 nu)⟩
theorem st_chat {l : Launch} {E : xEnv} {B M : Nat} {VV : Cs} {p z n : Nat} {U : Vs} {kp ho tx sc : Fn} (W : WR VV p z n U ho sc) (x : Int32) : ∃ (VV2 : Cs) (p2 z2 n2 : Nat) (tx2 : Fn) (U2 : Vs) (kp2 ho2 sc2 : Fn) (rv : Int32), WR VV2 p2 z2 n2 U2 ho2 sc2 ∧ (∀ N σ, xM l yX4_chat cX4_chat 3 (some .int) 6 147 0 0 E B [.ref B, .int x] N (cput E σ B VV (nI p) (nI z) (nI n) tx) N (cput E σ B VV2 (nI p2) (nI z2) (nI n2) tx2) (some (.int rv))) ∧ (∀ N σ, xM l yX5_chat cX5_chat 3 (some .int) 6 145 0 0 E B [.ref M, .int x] N (mput E σ M U kp ho tx sc) N (mput E σ M U2 kp2 ho2 tx2 sc2) (some (.int rv))) := by
  have W0 := W
  obtain ⟨w1, w2, w3, R, I, w6, w7, w8⟩ := W0
  have hsV : sok (VV 0) := sok_R R I.2
  by_cases h1 : x < 1
  · skip
    exact ⟨_, _, _, _, _, _, _, _, _, _, W, fun N σ => c_X4_chat_lo h1, fun N σ => (c_X5_chat_bad (fun z => h1 |> fun y => absurd y (Int32.not_lt.mpr z.1)))⟩
  · by_cases h2 : 200 < x
    · skip
      exact ⟨_, _, _, _, _, _, _, _, _, _, W, fun N σ => c_X4_chat_hi h1 h2, fun N σ => (c_X5_chat_bad (fun z => absurd h2 (Int32.not_lt.mpr z.2)))⟩
    · skip
      obtain ⟨q, g1, g2, rfl⟩ := rg_q (x := x) (lo := 1) (hh := 200) (by decide) (by decide) h1 h2
      have ec : cnN (U 10) 8 = cnN (VV 0 10) 8 := cnN_R R (Nat.le_refl _)
      by_cases hc : 2 ≤ cnN (VV 0 10) 8
      · skip
        exact ⟨_, _, _, _, _, _, _, _, _, _, (WR_rec W (n2 := n) (chL_R R rfl hc hsV q) (iu_ch ec hc I q) ((scC_0 (by decide) _).trans pk_us) ((scC_0 (by decide) _).trans ((pk_un (by decide)).trans w7)) w3), fun N σ => c_X4_chat_ok w1 w2 g1 g2 rfl hc hsV, fun N σ => xM_val (c_X5_chat_ok w2 w6 g1 g2 ec hc I.2) (vI (by rw [(chL_R R rfl hc hsV q).p9 (by decide), R.p9 (by decide)]))⟩
      · skip
        exact ⟨_, _, _, _, _, _, _, _, _, _, W, fun N σ => c_X4_chat_few g1 g2 hc, fun N σ => (c_X5_chat_few g1 g2 (by rw [ec]; exact hc))⟩
theorem st_ifChat {l : Launch} {E : xEnv} {B M : Nat} {VV : Cs} {p z n : Nat} {U : Vs} {kp ho tx sc : Fn} (W : WR VV p z n U ho sc) (x : Int32) : ∃ (VV2 : Cs) (p2 z2 n2 : Nat) (tx2 : Fn) (U2 : Vs) (kp2 ho2 sc2 : Fn) (rv : Int32), WR VV2 p2 z2 n2 U2 ho2 sc2 ∧ (∀ N σ, xM l yX4_ifChat cX4_ifChat 3 (some .int) 6 147 0 0 E B [.ref B, .int x] N (cput E σ B VV (nI p) (nI z) (nI n) tx) N (cput E σ B VV2 (nI p2) (nI z2) (nI n2) tx2) (some (.int rv))) ∧ (∀ N σ, xM l yX5_ifChat cX5_ifChat 4 (some .int) 6 145 0 0 E B [.ref M, .int x] N (mput E σ M U kp ho tx sc) N (mput E σ M U2 kp2 ho2 tx2 sc2) (some (.int rv))) := by
  have W0 := W
  obtain ⟨w1, w2, w3, R, I, w6, w7, w8⟩ := W0
  have hsV : sok (VV 0) := sok_R R I.2
  by_cases h1 : x < 1
  · skip
    exact ⟨_, _, _, _, _, _, _, _, _, _, W, fun N σ => c_X4_ifChat_lo h1, fun N σ => (c_X5_ifChat_bad (fun z => h1 |> fun y => absurd y (Int32.not_lt.mpr z.1)))⟩
  · by_cases h2 : 200 < x
    · skip
      exact ⟨_, _, _, _, _, _, _, _, _, _, W, fun N σ => c_X4_ifChat_hi h1 h2, fun N σ => (c_X5_ifChat_bad (fun z => absurd h2 (Int32.not_lt.mpr z.2)))⟩
    · skip
      obtain ⟨q, g1, g2, rfl⟩ := rg_q (x := x) (lo := 1) (hh := 200) (by decide) (by decide) h1 h2
      have ec : cnN (U 10) 8 = cnN (VV 0 10) 8 := cnN_R R (Nat.le_refl _)
      by_cases hc : 2 ≤ cnN (VV 0 10) 8
      · skip
        have Rc : RV (cpV (VV 1) (VV 0)) U := cp_R R
        have e2 : cnN (cpV (VV 1) (VV 0) 10) 8 = cnN (VV 0 10) 8 := cpV_cn rfl
        exact ⟨_, _, _, _, _, _, _, _, _, _, (WR_sc (sc2 := scC U (cnN (VV 0 10) 8) sc q) (n2 := n) (WR_vv (VV2 := upV VV 1 (chL (cpV (VV 1) (VV 0)) (cnN (VV 0 10) 8) q)) W (by rw [upV_n (by decide)]; exact R) (fun i hi => upV_n (by omega))) ((scC_0 (by decide) _).trans w6) ((scC_0 (by decide) _).trans w7) w3), fun N σ => c_X4_ifChat_ok g1 g2 rfl hc hsV, fun N σ => xM_val (c_X5_ifChat_ok g1 g2 ec hc I.2) (vI (by rw [(chL_R Rc e2 hc (sok_R Rc I.2) q).p9 (by decide), Rc.p9 (by decide)]))⟩
      · skip
        exact ⟨_, _, _, _, _, _, _, _, _, _, W, fun N σ => c_X4_ifChat_few g1 g2 hc, fun N σ => (c_X5_ifChat_few g1 g2 (by rw [ec]; exact hc))⟩
theorem st_age {l : Launch} {E : xEnv} {B M : Nat} {VV : Cs} {p z n : Nat} {U : Vs} {kp ho tx sc : Fn} (W : WR VV p z n U ho sc) (x : Int32) : ∃ (VV2 : Cs) (p2 z2 n2 : Nat) (tx2 : Fn) (U2 : Vs) (kp2 ho2 sc2 : Fn) (rv : Int32), WR VV2 p2 z2 n2 U2 ho2 sc2 ∧ (∀ N σ, xM l yX4_age cX4_age 2 (some .int) 5 114 0 0 E B [.ref B, .int x] N (cput E σ B VV (nI p) (nI z) (nI n) tx) N (cput E σ B VV2 (nI p2) (nI z2) (nI n2) tx2) (some (.int rv))) ∧ (∀ N σ, xM l yX5_age cX5_age 4 (some .int) 5 112 0 0 E B [.ref M, .int x] N (mput E σ M U kp ho tx sc) N (mput E σ M U2 kp2 ho2 tx2 sc2) (some (.int rv))) := by
  have W0 := W
  obtain ⟨w1, w2, w3, R, I, w6, w7, w8⟩ := W0
  have hsV : sok (VV 0) := sok_R R I.2
  by_cases h1 : x < 1
  · skip
    exact ⟨_, _, _, _, _, _, _, _, _, _, W, fun N σ => c_X4_age_lo h1, fun N σ => (c_X5_age_bad (fun z => h1 |> fun y => absurd y (Int32.not_lt.mpr z.1)))⟩
  · by_cases h2 : 99 < x
    · skip
      exact ⟨_, _, _, _, _, _, _, _, _, _, W, fun N σ => c_X4_age_hi h1 h2, fun N σ => (c_X5_age_bad (fun z => absurd h2 (Int32.not_lt.mpr z.2)))⟩
    · skip
      obtain ⟨q, g1, g2, rfl⟩ := rg_q (x := x) (lo := 1) (hh := 99) (by decide) (by decide) h1 h2
      exact ⟨_, _, _, _, _, _, _, _, _, _, (WR_r0 W (yrL_R R q) (iu_yr I q)), fun N σ => c_X4_age_ok w1 w2 g1 g2, fun N σ => xM_val (c_X5_age_ok w2 w6 g1 g2 I.1) (vI (by rw [(yrL_R R q).p9 (by decide), R.p9 (by decide)]))⟩
theorem st_count {l : Launch} {E : xEnv} {B M : Nat} {VV : Cs} {p z n : Nat} {U : Vs} {kp ho tx sc : Fn} (W : WR VV p z n U ho sc) (x : Int32) : ∃ (VV2 : Cs) (p2 z2 n2 : Nat) (tx2 : Fn) (U2 : Vs) (kp2 ho2 sc2 : Fn) (rv : Int32), WR VV2 p2 z2 n2 U2 ho2 sc2 ∧ (∀ N σ, xM l yX4_count cX4_count 2 (some .int) 3 68 0 0 E B [.ref B, .int x] N (cput E σ B VV (nI p) (nI z) (nI n) tx) N (cput E σ B VV2 (nI p2) (nI z2) (nI n2) tx2) (some (.int rv))) ∧ (∀ N σ, xM l yX5_count cX5_count 2 (some .int) 4 86 0 0 E B [.ref M, .int x] N (mput E σ M U kp ho tx sc) N (mput E σ M U2 kp2 ho2 tx2 sc2) (some (.int rv))) := by
  have W0 := W
  obtain ⟨w1, w2, w3, R, I, w6, w7, w8⟩ := W0
  have hsV : sok (VV 0) := sok_R R I.2
  by_cases r : 0 ≤ x ∧ x < 7
  · obtain ⟨i, hi, rfl⟩ := bd_of (c := 7) (by decide) r
    exact ⟨_, _, _, _, _, _, _, _, _, _, W, fun N σ => c_X4_count_ok hi, fun N σ => xM_val (c_X5_count_ok hi) (vI (mu_R R hi))⟩
  · skip
    exact ⟨_, _, _, _, _, _, _, _, _, _, W, fun N σ => c_X4_count_bad r, fun N σ => (c_X5_count_bad r)⟩
theorem st_setting {l : Launch} {E : xEnv} {B M : Nat} {VV : Cs} {p z n : Nat} {U : Vs} {kp ho tx sc : Fn} (W : WR VV p z n U ho sc) (x : Int32) : ∃ (VV2 : Cs) (p2 z2 n2 : Nat) (tx2 : Fn) (U2 : Vs) (kp2 ho2 sc2 : Fn) (rv : Int32), WR VV2 p2 z2 n2 U2 ho2 sc2 ∧ (∀ N σ, xM l yX4_setting cX4_setting 2 (some .int) 2 42 0 0 E B [.ref B, .int x] N (cput E σ B VV (nI p) (nI z) (nI n) tx) N (cput E σ B VV2 (nI p2) (nI z2) (nI n2) tx2) (some (.int rv))) ∧ (∀ N σ, xM l yX5_setting cX5_setting 2 (some .int) 2 42 0 0 E B [.ref M, .int x] N (mput E σ M U kp ho tx sc) N (mput E σ M U2 kp2 ho2 tx2 sc2) (some (.int rv))) := by
  have W0 := W
  obtain ⟨w1, w2, w3, R, I, w6, w7, w8⟩ := W0
  have hsV : sok (VV 0) := sok_R R I.2
  by_cases r : 0 ≤ x ∧ x < 4
  · obtain ⟨i, hi, rfl⟩ := bd_of (c := 4) (by decide) r
    exact ⟨_, _, _, _, _, _, _, _, _, _, W, fun N σ => c_X4_setting_ok hi, fun N σ => xM_val (c_X5_setting_ok hi) (vI R.p8)⟩
  · skip
    exact ⟨_, _, _, _, _, _, _, _, _, _, W, fun N σ => c_X4_setting_no r, fun N σ => (c_X5_setting_no r)⟩
theorem st_weight {l : Launch} {E : xEnv} {B M : Nat} {VV : Cs} {p z n : Nat} {U : Vs} {kp ho tx sc : Fn} (W : WR VV p z n U ho sc) (x m w : Int32) : ∃ (VV2 : Cs) (p2 z2 n2 : Nat) (tx2 : Fn) (U2 : Vs) (kp2 ho2 sc2 : Fn) (rv : Int32), WR VV2 p2 z2 n2 U2 ho2 sc2 ∧ (∀ N σ, xM l yX4_weight cX4_weight 5 (some .int) 2 42 0 0 E B [.ref B, .int x, .int m, .int w] N (cput E σ B VV (nI p) (nI z) (nI n) tx) N (cput E σ B VV2 (nI p2) (nI z2) (nI n2) tx2) (some (.int rv))) ∧ (∀ N σ, xM l yX5_weight cX5_weight 4 (some .int) 2 45 0 0 E B [.ref M, .int x, .int m, .int w] N (mput E σ M U kp ho tx sc) N (mput E σ M U2 kp2 ho2 tx2 sc2) (some (.int rv))) := by
  have W0 := W
  obtain ⟨w1, w2, w3, R, I, w6, w7, w8⟩ := W0
  have hsV : sok (VV 0) := sok_R R I.2
  by_cases s1 : ∃ k, k < 8 ∧ x = nI k ∧ VV 0 10 k = 1
  · obtain ⟨k, hk, rfl, hp⟩ := s1
    have up : U 10 k = 1 := by rw [R.p10 hk]; exact hp
    by_cases r : 0 ≤ m ∧ m < 6
    · obtain ⟨i, hi, rfl⟩ := bd_of (c := 6) (by decide) r
      by_cases r2 : 0 ≤ w ∧ w < 14
      · obtain ⟨j, hj, rfl⟩ := bd_of (c := 14) (by decide) r2
        exact ⟨_, _, _, _, _, _, _, _, _, _, W, fun N σ => c_X4_weight_ok hk hp hi hj, fun N σ => xM_val (c_X5_weight_ok hk up hi hj) (vI (congrFun (R.row hk hp) _))⟩
      · skip
        exact ⟨_, _, _, _, _, _, _, _, _, _, W, fun N σ => c_X4_weight_n3 hk hp hi r2, fun N σ => (c_X5_weight_n3 hk up hi r2)⟩
    · skip
      exact ⟨_, _, _, _, _, _, _, _, _, _, W, fun N σ => c_X4_weight_n2 hk hp r, fun N σ => (c_X5_weight_n2 hk up r)⟩
  · have nu := noU R s1
    exact ⟨_, _, _, _, _, _, _, _, _, _, W, fun N σ => c_X4_weight_n1 s1, fun N σ => (c_X5_weight_n1 nu)⟩
theorem st_speaker {l : Launch} {E : xEnv} {B M : Nat} {VV : Cs} {p z n : Nat} {U : Vs} {kp ho tx sc : Fn} (W : WR VV p z n U ho sc) (x w : Int32) : ∃ (VV2 : Cs) (p2 z2 n2 : Nat) (tx2 : Fn) (U2 : Vs) (kp2 ho2 sc2 : Fn) (rv : Int32), WR VV2 p2 z2 n2 U2 ho2 sc2 ∧ (∀ N σ, xM l yX4_speaker cX4_speaker 4 (some .int) 5 113 0 0 E B [.ref B, .int x, .int w] N (cput E σ B VV (nI p) (nI z) (nI n) tx) N (cput E σ B VV2 (nI p2) (nI z2) (nI n2) tx2) (some (.int rv))) ∧ (∀ N σ, xM l yX5_speaker cX5_speaker 3 (some .int) 5 117 0 0 E B [.ref M, .int x, .int w] N (mput E σ M U kp ho tx sc) N (mput E σ M U2 kp2 ho2 tx2 sc2) (some (.int rv))) := by
  have W0 := W
  obtain ⟨w1, w2, w3, R, I, w6, w7, w8⟩ := W0
  have hsV : sok (VV 0) := sok_R R I.2
  by_cases s1 : ∃ k, k < 8 ∧ x = nI k ∧ VV 0 10 k = 1
  · obtain ⟨k, hk, rfl, hp⟩ := s1
    have up : U 10 k = 1 := by rw [R.p10 hk]; exact hp
    by_cases r : 0 ≤ w ∧ w < 5
    · obtain ⟨i, hi, rfl⟩ := bd_of (c := 5) (by decide) r
      exact ⟨_, _, _, _, _, _, _, _, _, _, W, fun N σ => c_X4_speaker_ok hk hp hi, fun N σ => xM_val (c_X5_speaker_ok hk up hi) (vI (ns_R R hk hp))⟩
    · skip
      exact ⟨_, _, _, _, _, _, _, _, _, _, W, fun N σ => c_X4_speaker_bad hk hp r, fun N σ => (c_X5_speaker_bad hk up r)⟩
  · have nu := noU R s1
    exact ⟨_, _, _, _, _, _, _, _, _, _, W, fun N σ => c_X4_speaker_no s1, fun N σ => (c_X5_speaker_no nu)⟩
theorem st_wordOf {l : Launch} {E : xEnv} {B M : Nat} {VV : Cs} {p z n : Nat} {U : Vs} {kp ho tx sc : Fn} (W : WR VV p z n U ho sc) (x w : Int32) : ∃ (VV2 : Cs) (p2 z2 n2 : Nat) (tx2 : Fn) (U2 : Vs) (kp2 ho2 sc2 : Fn) (rv : Int32), WR VV2 p2 z2 n2 U2 ho2 sc2 ∧ (∀ N σ, xM l yX4_wordOf cX4_wordOf 4 (some .int) 3 67 0 0 E B [.ref B, .int x, .int w] N (cput E σ B VV (nI p) (nI z) (nI n) tx) N (cput E σ B VV2 (nI p2) (nI z2) (nI n2) tx2) (some (.int rv))) ∧ (∀ N σ, xM l yX5_wordOf cX5_wordOf 3 (some .int) 3 71 0 0 E B [.ref M, .int x, .int w] N (mput E σ M U kp ho tx sc) N (mput E σ M U2 kp2 ho2 tx2 sc2) (some (.int rv))) := by
  have W0 := W
  obtain ⟨w1, w2, w3, R, I, w6, w7, w8⟩ := W0
  have hsV : sok (VV 0) := sok_R R I.2
  by_cases s1 : ∃ k, k < 8 ∧ x = nI k ∧ VV 0 10 k = 1
  · obtain ⟨k, hk, rfl, hp⟩ := s1
    have up : U 10 k = 1 := by rw [R.p10 hk]; exact hp
    by_cases r : 0 ≤ w ∧ w < 6
    · obtain ⟨i, hi, rfl⟩ := bd_of (c := 6) (by decide) r
      exact ⟨_, _, _, _, _, _, _, _, _, _, W, fun N σ => c_X4_wordOf_ok hk hp hi, fun N σ => xM_val (c_X5_wordOf_ok hk up hi) (vI (by rw [R.row hk hp]))⟩
    · skip
      exact ⟨_, _, _, _, _, _, _, _, _, _, W, fun N σ => c_X4_wordOf_n2 hk hp r, fun N σ => (c_X5_wordOf_n2 hk up r)⟩
  · have nu := noU R s1
    exact ⟨_, _, _, _, _, _, _, _, _, _, W, fun N σ => c_X4_wordOf_no s1, fun N σ => (c_X5_wordOf_no nu)⟩
theorem st_hears {l : Launch} {E : xEnv} {B M : Nat} {VV : Cs} {p z n : Nat} {U : Vs} {kp ho tx sc : Fn} (W : WR VV p z n U ho sc) (x w : Int32) : ∃ (VV2 : Cs) (p2 z2 n2 : Nat) (tx2 : Fn) (U2 : Vs) (kp2 ho2 sc2 : Fn) (rv : Int32), WR VV2 p2 z2 n2 U2 ho2 sc2 ∧ (∀ N σ, xM l yX4_hears cX4_hears 4 (some .int) 3 67 0 0 E B [.ref B, .int x, .int w] N (cput E σ B VV (nI p) (nI z) (nI n) tx) N (cput E σ B VV2 (nI p2) (nI z2) (nI n2) tx2) (some (.int rv))) ∧ (∀ N σ, xM l yX5_hears cX5_hears 3 (some .int) 3 71 0 0 E B [.ref M, .int x, .int w] N (mput E σ M U kp ho tx sc) N (mput E σ M U2 kp2 ho2 tx2 sc2) (some (.int rv))) := by
  have W0 := W
  obtain ⟨w1, w2, w3, R, I, w6, w7, w8⟩ := W0
  have hsV : sok (VV 0) := sok_R R I.2
  by_cases s1 : ∃ k, k < 8 ∧ x = nI k ∧ VV 0 10 k = 1
  · obtain ⟨k, hk, rfl, hp⟩ := s1
    have up : U 10 k = 1 := by rw [R.p10 hk]; exact hp
    by_cases r : 0 ≤ w ∧ w < 14
    · obtain ⟨i, hi, rfl⟩ := bd_of (c := 14) (by decide) r
      exact ⟨_, _, _, _, _, _, _, _, _, _, W, fun N σ => c_X4_hears_ok hk hp hi, fun N σ => xM_val (c_X5_hears_ok hk up hi) (vI (by rw [R.row hk hp]))⟩
    · skip
      exact ⟨_, _, _, _, _, _, _, _, _, _, W, fun N σ => c_X4_hears_n2 hk hp r, fun N σ => (c_X5_hears_n2 hk up r)⟩
  · have nu := noU R s1
    exact ⟨_, _, _, _, _, _, _, _, _, _, W, fun N σ => c_X4_hears_no s1, fun N σ => (c_X5_hears_no nu)⟩
theorem st_gesture {l : Launch} {E : xEnv} {B M : Nat} {VV : Cs} {p z n : Nat} {U : Vs} {kp ho tx sc : Fn} (W : WR VV p z n U ho sc) (x y : Int32) : ∃ (VV2 : Cs) (p2 z2 n2 : Nat) (tx2 : Fn) (U2 : Vs) (kp2 ho2 sc2 : Fn) (rv : Int32), WR VV2 p2 z2 n2 U2 ho2 sc2 ∧ (∀ N σ, xM l yX4_gesture cX4_gesture 5 (some .int) 2 41 0 0 E B [.ref B, .int x, .int y] N (cput E σ B VV (nI p) (nI z) (nI n) tx) N (cput E σ B VV2 (nI p2) (nI z2) (nI n2) tx2) (some (.int rv))) ∧ (∀ N σ, xM l yX5_gesture cX5_gesture 5 (some .int) 2 42 0 0 E B [.ref M, .int x, .int y] N (mput E σ M U kp ho tx sc) N (mput E σ M U2 kp2 ho2 tx2 sc2) (some (.int rv))) := by
  have W0 := W
  obtain ⟨w1, w2, w3, R, I, w6, w7, w8⟩ := W0
  have hsV : sok (VV 0) := sok_R R I.2
  by_cases r : 0 ≤ x ∧ x < 14
  · obtain ⟨i, hi, rfl⟩ := bd_of (c := 14) (by decide) r
    by_cases r2 : 0 ≤ y ∧ y < nI (lwN i)
    · obtain ⟨j, hj, rfl⟩ := bd_of (c := lwN i) (by have := @lwN_le i; omega) r2
      exact ⟨_, _, _, _, _, _, _, _, _, _, W, fun N σ => c_X4_gesture_ok hi hj, fun N σ => (c_X5_gesture_ok hi hj)⟩
    · skip
      exact ⟨_, _, _, _, _, _, _, _, _, _, W, fun N σ => c_X4_gesture_none hi r2, fun N σ => (c_X5_gesture_none hi r2)⟩
  · skip
    exact ⟨_, _, _, _, _, _, _, _, _, _, W, fun N σ => c_X4_gesture_no r, fun N σ => (c_X5_gesture_no r)⟩
theorem st_agreement {l : Launch} {E : xEnv} {B M : Nat} {VV : Cs} {p z n : Nat} {U : Vs} {kp ho tx sc : Fn} (W : WR VV p z n U ho sc) (x y w : Int32) : ∃ (VV2 : Cs) (p2 z2 n2 : Nat) (tx2 : Fn) (U2 : Vs) (kp2 ho2 sc2 : Fn) (rv : Int32), WR VV2 p2 z2 n2 U2 ho2 sc2 ∧ (∀ N σ, xM l yX4_agreement cX4_agreement 6 (some .int) 4 91 0 0 E B [.ref B, .int x, .int y, .int w] N (cput E σ B VV (nI p) (nI z) (nI n) tx) N (cput E σ B VV2 (nI p2) (nI z2) (nI n2) tx2) (some (.int rv))) ∧ (∀ N σ, xM l yX5_agreement cX5_agreement 4 (some .int) 4 95 0 0 E B [.ref M, .int x, .int y, .int w] N (mput E σ M U kp ho tx sc) N (mput E σ M U2 kp2 ho2 tx2 sc2) (some (.int rv))) := by
  have W0 := W
  obtain ⟨w1, w2, w3, R, I, w6, w7, w8⟩ := W0
  have hsV : sok (VV 0) := sok_R R I.2
  by_cases s1 : ∃ k, k < 8 ∧ x = nI k ∧ VV 0 10 k = 1
  · obtain ⟨k, hk, rfl, hp⟩ := s1
    have up : U 10 k = 1 := by rw [R.p10 hk]; exact hp
    by_cases s2 : ∃ k, k < 8 ∧ y = nI k ∧ VV 0 10 k = 1
    · obtain ⟨q, hq, rfl, hpq⟩ := s2
      have uq : U 10 q = 1 := by rw [R.p10 hq]; exact hpq
      by_cases e0 : w = 0
      · subst e0
        exact ⟨_, _, _, _, _, _, _, _, _, _, W, fun N σ => c_X4_agreement_w0 hk hp hq hpq, fun N σ => xM_val (c_X5_agreement_w0 hk up hq uq) (vI (congrArg nI (ag_cg (R.row hk hp) (R.row hq hpq) 6)))⟩
      · by_cases e1 : w = 1
        · subst e1
          exact ⟨_, _, _, _, _, _, _, _, _, _, W, fun N σ => c_X4_agreement_w1 hk hp hq hpq, fun N σ => xM_val (c_X5_agreement_w1 hk up hq uq) (vI (congrArg nI ((ag_cg (R.row hk hp) (R.row hq hpq) 6).trans aw_e.symm)))⟩
        · skip
          exact ⟨_, _, _, _, _, _, _, _, _, _, W, fun N σ => c_X4_agreement_bad hk hp hq hpq e0 e1, fun N σ => (c_X5_agreement_bad hk up hq uq e0 e1)⟩
    · have nuq := noU R s2
      exact ⟨_, _, _, _, _, _, _, _, _, _, W, fun N σ => c_X4_agreement_n2 hk hp s2, fun N σ => (c_X5_agreement_n2 hk up nuq)⟩
  · have nu := noU R s1
    by_cases s2 : ∃ k, k < 8 ∧ y = nI k ∧ VV 0 10 k = 1
    · obtain ⟨q, hq, rfl, hpq⟩ := s2
      have uq : U 10 q = 1 := by rw [R.p10 hq]; exact hpq
      exact ⟨_, _, _, _, _, _, _, _, _, _, W, fun N σ => c_X4_agreement_n1s s1 hq hpq, fun N σ => (c_X5_agreement_n1 nu)⟩
    · have nuq := noU R s2
      exact ⟨_, _, _, _, _, _, _, _, _, _, W, fun N σ => c_X4_agreement_n1n s1 s2, fun N σ => (c_X5_agreement_n1 nu)⟩
theorem st_understanding {l : Launch} {E : xEnv} {B M : Nat} {VV : Cs} {p z n : Nat} {U : Vs} {kp ho tx sc : Fn} (W : WR VV p z n U ho sc) (x y : Int32) : ∃ (VV2 : Cs) (p2 z2 n2 : Nat) (tx2 : Fn) (U2 : Vs) (kp2 ho2 sc2 : Fn) (rv : Int32), WR VV2 p2 z2 n2 U2 ho2 sc2 ∧ (∀ N σ, xM l yX4_understanding cX4_understanding 5 (some .int) 4 91 0 0 E B [.ref B, .int x, .int y] N (cput E σ B VV (nI p) (nI z) (nI n) tx) N (cput E σ B VV2 (nI p2) (nI z2) (nI n2) tx2) (some (.int rv))) ∧ (∀ N σ, xM l yX5_understanding cX5_understanding 3 (some .int) 4 95 0 0 E B [.ref M, .int x, .int y] N (mput E σ M U kp ho tx sc) N (mput E σ M U2 kp2 ho2 tx2 sc2) (some (.int rv))) := by
  have W0 := W
  obtain ⟨w1, w2, w3, R, I, w6, w7, w8⟩ := W0
  have hsV : sok (VV 0) := sok_R R I.2
  by_cases s1 : ∃ k, k < 8 ∧ x = nI k ∧ VV 0 10 k = 1
  · obtain ⟨k, hk, rfl, hp⟩ := s1
    have up : U 10 k = 1 := by rw [R.p10 hk]; exact hp
    by_cases s2 : ∃ k, k < 8 ∧ y = nI k ∧ VV 0 10 k = 1
    · obtain ⟨q, hq, rfl, hpq⟩ := s2
      have uq : U 10 q = 1 := by rw [R.p10 hq]; exact hpq
      exact ⟨_, _, _, _, _, _, _, _, _, _, W, fun N σ => c_X4_understanding_ok hk hp hq hpq, fun N σ => xM_val (c_X5_understanding_ok hk up hq uq) (vI (congrArg nI (un_cg (R.row hk hp) (R.row hq hpq) 6)))⟩
    · have nuq := noU R s2
      exact ⟨_, _, _, _, _, _, _, _, _, _, W, fun N σ => c_X4_understanding_n2 hk hp s2, fun N σ => (c_X5_understanding_n2 hk up nuq)⟩
  · have nu := noU R s1
    by_cases s2 : ∃ k, k < 8 ∧ y = nI k ∧ VV 0 10 k = 1
    · obtain ⟨q, hq, rfl, hpq⟩ := s2
      have uq : U 10 q = 1 := by rw [R.p10 hq]; exact hpq
      exact ⟨_, _, _, _, _, _, _, _, _, _, W, fun N σ => c_X4_understanding_n1s s1 hq hpq, fun N σ => (c_X5_understanding_n1 nu)⟩
    · have nuq := noU R s2
      exact ⟨_, _, _, _, _, _, _, _, _, _, W, fun N σ => c_X4_understanding_n1n s1 s2, fun N σ => (c_X5_understanding_n1 nu)⟩
theorem st_common {l : Launch} {E : xEnv} {B M : Nat} {VV : Cs} {p z n : Nat} {U : Vs} {kp ho tx sc : Fn} (W : WR VV p z n U ho sc) (x : Int32) : ∃ (VV2 : Cs) (p2 z2 n2 : Nat) (tx2 : Fn) (U2 : Vs) (kp2 ho2 sc2 : Fn) (rv : Int32), WR VV2 p2 z2 n2 U2 ho2 sc2 ∧ (∀ N σ, xM l yX4_common cX4_common 2 (some .int) 5 114 0 0 E B [.ref B, .int x] N (cput E σ B VV (nI p) (nI z) (nI n) tx) N (cput E σ B VV2 (nI p2) (nI z2) (nI n2) tx2) (some (.int rv))) ∧ (∀ N σ, xM l yX5_common cX5_common 2 (some .int) 4 97 0 0 E B [.ref M, .int x] N (mput E σ M U kp ho tx sc) N (mput E σ M U2 kp2 ho2 tx2 sc2) (some (.int rv))) := by
  have W0 := W
  obtain ⟨w1, w2, w3, R, I, w6, w7, w8⟩ := W0
  have hsV : sok (VV 0) := sok_R R I.2
  by_cases r : 0 ≤ x ∧ x < 6
  · obtain ⟨i, hi, rfl⟩ := bd_of (c := 6) (by decide) r
    exact ⟨_, _, _, _, _, _, _, _, _, _, (WR_vv (VV2 := upV VV 0 (usR (VV 0) i 8)) W (by rw [upV_s]; exact usR_R R) (fun i hi => upV_n (by omega))), fun N σ => c_X4_common_ok hi, fun N σ => xM_val (c_X5_common_ok hi) (vI (congrArg oI (cm_R R)))⟩
  · skip
    exact ⟨_, _, _, _, _, _, _, _, _, _, W, fun N σ => c_X4_common_no r, fun N σ => (c_X5_common_no r)⟩
theorem st_ifMet {l : Launch} {E : xEnv} {B M : Nat} {VV : Cs} {p z n : Nat} {U : Vs} {kp ho tx sc : Fn} (W : WR VV p z n U ho sc) (x y m w : Int32) : ∃ (VV2 : Cs) (p2 z2 n2 : Nat) (tx2 : Fn) (U2 : Vs) (kp2 ho2 sc2 : Fn) (rv : Int32), WR VV2 p2 z2 n2 U2 ho2 sc2 ∧ (∀ N σ, xM l yX4_ifMet cX4_ifMet 8 (some .int) 5 118 0 0 E B [.ref B, .int x, .int y, .int m, .int w] N (cput E σ B VV (nI p) (nI z) (nI n) tx) N (cput E σ B VV2 (nI p2) (nI z2) (nI n2) tx2) (some (.int rv))) ∧ (∀ N σ, xM l yX5_ifMet cX5_ifMet 8 (some .int) 5 118 0 0 E B [.ref M, .int x, .int y, .int m, .int w] N (mput E σ M U kp ho tx sc) N (mput E σ M U2 kp2 ho2 tx2 sc2) (some (.int rv))) := by
  have W0 := W
  obtain ⟨w1, w2, w3, R, I, w6, w7, w8⟩ := W0
  have hsV : sok (VV 0) := sok_R R I.2
  by_cases s1 : ∃ k, k < 8 ∧ x = nI k ∧ VV 0 10 k = 1
  · obtain ⟨k, hk, rfl, hp⟩ := s1
    have up : U 10 k = 1 := by rw [R.p10 hk]; exact hp
    by_cases s2 : ∃ k, k < 8 ∧ y = nI k ∧ VV 0 10 k = 1
    · obtain ⟨q, hq, rfl, hpq⟩ := s2
      have uq : U 10 q = 1 := by rw [R.p10 hq]; exact hpq
      by_cases r : 0 ≤ m ∧ m < 6
      · obtain ⟨i, hi, rfl⟩ := bd_of (c := 6) (by decide) r
        by_cases hne : k = q
        · subst hne
          by_cases r2 : 0 ≤ w ∧ w < 4
          · obtain ⟨j, hj, rfl⟩ := bd_of (c := 4) (by decide) r2
            exact ⟨_, _, _, _, _, _, _, _, _, _, W, fun N σ => c_X4_ifMet_same hk hp hi hj, fun N σ => (c_X5_ifMet_same hk up hi hj)⟩
          · skip
            exact ⟨_, _, _, _, _, _, _, _, _, _, W, fun N σ => c_X4_ifMet_bad hk hp hk hp hi r2, fun N σ => (c_X5_ifMet_bads hk up hi r2)⟩
        · have Rc : RV (cpV (VV 1) (VV 0)) U := cp_R R
          have p1 : cpV (VV 1) (VV 0) 10 k = 1 := by rw [cpV_k (Or.inl rfl) hk]; exact hp
          have p2 : cpV (VV 1) (VV 0) 10 q = 1 := by rw [cpV_k (Or.inl rfl) hq]; exact hpq
          by_cases r2 : 0 ≤ w ∧ w < 4
          · obtain ⟨j, hj, rfl⟩ := bd_of (c := 4) (by decide) r2
            exact ⟨_, _, _, _, _, _, _, _, _, _, (WR_sc (sc2 := upd (upd sc 2 (nI (mt1 U k q i).2.1)) 3 (nI (mt1 U k q i).2.2)) (n2 := n) (WR_vv (VV2 := upV VV 1 (mtV (cpV (VV 1) (VV 0)) k q i)) W (by rw [upV_n (by decide)]; exact R) (fun i hi => upV_n (by omega))) ((pk_un (by decide)).trans ((pk_un (by decide)).trans w6)) ((pk_un (by decide)).trans ((pk_un (by decide)).trans w7)) w3), fun N σ => c_X4_ifMet_ok hk hp hq hpq hi hj hne hsV, fun N σ => xM_val (c_X5_ifMet_ok hk up hq uq hi hj hne I.2) (vI (im_R Rc hk hq p1 p2))⟩
          · skip
            exact ⟨_, _, _, _, _, _, _, _, _, _, W, fun N σ => c_X4_ifMet_bad hk hp hq hpq hi r2, fun N σ => (c_X5_ifMet_bad hk up hq uq hi hne r2)⟩
      · skip
        exact ⟨_, _, _, _, _, _, _, _, _, _, W, fun N σ => c_X4_ifMet_n3 hk hp hq hpq r, fun N σ => (c_X5_ifMet_n3 hk up hq uq r)⟩
    · have nuq := noU R s2
      exact ⟨_, _, _, _, _, _, _, _, _, _, W, fun N σ => c_X4_ifMet_n2 hk hp s2, fun N σ => (c_X5_ifMet_n2 hk up nuq)⟩
  · have nu := noU R s1
    exact ⟨_, _, _, _, _, _, _, _, _, _, W, fun N σ => c_X4_ifMet_n1 s1, fun N σ => (c_X5_ifMet_n1 nu)⟩
theorem st_bestSayer {l : Launch} {E : xEnv} {B M : Nat} {VV : Cs} {p z n : Nat} {U : Vs} {kp ho tx sc : Fn} (W : WR VV p z n U ho sc) (x : Int32) : ∃ (VV2 : Cs) (p2 z2 n2 : Nat) (tx2 : Fn) (U2 : Vs) (kp2 ho2 sc2 : Fn) (rv : Int32), WR VV2 p2 z2 n2 U2 ho2 sc2 ∧ (∀ N σ, xM l yX4_bestSayer cX4_bestSayer 8 (some .int) 4 91 0 0 E B [.ref B, .int x] N (cput E σ B VV (nI p) (nI z) (nI n) tx) N (cput E σ B VV2 (nI p2) (nI z2) (nI n2) tx2) (some (.int rv))) ∧ (∀ N σ, xM l yX5_bestSayer cX5_bestSayer 4 (some .int) 4 95 0 0 E B [.ref M, .int x] N (mput E σ M U kp ho tx sc) N (mput E σ M U2 kp2 ho2 tx2 sc2) (some (.int rv))) := by
  have W0 := W
  obtain ⟨w1, w2, w3, R, I, w6, w7, w8⟩ := W0
  have hsV : sok (VV 0) := sok_R R I.2
  by_cases s1 : ∃ k, k < 8 ∧ x = nI k ∧ VV 0 10 k = 1
  · obtain ⟨k, hk, rfl, hp⟩ := s1
    have up : U 10 k = 1 := by rw [R.p10 hk]; exact hp
    exact ⟨_, _, _, _, _, _, _, _, _, _, W, fun N σ => c_X4_bestSayer_ok hk hp, fun N σ => xM_val (c_X5_bestSayer_ok hk up) (vI (congrArg oI (bs_R R hk hp 8 (Nat.le_refl _)).1))⟩
  · have nu := noU R s1
    exact ⟨_, _, _, _, _, _, _, _, _, _, W, fun N σ => c_X4_bestSayer_no s1, fun N σ => (c_X5_bestSayer_no nu)⟩
theorem st_type {l : Launch} {E : xEnv} {B M : Nat} {VV : Cs} {p z n : Nat} {U : Vs} {kp ho tx sc : Fn} (W : WR VV p z n U ho sc) (x : Int32) : ∃ (VV2 : Cs) (p2 z2 n2 : Nat) (tx2 : Fn) (U2 : Vs) (kp2 ho2 sc2 : Fn) (rv : Int32), WR VV2 p2 z2 n2 U2 ho2 sc2 ∧ (∀ N σ, xM l yX4_type cX4_type 2 (some .int) 2 42 0 0 E B [.ref B, .int x] N (cput E σ B VV (nI p) (nI z) (nI n) tx) N (cput E σ B VV2 (nI p2) (nI z2) (nI n2) tx2) (some (.int rv))) ∧ (∀ N σ, xM l yX5_type cX5_type 2 (some .int) 1 22 0 0 E B [.ref M, .int x] N (mput E σ M U kp ho tx sc) N (mput E σ M U2 kp2 ho2 tx2 sc2) (some (.int rv))) := by
  have W0 := W
  obtain ⟨w1, w2, w3, R, I, w6, w7, w8⟩ := W0
  have hsV : sok (VV 0) := sok_R R I.2
  by_cases h1 : x < 33
  · skip
    exact ⟨_, _, _, _, _, _, _, _, _, _, W, fun N σ => c_X4_type_lo h1, fun N σ => (c_X5_type_bad (fun z => h1 |> fun y => absurd y (Int32.not_lt.mpr z.1)))⟩
  · by_cases h2 : 126 < x
    · skip
      exact ⟨_, _, _, _, _, _, _, _, _, _, W, fun N σ => c_X4_type_hi h1 h2, fun N σ => (c_X5_type_bad (fun z => absurd h2 (Int32.not_lt.mpr z.2)))⟩
    · skip
      obtain ⟨q, g1, g2, rfl⟩ := rg_q (x := x) (lo := 33) (hh := 126) (by decide) (by decide) h1 h2
      by_cases hn : n < 80
      · skip
        exact ⟨_, _, _, _, _, _, _, _, _, _, (WR_sc (sc2 := upd sc 1 (nI (n + 1))) (n2 := n + 1) W ((pk_un (by decide)).trans w6) pk_us hn), fun N σ => c_X4_type_ok g1 g2 hn, fun N σ => (c_X5_type_ok g1 g2 hn w7)⟩
      · skip
        exact ⟨_, _, _, _, _, _, _, _, _, _, W, fun N σ => c_X4_type_full g1 g2 (by omega) (by omega), fun N σ => (c_X5_type_full g1 g2 (by rw [w7, show n = 80 by omega]))⟩
theorem st_clearText {l : Launch} {E : xEnv} {B M : Nat} {VV : Cs} {p z n : Nat} {U : Vs} {kp ho tx sc : Fn} (W : WR VV p z n U ho sc) : ∃ (VV2 : Cs) (p2 z2 n2 : Nat) (tx2 : Fn) (U2 : Vs) (kp2 ho2 sc2 : Fn) (rv : Int32), WR VV2 p2 z2 n2 U2 ho2 sc2 ∧ (∀ N σ, xM l yX4_clearText cX4_clearText 2 (some .int) 0 0 0 0 E B [.ref B] N (cput E σ B VV (nI p) (nI z) (nI n) tx) N (cput E σ B VV2 (nI p2) (nI z2) (nI n2) tx2) (some (.int rv))) ∧ (∀ N σ, xM l yX5_clearText cX5_clearText 2 (some .int) 0 0 0 0 E B [.ref M] N (mput E σ M U kp ho tx sc) N (mput E σ M U2 kp2 ho2 tx2 sc2) (some (.int rv))) := by
  have W0 := W
  obtain ⟨w1, w2, w3, R, I, w6, w7, w8⟩ := W0
  have hsV : sok (VV 0) := sok_R R I.2
  exact ⟨_, _, _, _, _, _, _, _, _, _, (WR_sc (sc2 := upd sc 1 0) (n2 := 0) W ((pk_un (by decide)).trans w6) pk_us (by decide)), fun N σ => c_X4_clearText_ok, fun N σ => (c_X5_clearText w7)⟩
theorem st_syntaxError {l : Launch} {E : xEnv} {B M : Nat} {VV : Cs} {p z n : Nat} {U : Vs} {kp ho tx sc : Fn} (W : WR VV p z n U ho sc) : ∃ (VV2 : Cs) (p2 z2 n2 : Nat) (tx2 : Fn) (U2 : Vs) (kp2 ho2 sc2 : Fn) (rv : Int32), WR VV2 p2 z2 n2 U2 ho2 sc2 ∧ (∀ N σ, xM l yX4_syntaxError cX4_syntaxError 1 (some .int) 3 64 0 0 E B [.ref B] N (cput E σ B VV (nI p) (nI z) (nI n) tx) N (cput E σ B VV2 (nI p2) (nI z2) (nI n2) tx2) (some (.int rv))) ∧ (∀ N σ, xM l yX5_syntaxError cX5_syntaxError 1 (some .int) 5 104 0 0 E B [.ref M] N (mput E σ M U kp ho tx sc) N (mput E σ M U2 kp2 ho2 tx2 sc2) (some (.int rv))) := by
  have W0 := W
  obtain ⟨w1, w2, w3, R, I, w6, w7, w8⟩ := W0
  have hsV : sok (VV 0) := sok_R R I.2
  obtain ⟨sc2, q0, q1, h⟩ := c_X5_syntaxError (l := l) (E := E) (B := B) (M := M) (U := U) (kp := kp) (ho := ho) (tx := tx) w3 w7
  exact ⟨_, _, _, _, _, _, _, _, _, _, (WR_sc W (q0.trans w6) (q1.trans w7) w3), fun N σ => c_X4_syntaxError_ok w3, fun N σ => (h N σ)⟩
theorem st_learn {l : Launch} {E : xEnv} {B M : Nat} {VV : Cs} {p z n : Nat} {U : Vs} {kp ho tx sc : Fn} (W : WR VV p z n U ho sc) : ∃ (VV2 : Cs) (p2 z2 n2 : Nat) (tx2 : Fn) (U2 : Vs) (kp2 ho2 sc2 : Fn) (rv : Int32), WR VV2 p2 z2 n2 U2 ho2 sc2 ∧ (∀ N σ, xM l yX4_learn cX4_learn 2 (some .int) 5 115 0 0 E B [.ref B] N (cput E σ B VV (nI p) (nI z) (nI n) tx) N (cput E σ B VV2 (nI p2) (nI z2) (nI n2) tx2) (some (.int rv))) ∧ (∀ N σ, xM l yX5_learn cX5_learn 3 (some .int) 5 104 0 0 E B [.ref M] N (mput E σ M U kp ho tx sc) N (mput E σ M U2 kp2 ho2 tx2 sc2) (some (.int rv))) := by
  have W0 := W
  obtain ⟨w1, w2, w3, R, I, w6, w7, w8⟩ := W0
  have hsV : sok (VV 0) := sok_R R I.2
  by_cases hb : feS tx n = -6
  · obtain ⟨L, sc2, hL, q0, q1, h⟩ := c_X5_learn_ok (l := l) (E := E) (B := B) (M := M) (U := U) (kp := kp) (ho := ho) w3 w7 w2 w6 hb
    have g := gv_R L 0 (VV 0) U hL R
    exact ⟨_, _, _, _, _, _, _, _, _, _, (WR_rec W (n2 := 0) g.1 (iu_gv L 0 U hL I) q0 q1 (by decide)), fun N σ => c_X4_learn_ok w1 w2 w3 hb hL, fun N σ => xM_val (h N σ) (vI (congrArg nI g.2))⟩
  · obtain ⟨sc2, q0, q1, h⟩ := c_X5_learn_bad (l := l) (E := E) (B := B) (M := M) (U := U) (kp := kp) (ho := ho) w3 w7 hb
    exact ⟨_, _, _, _, _, _, _, _, _, _, (WR_sc W (q0.trans w6) (q1.trans w7) w3), fun N σ => c_X4_learn_bad w3 hb, fun N σ => (h N σ)⟩
theorem st_undo {l : Launch} {E : xEnv} {B M : Nat} {VV : Cs} {p z n : Nat} {U : Vs} {kp ho tx sc : Fn} (W : WR VV p z n U ho sc) : ∃ (VV2 : Cs) (p2 z2 n2 : Nat) (tx2 : Fn) (U2 : Vs) (kp2 ho2 sc2 : Fn) (rv : Int32), WR VV2 p2 z2 n2 U2 ho2 sc2 ∧ (∀ N σ, xM l yX4_undo cX4_undo 1 (some .int) 4 97 0 0 E B [.ref B] N (cput E σ B VV (nI p) (nI z) (nI n) tx) N (cput E σ B VV2 (nI p2) (nI z2) (nI n2) tx2) (some (.int rv))) ∧ (∀ N σ, xM l yX5_undo cX5_undo 1 (some .int) 1 24 0 0 E B [.ref M] N (mput E σ M U kp ho tx sc) N (mput E σ M U2 kp2 ho2 tx2 sc2) (some (.int rv))) := by
  have W0 := W
  obtain ⟨w1, w2, w3, R, I, w6, w7, w8⟩ := W0
  have hsV : sok (VV 0) := sok_R R I.2
  cases z with
  | zero => exact ⟨_, _, _, _, _, _, _, _, _, _, W, fun N σ => c_X4_undo_0 w1, fun N σ => c_X5_undo_0 w6⟩
  | succ z =>
    obtain ⟨X, x1, x2, x3⟩ := w8 z (by omega)
    rw [show (p + 6 - (z + 1) + z) % 6 = (p + 5) % 6 by omega] at x1
    have W2 : WR (upV VV 0 (cpV (VV 0) (VV (2 + (p + 5) % 6)))) ((p + 5) % 6) z n X ho (upd sc 0 (nI z)) := by
      refine ⟨by omega, by omega, w3, by rw [upV_s]; exact cp_R x1, x2, pk_us, (pk_un (by decide)).trans w7, fun i hi => ?_⟩
      obtain ⟨Y, y1, y2, y3⟩ := w8 i (by omega)
      refine ⟨Y, ?_, y2, y3⟩
      rw [upV_n (by omega), show ((p + 5) % 6 + 6 - z + i) % 6 = (p + 6 - (z + 1) + i) % 6 by omega]
      exact y1
    exact ⟨_, _, _, _, _, _, _, _, _, _, W2, fun N σ => c_X4_undo_s w1 (by omega), fun N σ => (c_X5_undo_s (by omega) w6 x3)⟩
theorem st_digest {l : Launch} {E : xEnv} {B M : Nat} {VV : Cs} {p z n : Nat} {U : Vs} {kp ho tx sc : Fn} (W : WR VV p z n U ho sc) : ∃ (VV2 : Cs) (p2 z2 n2 : Nat) (tx2 : Fn) (U2 : Vs) (kp2 ho2 sc2 : Fn) (rv : Int64), WR VV2 p2 z2 n2 U2 ho2 sc2 ∧ (∀ N σ, xM l yX4_digest cX4_digest 4 (some .long) 6 140 0 0 E B [.ref B] N (cput E σ B VV (nI p) (nI z) (nI n) tx) N (cput E σ B VV2 (nI p2) (nI z2) (nI n2) tx2) (some (.long rv))) ∧ (∀ N σ, xM l yX5_digest cX5_digest 5 (some .long) 5 117 0 0 E B [.ref M] N (mput E σ M U kp ho tx sc) N (mput E σ M U2 kp2 ho2 tx2 sc2) (some (.long rv))) := by
  have W0 := W
  obtain ⟨w1, w2, w3, R, I, w6, w7, w8⟩ := W0
  have hsV : sok (VV 0) := sok_R R I.2
  exact ⟨_, _, _, _, _, _, _, _, _, _, WR_vv (VV2 := upV VV 0 (usC (VV 0) 6)) W (by rw [upV_s]; exact us_R R 6) (fun i hi => upV_n (by omega)), fun N σ => c_X4_digest, fun N σ => xM_val c_X5_digest (by rw [dg_R R])⟩
