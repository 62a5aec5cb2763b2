/-! the two worlds, related; each step keeps them so and answers the same -/
def WR (VV : Cs) (p z n : Nat) (U : Vs) (ho sc : Fn) : Prop := p < 6 ∧ z ≤ 6 ∧ n ≤ 80 ∧ RV (VV 0) U ∧ IU U ∧ sc 0 = nI z ∧ sc 1 = nI n ∧ ∀ i, i < z → ∃ W, RV (VV (2 + (p + 6 - z + i) % 6)) W ∧ IU W ∧ ∀ j, j < 705 → ho (i * 705 + j) = flat W j
theorem sok_R {V U : Vs} (R : RV V U) (h : sok U) : sok V := by
  obtain ⟨q, hq, e⟩ := h
  exact ⟨q, hq, by rw [← R.p9 (by decide)]; exact e⟩
theorem noU {V U : Vs} (R : RV V U) {x : Int32} (h : ¬ ∃ k, k < 8 ∧ x = nI k ∧ V 10 k = 1) : ¬ ∃ k, k < 8 ∧ x = nI k ∧ U 10 k = 1 := by
  rintro ⟨k, hk, e, hp⟩
  exact h ⟨k, hk, e, by rw [← R.p10 hk]; exact hp⟩
theorem WR_vv {VV VV2 : Cs} {p z n : Nat} {U : Vs} {ho sc : Fn} (W : WR VV p z n U ho sc) (h0 : RV (VV2 0) U) (h : ∀ i, 2 ≤ i → VV2 i = VV i) : WR VV2 p z n U ho sc := by
  obtain ⟨w1, w2, w3, w4, w5, w6, w7, w8⟩ := W
  exact ⟨w1, w2, w3, h0, w5, w6, w7, fun i hi => by rw [h _ (by omega)]; exact w8 i hi⟩
theorem WR_sc {VV : Cs} {p z n n2 : Nat} {U : Vs} {ho sc sc2 : Fn} (W : WR VV p z n U ho sc) (h0 : sc2 0 = nI z) (h1 : sc2 1 = nI n2) (hn : n2 ≤ 80) : WR VV p z n2 U ho sc2 := by
  obtain ⟨w1, w2, w3, w4, w5, w6, w7, w8⟩ := W
  exact ⟨w1, w2, hn, w4, w5, h0, h1, w8⟩
theorem rc_at {ho : Fn} {U : Vs} {z i j : Nat} (hz : z ≤ 6) (hi : i < min 6 (z + 1)) (hj : j < 705) : rcH ho U z (i * 705 + j) = if i + 1 = min 6 (z + 1) then flat U j else if z = 6 then ho ((i + 1) * 705 + j) else ho (i * 705 + j) := by
  unfold rcH
  by_cases h6 : z = 6
  · subst h6
    rw [if_pos rfl]
    unfold cpA
    by_cases h : i = 5
    · subst h
      rw [if_pos (by omega), if_pos (by decide)]
      exact congrArg (flat U) (by omega)
    · rw [if_neg (by omega), if_neg (by omega), if_pos rfl]
      unfold shL
      rw [if_pos (by omega)]
      exact congrArg ho (by omega)
  · rw [if_neg h6, if_neg h6]
    unfold cpA
    by_cases h : i = z
    · subst h
      rw [if_pos (by omega), if_pos (by omega)]
      exact congrArg (flat U) (by omega)
    · rw [if_neg (by omega), if_neg (by omega)]
theorem WR_rec {VV : Cs} {p z n n2 : Nat} {U U2 V2 : Vs} {ho sc sc2 : Fn} (W : WR VV p z n U ho sc) (hR : RV V2 U2) (hI : IU U2) (h0 : sc2 0 = nI (min 6 (z + 1))) (h1 : sc2 1 = nI n2) (hn : n2 ≤ 80) : WR (upV (kpV VV p) 0 V2) ((p + 1) % 6) (min 6 (z + 1)) n2 U2 (rcH ho U z) sc2 := by
  obtain ⟨w1, w2, w3, w4, w5, w6, w7, w8⟩ := W
  refine ⟨by omega, by omega, hn, by rw [upV_s]; exact hR, hI, h0, h1, fun i hi => ?_⟩
  have e : ∀ q, upV (kpV VV p) 0 V2 (2 + q) = if q = p then cpV (VV (2 + p)) (VV 0) else VV (2 + q) := by
    intro q
    rw [upV_n (by omega)]
    by_cases h : q = p
    · subst h; rw [if_pos rfl]; exact upV_s
    · rw [if_neg h]; exact upV_n (by omega)
  rw [e]
  by_cases hl : i + 1 = min 6 (z + 1)
  · rw [if_pos (by omega)]
    exact ⟨U, cp_R w4, w5, fun j hj => by rw [rc_at w2 hi hj, if_pos hl]⟩
  · rw [if_neg (by omega)]
    by_cases h6 : z = 6
    · obtain ⟨X, x1, x2, x3⟩ := w8 (i + 1) (by omega)
      refine ⟨X, ?_, x2, fun j hj => ?_⟩
      · rw [show ((p + 1) % 6 + 6 - min 6 (z + 1) + i) % 6 = (p + 6 - z + (i + 1)) % 6 by omega]; exact x1
      · rw [rc_at w2 hi hj, if_neg hl, if_pos h6]; exact x3 j hj
    · obtain ⟨X, x1, x2, x3⟩ := w8 i (by omega)
      refine ⟨X, ?_, x2, fun j hj => ?_⟩
      · rw [show ((p + 1) % 6 + 6 - min 6 (z + 1) + i) % 6 = (p + 6 - z + i) % 6 by omega]; exact x1
      · rw [rc_at w2 hi hj, if_neg hl, if_neg h6]; exact x3 j hj
def ST (E : xEnv) (B M : Nat) (VV : Cs) (p z n : Nat) (tx : Fn) (U : Vs) (kp ho sc : Fn) (PC PM : Nat → Sg → Sg → Value → Prop) : Prop :=
  ∃ (VV2 : Cs) (p2 z2 n2 : Nat) (tx2 : Fn) (U2 : Vs) (kp2 ho2 sc2 : Fn) (v : Value), WR VV2 p2 z2 n2 U2 ho2 sc2 ∧ (∀ N σ, PC N (cput E σ B VV (nI p) (nI z) (nI n) tx) (cput E σ B VV2 (nI p2) (nI z2) (nI n2) tx2) v) ∧ (∀ N σ, PM N (mput E σ M U kp ho tx sc) (mput E σ M U2 kp2 ho2 tx2 sc2) v)
