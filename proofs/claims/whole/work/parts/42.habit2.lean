/-! a habit is read: the model's way and the automaton's -/
theorem chM_ge {n j : Nat} {tx : Fn} (h : 48 ≤ chM n tx j) : j < n := by
  by_cases hj : j < n
  · exact hj
  · have e : chM n tx j = -1 := if_neg hj
    rw [e] at h
    exact absurd h (by decide)
theorem ex_g {s : Int32} {i : Nat} (hi : i < 3) (h : gesP s) : exS (4 + i) s = 5 + i := by
  have : i = 0 ∨ i = 1 ∨ i = 2 := by omega
  rcases this with rfl | rfl | rfl
  · exact ex_4.trans (if_pos h)
  · exact ex_5.trans (if_pos h)
  · exact ex_6.trans (if_pos h)
theorem ex_w {s : Int32} {L : Nat} (h1 : 1 ≤ L) (h3 : L ≤ 3) (h : L = 3 ∨ ¬ gesP s) : exS (4 + L) s = astS s := by
  have : L = 1 ∨ L = 2 ∨ L = 3 := by omega
  rcases this with rfl | rfl | rfl
  · exact ex_5.trans (if_neg (h.resolve_left (by decide)))
  · exact ex_6.trans (if_neg (h.resolve_left (by decide)))
  · exact ex_7
theorem dg_n {s : Int32} {c : Nat} (hc : c ≤ 9) (h1 : 48 ≤ s) (h2 : s ≤ nI (48 + c)) : ∃ k, k ≤ c ∧ s = nI (48 + k) := by
  obtain ⟨i, hi, rfl⟩ := bd_of (x := s) (c := 48 + c + 1) (by omega) ⟨Int32.le_trans (by decide) h1, (le_s (n := 48 + c) (by omega)).mp h2⟩
  have h3 : 48 ≤ i := (nI_leI (a := 48) (by decide) (by omega)).mp h1
  exact ⟨i - 48, by omega, by rw [show 48 + (i - 48) = i by omega]⟩
theorem dg_s (k : Nat) : nI (48 + k) - 48 = nI k := by
  rw [show nI (48 + k) - 48 = nI (48 + k - 48) from pk_sub (b := 48) (by omega), Nat.add_sub_cancel_left]
theorem ng_w {c : Nat} (h : c < 104) : ¬ gesP (nI c) := by
  rintro (z | z)
  · exact absurd ((nI_eq (b := 119) (by omega) (by decide)).mp z) (by omega)
  · exact absurd ((nI_eq (b := 110) (by omega) (by decide)).mp z) (by omega)
theorem dg_y {k : Nat} (h : k ≤ 9) : digP (nI (48 + k)) := ⟨nI_le (a := 48) (by omega) (by omega), nI_le (b := 57) (by omega) (by decide)⟩
theorem gd_g {tx : Fn} {n a : Nat} (h : gd tx n (a + 4) 4) : ∀ L, L ≤ 3 → (∀ i, i < L → gesP (chM n tx (a + 4 + i)) ∧ a + 4 + i < n) → gd tx n (a + 4 + L) (4 + L)
  | 0, _, _ => h
  | i + 1, hL, hg => by
    have g := gd_g h i (by omega) (fun j hj => hg j (by omega))
    have k := hg i (by omega)
    have k1 := k.1
    rw [chM_in k.2] at k1
    exact gd_s g k.2 ((ex_g (by omega) k1).trans (by omega)) (by omega)
theorem gp_n {s : Int32} (h : gesP s) : s ≠ -1 ∧ s ≠ 59 := by
  rcases h with rfl | rfl <;> exact ⟨by decide, by decide⟩
theorem rw_ok {l : Launch} {E : xEnv} {B : Nat} {M : Nat} {U : Vs} {kp ho tx : Fn} {n : Nat} (hn : n ≤ 80) {a : Nat} (ha : a ≤ 80) (hg : gesP (chM n tx (a + 4))) : ∃ L w, 1 ≤ L ∧ L ≤ 3 ∧ w < 14 ∧ (L = 3 ∨ ¬ gesP (chM n tx (a + 4 + L))) ∧ (∀ i, i < L → gesP (chM n tx (a + 4 + i)) ∧ a + 4 + i < n) ∧ scN tx a L = (nI (w + 2), 0) ∧ (∀ (N : Nat) (σ : Sg) (sc : Fn), sc 1 = nI n → sc 4 = nI (a + 4) → xM l yX5_readsWord cX5_readsWord 3 (some .boolean) 2 41 0 0 E B [.ref M] N (mput E σ M U kp ho tx sc) N (mput E σ M U kp ho tx (upd (upd sc 4 (nI (a + 4 + L))) 8 (nI w))) (some (.int 1))) := by
  rcases hg with e0 | e0
  · by_cases hs : gesP (chM n tx (a + 4 + 1))
    · rcases hs with e1 | e1
      · by_cases hs : gesP (chM n tx (a + 4 + 2))
        · rcases hs with e2 | e2
          · have t0 := chM_lt e0 (by decide)
            have t1 := chM_lt e1 (by decide)
            have t2 := chM_lt e2 (by decide)
            refine ⟨3, 6, by decide, by decide, by decide, Or.inl rfl, ?_, ?_, fun N σ sc h1 h4 => c_X5_readsWord_000 (a := a + 4) hn h1 (by omega) h4 e0 e1 e2⟩
            · intro i hi
              rcases (show i = 0 ∨ i = 1 ∨ i = 2 by omega) with rfl | rfl | rfl
              · exact ⟨Or.inl e0, t0.1⟩
              · exact ⟨Or.inl e1, t1.1⟩
              · exact ⟨Or.inl e2, t2.1⟩
            · show (scS (tx (a + 4 + 2)) (scS (tx (a + 4 + 1)) (scS (tx (a + 4)) (1, 0)))) = _
              rw [t0.2, t1.2, t2.2]
              decide
          · have t0 := chM_lt e0 (by decide)
            have t1 := chM_lt e1 (by decide)
            have t2 := chM_lt e2 (by decide)
            refine ⟨3, 7, by decide, by decide, by decide, Or.inl rfl, ?_, ?_, fun N σ sc h1 h4 => c_X5_readsWord_001 (a := a + 4) hn h1 (by omega) h4 e0 e1 e2⟩
            · intro i hi
              rcases (show i = 0 ∨ i = 1 ∨ i = 2 by omega) with rfl | rfl | rfl
              · exact ⟨Or.inl e0, t0.1⟩
              · exact ⟨Or.inl e1, t1.1⟩
              · exact ⟨Or.inr e2, t2.1⟩
            · show (scS (tx (a + 4 + 2)) (scS (tx (a + 4 + 1)) (scS (tx (a + 4)) (1, 0)))) = _
              rw [t0.2, t1.2, t2.2]
              decide
        · have t0 := chM_lt e0 (by decide)
          have t1 := chM_lt e1 (by decide)
          refine ⟨2, 2, by decide, by decide, by decide, Or.inr hs, ?_, ?_, fun N σ sc h1 h4 => c_X5_readsWord_00 (a := a + 4) hn h1 (by omega) h4 e0 e1 hs⟩
          · intro i hi
            rcases (show i = 0 ∨ i = 1 by omega) with rfl | rfl
            · exact ⟨Or.inl e0, t0.1⟩
            · exact ⟨Or.inl e1, t1.1⟩
          · show (scS (tx (a + 4 + 1)) (scS (tx (a + 4)) (1, 0))) = _
            rw [t0.2, t1.2]
            decide
      · by_cases hs : gesP (chM n tx (a + 4 + 2))
        · rcases hs with e2 | e2
          · have t0 := chM_lt e0 (by decide)
            have t1 := chM_lt e1 (by decide)
            have t2 := chM_lt e2 (by decide)
            refine ⟨3, 8, by decide, by decide, by decide, Or.inl rfl, ?_, ?_, fun N σ sc h1 h4 => c_X5_readsWord_010 (a := a + 4) hn h1 (by omega) h4 e0 e1 e2⟩
            · intro i hi
              rcases (show i = 0 ∨ i = 1 ∨ i = 2 by omega) with rfl | rfl | rfl
              · exact ⟨Or.inl e0, t0.1⟩
              · exact ⟨Or.inr e1, t1.1⟩
              · exact ⟨Or.inl e2, t2.1⟩
            · show (scS (tx (a + 4 + 2)) (scS (tx (a + 4 + 1)) (scS (tx (a + 4)) (1, 0)))) = _
              rw [t0.2, t1.2, t2.2]
              decide
          · have t0 := chM_lt e0 (by decide)
            have t1 := chM_lt e1 (by decide)
            have t2 := chM_lt e2 (by decide)
            refine ⟨3, 9, by decide, by decide, by decide, Or.inl rfl, ?_, ?_, fun N σ sc h1 h4 => c_X5_readsWord_011 (a := a + 4) hn h1 (by omega) h4 e0 e1 e2⟩
            · intro i hi
              rcases (show i = 0 ∨ i = 1 ∨ i = 2 by omega) with rfl | rfl | rfl
              · exact ⟨Or.inl e0, t0.1⟩
              · exact ⟨Or.inr e1, t1.1⟩
              · exact ⟨Or.inr e2, t2.1⟩
            · show (scS (tx (a + 4 + 2)) (scS (tx (a + 4 + 1)) (scS (tx (a + 4)) (1, 0)))) = _
              rw [t0.2, t1.2, t2.2]
              decide
        · have t0 := chM_lt e0 (by decide)
          have t1 := chM_lt e1 (by decide)
          refine ⟨2, 3, by decide, by decide, by decide, Or.inr hs, ?_, ?_, fun N σ sc h1 h4 => c_X5_readsWord_01 (a := a + 4) hn h1 (by omega) h4 e0 e1 hs⟩
          · intro i hi
            rcases (show i = 0 ∨ i = 1 by omega) with rfl | rfl
            · exact ⟨Or.inl e0, t0.1⟩
            · exact ⟨Or.inr e1, t1.1⟩
          · show (scS (tx (a + 4 + 1)) (scS (tx (a + 4)) (1, 0))) = _
            rw [t0.2, t1.2]
            decide
    · have t0 := chM_lt e0 (by decide)
      refine ⟨1, 0, by decide, by decide, by decide, Or.inr hs, ?_, ?_, fun N σ sc h1 h4 => c_X5_readsWord_0 (a := a + 4) hn h1 (by omega) h4 e0 hs⟩
      · intro i hi
        obtain rfl : i = 0 := by omega
        exact ⟨Or.inl e0, t0.1⟩
      · show (scS (tx (a + 4)) (1, 0)) = _
        rw [t0.2]
        decide
  · by_cases hs : gesP (chM n tx (a + 4 + 1))
    · rcases hs with e1 | e1
      · by_cases hs : gesP (chM n tx (a + 4 + 2))
        · rcases hs with e2 | e2
          · have t0 := chM_lt e0 (by decide)
            have t1 := chM_lt e1 (by decide)
            have t2 := chM_lt e2 (by decide)
            refine ⟨3, 10, by decide, by decide, by decide, Or.inl rfl, ?_, ?_, fun N σ sc h1 h4 => c_X5_readsWord_100 (a := a + 4) hn h1 (by omega) h4 e0 e1 e2⟩
            · intro i hi
              rcases (show i = 0 ∨ i = 1 ∨ i = 2 by omega) with rfl | rfl | rfl
              · exact ⟨Or.inr e0, t0.1⟩
              · exact ⟨Or.inl e1, t1.1⟩
              · exact ⟨Or.inl e2, t2.1⟩
            · show (scS (tx (a + 4 + 2)) (scS (tx (a + 4 + 1)) (scS (tx (a + 4)) (1, 0)))) = _
              rw [t0.2, t1.2, t2.2]
              decide
          · have t0 := chM_lt e0 (by decide)
            have t1 := chM_lt e1 (by decide)
            have t2 := chM_lt e2 (by decide)
            refine ⟨3, 11, by decide, by decide, by decide, Or.inl rfl, ?_, ?_, fun N σ sc h1 h4 => c_X5_readsWord_101 (a := a + 4) hn h1 (by omega) h4 e0 e1 e2⟩
            · intro i hi
              rcases (show i = 0 ∨ i = 1 ∨ i = 2 by omega) with rfl | rfl | rfl
              · exact ⟨Or.inr e0, t0.1⟩
              · exact ⟨Or.inl e1, t1.1⟩
              · exact ⟨Or.inr e2, t2.1⟩
            · show (scS (tx (a + 4 + 2)) (scS (tx (a + 4 + 1)) (scS (tx (a + 4)) (1, 0)))) = _
              rw [t0.2, t1.2, t2.2]
              decide
        · have t0 := chM_lt e0 (by decide)
          have t1 := chM_lt e1 (by decide)
          refine ⟨2, 4, by decide, by decide, by decide, Or.inr hs, ?_, ?_, fun N σ sc h1 h4 => c_X5_readsWord_10 (a := a + 4) hn h1 (by omega) h4 e0 e1 hs⟩
          · intro i hi
            rcases (show i = 0 ∨ i = 1 by omega) with rfl | rfl
            · exact ⟨Or.inr e0, t0.1⟩
            · exact ⟨Or.inl e1, t1.1⟩
          · show (scS (tx (a + 4 + 1)) (scS (tx (a + 4)) (1, 0))) = _
            rw [t0.2, t1.2]
            decide
      · by_cases hs : gesP (chM n tx (a + 4 + 2))
        · rcases hs with e2 | e2
          · have t0 := chM_lt e0 (by decide)
            have t1 := chM_lt e1 (by decide)
            have t2 := chM_lt e2 (by decide)
            refine ⟨3, 12, by decide, by decide, by decide, Or.inl rfl, ?_, ?_, fun N σ sc h1 h4 => c_X5_readsWord_110 (a := a + 4) hn h1 (by omega) h4 e0 e1 e2⟩
            · intro i hi
              rcases (show i = 0 ∨ i = 1 ∨ i = 2 by omega) with rfl | rfl | rfl
              · exact ⟨Or.inr e0, t0.1⟩
              · exact ⟨Or.inr e1, t1.1⟩
              · exact ⟨Or.inl e2, t2.1⟩
            · show (scS (tx (a + 4 + 2)) (scS (tx (a + 4 + 1)) (scS (tx (a + 4)) (1, 0)))) = _
              rw [t0.2, t1.2, t2.2]
              decide
          · have t0 := chM_lt e0 (by decide)
            have t1 := chM_lt e1 (by decide)
            have t2 := chM_lt e2 (by decide)
            refine ⟨3, 13, by decide, by decide, by decide, Or.inl rfl, ?_, ?_, fun N σ sc h1 h4 => c_X5_readsWord_111 (a := a + 4) hn h1 (by omega) h4 e0 e1 e2⟩
            · intro i hi
              rcases (show i = 0 ∨ i = 1 ∨ i = 2 by omega) with rfl | rfl | rfl
              · exact ⟨Or.inr e0, t0.1⟩
              · exact ⟨Or.inr e1, t1.1⟩
              · exact ⟨Or.inr e2, t2.1⟩
            · show (scS (tx (a + 4 + 2)) (scS (tx (a + 4 + 1)) (scS (tx (a + 4)) (1, 0)))) = _
              rw [t0.2, t1.2, t2.2]
              decide
        · have t0 := chM_lt e0 (by decide)
          have t1 := chM_lt e1 (by decide)
          refine ⟨2, 5, by decide, by decide, by decide, Or.inr hs, ?_, ?_, fun N σ sc h1 h4 => c_X5_readsWord_11 (a := a + 4) hn h1 (by omega) h4 e0 e1 hs⟩
          · intro i hi
            rcases (show i = 0 ∨ i = 1 by omega) with rfl | rfl
            · exact ⟨Or.inr e0, t0.1⟩
            · exact ⟨Or.inr e1, t1.1⟩
          · show (scS (tx (a + 4 + 1)) (scS (tx (a + 4)) (1, 0))) = _
            rw [t0.2, t1.2]
            decide
    · have t0 := chM_lt e0 (by decide)
      refine ⟨1, 1, by decide, by decide, by decide, Or.inr hs, ?_, ?_, fun N σ sc h1 h4 => c_X5_readsWord_1 (a := a + 4) hn h1 (by omega) h4 e0 hs⟩
      · intro i hi
        obtain rfl : i = 0 := by omega
        exact ⟨Or.inr e0, t0.1⟩
      · show (scS (tx (a + 4)) (1, 0)) = _
        rw [t0.2]
        decide
/-- what the four ends of a habit that is read come to -/
theorem hb_mk {tx : Fn} {n a L w k m d e : Nat} {v : Int32} (hL1 : 1 ≤ L) (hL3 : L ≤ 3) (hw : w < 14) (hk : k ≤ 7) (hm : m ≤ 5) (tk : tx a = nI (48 + k)) (t1 : tx (a + 1) = 46) (tm : tx (a + 2) = nI (48 + m)) (t3 : tx (a + 3) = 61) (hg : ∀ i, i < L → gesP (chM n tx (a + 4 + i)) ∧ a + 4 + i < n) (hsc : scN tx a L = (nI (w + 2), 0)) (t5 : tx (a + 4 + L) = 42) (hd : d ≤ 9) (t6 : tx (a + 4 + L + 1) = nI (48 + d)) (he : e ≤ n) (h : (e = a + 4 + L + 2 ∧ v = nI d) ∨ (e = a + 4 + L + 3 ∧ ∃ d2, d2 ≤ 9 ∧ tx (a + 4 + L + 2) = nI (48 + d2) ∧ v = nI (10 * d + d2))) : Hab n tx a e k m w v := by
  have s1 : scN tx a (L + 1) = (nI (w + 2), 0) := by
    rw [scN, hsc, t5]
    exact sc_n (by decide) (by decide)
  have s2 : scN tx a (L + 2) = (nI (w + 2), nI d) := by
    rw [scN, s1, show a + 4 + (L + 1) = a + 4 + L + 1 by omega, t6, sc_d (ng_w (by omega)) (dg_y hd), dg_s]
    show (nI (w + 2), 10 * 0 + nI d) = _
    rw [show (10 : Int32) * 0 = 0 from rfl, Int32.zero_add]
  have ne : ∀ j, a ≤ j → j < a + 4 + L + 2 → ¬ tx j = 59 := by
    intro j h1 h2
    have nn : ∀ q, q < 59 → ¬ nI q = 59 := fun q hq z => absurd ((nI_eq (b := 59) (by omega) (by decide)).mp z) (by omega)
    by_cases c0 : j = a
    · rw [c0, tk]; exact nn _ (by omega)
    by_cases c1 : j = a + 1
    · rw [c1, t1]; decide
    by_cases c2 : j = a + 2
    · rw [c2, tm]; exact nn _ (by omega)
    by_cases c3 : j = a + 3
    · rw [c3, t3]; decide
    by_cases c4 : j < a + 4 + L
    · have g := hg (j - (a + 4)) (by omega)
      rw [show a + 4 + (j - (a + 4)) = j by omega] at g
      rw [← chM_in (n := n) (tx := tx) g.2]
      exact (gp_n g.1).2
    by_cases c5 : j = a + 4 + L
    · rw [c5, t5]; decide
    · rw [show j = a + 4 + L + 1 by omega, t6]; exact nn _ (by omega)
  rcases h with ⟨rfl, rfl⟩ | ⟨rfl, d2, hd2, t7, rfl⟩
  · exact ⟨by omega, he, by omega, by rw [tk, dg_s], by omega, by rw [tm, dg_s], hw, by rw [show a + 4 + L + 2 - (a + 4) = L + 2 by omega]; exact s2, cl_nI (by omega), ne⟩
  · refine ⟨by omega, he, by omega, by rw [tk, dg_s], by omega, by rw [tm, dg_s], hw, ?_, cl_nI (by omega), fun j h1 h2 => ?_⟩
    · rw [show a + 4 + L + 3 - (a + 4) = (L + 2) + 1 by omega, scN, s2, show a + 4 + (L + 2) = a + 4 + L + 2 by omega, t7, sc_d (ng_w (by omega)) (dg_y hd2), dg_s]
      show (nI (w + 2), 10 * nI d + nI d2) = _
      rw [show (10 : Int32) = nI 10 from rfl, pk_mul, nI_add]
    · by_cases c : j < a + 4 + L + 2
      · exact ne j h1 c
      · rw [show j = a + 4 + L + 2 by omega, t7]
        exact fun z => absurd ((nI_eq (b := 59) (by omega) (by decide)).mp z) (by omega)
theorem rh_cases {l : Launch} {E : xEnv} {B : Nat} {M : Nat} {U : Vs} {kp ho tx sc : Fn} {n : Nat} (hn : n ≤ 80) (h1 : sc 1 = nI n) {a : Nat} (h4 : sc 4 = nI a) (hg : gd tx n a 0) :
    (∃ (sc2 : Fn) (q : Nat), (∀ (N : Nat) (σ : Sg), xM l yX5_readsHabit cX5_readsHabit 2 (some .boolean) 3 63 0 0 E B [.ref M] N (mput E σ M U kp ho tx sc) N (mput E σ M U kp ho tx sc2) (some (.int 0))) ∧ sc2 0 = sc 0 ∧ sc2 1 = sc 1 ∧ sc2 4 = nI q ∧ feS tx n = nI q ∧ q ≤ 80) ∨
    (∃ (sc2 : Fn) (e k m w : Nat) (v : Int32) (st : Nat), (∀ (N : Nat) (σ : Sg), xM l yX5_readsHabit cX5_readsHabit 2 (some .boolean) 3 63 0 0 E B [.ref M] N (mput E σ M U kp ho tx sc) N (mput E σ M U kp ho tx sc2) (some (.int 1))) ∧ sc2 0 = sc 0 ∧ sc2 1 = sc 1 ∧ sc2 4 = nI e ∧ sc2 5 = v ∧ sc2 6 = nI k ∧ sc2 7 = nI m ∧ sc2 8 = nI w ∧ Hab n tx a e k m w v ∧ gd tx n e st ∧ (st = 9 ∨ st = 10) ∧ (e < n → st = 9 → ¬ digP (tx e))) := by
  have ha : a ≤ 80 := by have := hg.1; omega
  by_cases c0 : 48 ≤ chM n tx a ∧ chM n tx a ≤ 48 + 7
  case neg => exact Or.inl ⟨_, a, fun N σ => c_X5_readsHabit_F0 hn h1 ha h4 c0, by simp [upd], by simp [upd], by simp [upd, h4], fe_bad hg (fun hj => ex_0.trans (if_neg (fun z => c0 (by rw [chM_in hj]; exact z)))) (Or.inr (by decide)), by omega⟩
  have j0 := chM_ge c0.1
  obtain ⟨k, hk, ek⟩ := dg_n (c := 7) (by decide) c0.1 c0.2
  have g1 : gd tx n (a + 1) 1 := gd_s hg j0 (ex_0.trans (if_pos (by rw [← chM_in (n := n) (tx := tx) j0]; exact c0))) (by decide)
  by_cases c1 : chM n tx (a + 1) = 46
  case neg => exact Or.inl ⟨_, a + 1, fun N σ => c_X5_readsHabit_F1 hn h1 ha h4 c0 c1, by simp [upd], by simp [upd], by simp [upd], fe_bad g1 (fun hj => ex_1.trans (if_neg (fun z => c1 ((chM_in hj).trans z)))) (Or.inr (by decide)), by omega⟩
  have t1 := chM_lt c1 (by decide)
  have g2 : gd tx n (a + 2) 2 := gd_s g1 t1.1 (ex_1.trans (if_pos t1.2)) (by decide)
  by_cases c2 : 48 ≤ chM n tx (a + 2) ∧ chM n tx (a + 2) ≤ 48 + 5
  case neg => exact Or.inl ⟨_, a + 2, fun N σ => c_X5_readsHabit_F2 hn h1 ha h4 c0 c1 c2, by simp [upd], by simp [upd], by simp [upd], fe_bad g2 (fun hj => ex_2.trans (if_neg (fun z => c2 (by rw [chM_in hj]; exact z)))) (Or.inr (by decide)), by omega⟩
  have j2 := chM_ge c2.1
  obtain ⟨m, hm, em⟩ := dg_n (c := 5) (by decide) c2.1 c2.2
  have g3 : gd tx n (a + 3) 3 := gd_s g2 j2 (ex_2.trans (if_pos (by rw [← chM_in (n := n) (tx := tx) j2]; exact c2))) (by decide)
  by_cases c3 : chM n tx (a + 3) = 61
  case neg => exact Or.inl ⟨_, a + 3, fun N σ => c_X5_readsHabit_F3 hn h1 ha h4 c0 c1 c2 c3, by simp [upd], by simp [upd], by simp [upd], fe_bad g3 (fun hj => ex_3.trans (if_neg (fun z => c3 ((chM_in hj).trans z)))) (Or.inr (by decide)), by omega⟩
  have t3 := chM_lt c3 (by decide)
  have g4 : gd tx n (a + 4) 4 := gd_s g3 t3.1 (ex_3.trans (if_pos t3.2)) (by decide)
  by_cases c4 : gesP (chM n tx (a + 4))
  case neg => exact Or.inl ⟨_, a + 4, fun N σ => c_X5_readsHabit_F4 hn h1 ha h4 c0 c1 c2 c3 c4, by simp [upd], by simp [upd], by simp [upd], fe_bad g4 (fun hj => ex_4.trans (if_neg (by rw [← chM_in (n := n) (tx := tx) hj]; exact c4))) (Or.inr (by decide)), by have := g4.1; omega⟩
  obtain ⟨L, w, hL1, hL3, hw, hstop, hges, hsc, HW⟩ := rw_ok (l := l) (E := E) (B := B) (M := M) (U := U) (kp := kp) (ho := ho) hn ha c4
  have gL := gd_g g4 L hL3 hges
  by_cases c5 : chM n tx (a + 4 + L) = 42
  case neg =>
    refine Or.inl ⟨_, a + 4 + L, fun N σ => c_X5_readsHabit_F5 hn h1 ha h4 hL3 (HW N σ) c0 c1 c2 c3 c5, by simp [upd], by simp [upd], by simp [upd], fe_bad gL (fun hj => ?_) (Or.inr (by omega)), by have := gL.1; omega⟩
    rw [chM_in hj] at c5 hstop
    exact (ex_w hL1 hL3 hstop).trans (if_neg c5)
  have t5 := chM_lt c5 (by decide)
  have g5 : gd tx n (a + 4 + L + 1) 8 := gd_s gL t5.1 ((ex_w hL1 hL3 (by rw [chM_in t5.1] at hstop; exact hstop)).trans (if_pos t5.2)) (by decide)
  by_cases c6 : 48 ≤ chM n tx (a + 4 + L + 1) ∧ chM n tx (a + 4 + L + 1) ≤ 48 + 9
  case neg => exact Or.inl ⟨_, a + 4 + L + 1, fun N σ => c_X5_readsHabit_F6 hn h1 ha h4 hL3 (HW N σ) c0 c1 c2 c3 c5 c6, by simp [upd], by simp [upd], by simp [upd], fe_bad g5 (fun hj => ex_8.trans ((if_neg (fun z => c6 (by rw [chM_in hj, z]; decide))).trans (if_neg (fun z => c6 (by rw [chM_in hj]; exact z))))) (Or.inr (by decide)), by have := g5.1; omega⟩
  have j6 := chM_ge c6.1
  obtain ⟨d, hd, ed⟩ := dg_n (c := 9) (by decide) c6.1 c6.2
  have tk : tx a = nI (48 + k) := (chM_in j0).symm.trans ek
  have tm : tx (a + 2) = nI (48 + m) := (chM_in j2).symm.trans em
  have t6 : tx (a + 4 + L + 1) = nI (48 + d) := (chM_in j6).symm.trans ed
  have D : nI (48 + d) - 48 = nI d := dg_s d
  by_cases cd : chM n tx (a + 4 + L + 1) - 48 ≤ 0
  case pos =>
    have hd0 : d = 0 := by
      rw [ed, D] at cd
      exact Nat.le_zero.mp ((nI_leI (b := 0) (by omega) (by decide)).mp cd)
    have g6 : gd tx n (a + 4 + L + 2) 10 := gd_s g5 j6 (ex_8.trans (if_pos (by rw [t6, hd0]; rfl))) (by decide)
    exact Or.inr ⟨_, a + 4 + L + 2, k, m, w, nI d, 10, fun N σ => c_X5_readsHabit_K0 hn h1 ha h4 hL3 (HW N σ) c0 c1 c2 c3 c5 c6 cd, by simp [upd], by simp [upd], by simp [upd], by simp [upd, ed, D], by simp [upd, ek, dg_s], by simp [upd, em, dg_s], by simp [upd], hb_mk hL1 hL3 hw hk hm tk t1.2 tm t3.2 hges hsc t5.2 hd t6 g6.1 (Or.inl ⟨rfl, rfl⟩), g6, Or.inr rfl, fun _ z => absurd z (by decide)⟩
  have hd0 : ¬ d = 0 := by
    intro z
    subst z
    rw [ed] at cd
    exact cd (by decide)
  have g6 : gd tx n (a + 4 + L + 2) 9 := gd_s g5 j6 (ex_8.trans ((if_neg (by rw [t6]; exact fun z => hd0 (by have := (nI_eq (b := 48) (by omega) (by decide)).mp z; omega))).trans (if_pos (by rw [t6]; exact dg_y hd)))) (by decide)
  by_cases ce : 48 ≤ chM n tx (a + 4 + L + 2) ∧ chM n tx (a + 4 + L + 2) ≤ 57
  case neg =>
    exact Or.inr ⟨_, a + 4 + L + 2, k, m, w, nI d, 9, fun N σ => c_X5_readsHabit_K1 hn h1 ha h4 hL3 (HW N σ) c0 c1 c2 c3 c5 c6 cd ce, by simp [upd], by simp [upd], by simp [upd], by simp [upd, ed, D], by simp [upd, ek, dg_s], by simp [upd, em, dg_s], by simp [upd], hb_mk hL1 hL3 hw hk hm tk t1.2 tm t3.2 hges hsc t5.2 hd t6 g6.1 (Or.inl ⟨rfl, rfl⟩), g6, Or.inl rfl, fun hj _ => by rw [← chM_in (n := n) (tx := tx) hj]; exact ce⟩
  have j7 := chM_ge ce.1
  obtain ⟨d2, hd2, ed2⟩ := dg_n (c := 9) (by decide) ce.1 ce.2
  have t7 : tx (a + 4 + L + 2) = nI (48 + d2) := (chM_in j7).symm.trans ed2
  have g7 : gd tx n (a + 4 + L + 3) 10 := gd_s g6 j7 (ex_9.trans (if_pos (by rw [t7]; exact dg_y hd2))) (by decide)
  have V2 : 10 * nI d + nI (48 + d2) - 48 = nI (10 * d + d2) := by
    rw [Int32.sub_eq_add_neg, Int32.add_assoc, ← Int32.sub_eq_add_neg, dg_s, show (10 : Int32) = nI 10 from rfl, pk_mul, nI_add]
  exact Or.inr ⟨_, a + 4 + L + 3, k, m, w, nI (10 * d + d2), 10, fun N σ => c_X5_readsHabit_K2 hn h1 ha h4 hL3 (HW N σ) c0 c1 c2 c3 c5 c6 cd ce, by simp [upd], by simp [upd], by simp [upd, nI_1], by simp [upd, ed, D, ed2, V2], by simp [upd, ek, dg_s], by simp [upd, em, dg_s], by simp [upd], hb_mk hL1 hL3 hw hk hm tk t1.2 tm t3.2 hges hsc t5.2 hd t6 g7.1 (Or.inr ⟨rfl, d2, hd2, t7, rfl⟩), g7, Or.inr rfl, fun _ z => absurd z (by decide)⟩
