/-! village: counts, draws, meetings, years -/
def cpV (V W : Vs) : Vs := up2 (up2 (up2 (up2 (up2 (upr (cpL V W 8) 8 (W 8)) 9 0 (W 9 0)) 9 1 (W 9 1)) 9 2 (W 9 2)) 9 3 (W 9 3)) 9 4 (W 9 4)
def cnN (P : Fn) : Nat → Nat
  | 0 => 0
  | n + 1 => cnN P n + (if P n = 1 then 1 else 0)
def cxN (P : Fn) (lo : Int32) : Nat → Nat
  | 0 => 0
  | n + 1 => cxN P lo n + (if P n = 1 ∧ ¬ nI n = lo then 1 else 0)
theorem cxN_le {P : Fn} {lo : Int32} : ∀ n, cxN P lo n ≤ n
  | 0 => Nat.le_refl _
  | n + 1 => by
    have := cxN_le (P := P) (lo := lo) n
    unfold cxN
    split <;> omega
theorem cnN_le {P : Fn} : ∀ n, cnN P n ≤ n
  | 0 => Nat.le_refl _
  | n + 1 => by
    have := cnN_le (P := P) n
    unfold cnN
    split <;> omega
/-- the speaker with p others before, one of them left out -/
def kS (P : Fn) (lo : Int32) (p : Nat) : Nat := ((List.range 8).find? (fun q => decide (P q = 1 ∧ ¬ nI q = lo ∧ cxN P lo q = p))).getD 0
theorem kS_ex {P : Fn} {lo : Int32} {p : Nat} : ∀ n, p < cxN P lo n → ∃ q, q < n ∧ P q = 1 ∧ ¬ nI q = lo ∧ cxN P lo q = p
  | 0, h => absurd h (Nat.not_lt_zero _)
  | n + 1, h => by
    unfold cxN at h
    by_cases hc : P n = 1 ∧ ¬ nI n = lo
    · rw [if_pos hc] at h
      by_cases he : cxN P lo n = p
      · exact ⟨n, Nat.lt_succ_self n, hc.1, hc.2, he⟩
      · obtain ⟨q, h1, h2⟩ := kS_ex n (show p < cxN P lo n by omega)
        exact ⟨q, by omega, h2⟩
    · rw [if_neg hc, Nat.add_zero] at h
      obtain ⟨q, h1, h2⟩ := kS_ex n h
      exact ⟨q, by omega, h2⟩
theorem kS_ok {P : Fn} {lo : Int32} {p : Nat} (h : p < cxN P lo 8) : kS P lo p < 8 ∧ P (kS P lo p) = 1 ∧ ¬ nI (kS P lo p) = lo ∧ cxN P lo (kS P lo p) = p := by
  unfold kS
  cases hf : (List.range 8).find? (fun q => decide (P q = 1 ∧ ¬ nI q = lo ∧ cxN P lo q = p)) with
  | none =>
    obtain ⟨q, h1, h2⟩ := kS_ex 8 h
    have := List.find?_eq_none.mp hf q (List.mem_range.mpr h1)
    exact absurd (decide_eq_true h2) this
  | some q =>
    have h1 := List.find?_some hf
    have h2 := List.mem_range.mp (List.mem_of_find?_eq_some hf)
    exact ⟨h2, of_decide_eq_true h1⟩
/-- the seed -/
def sok (V : Vs) : Prop := ∃ q, q < 65536 ∧ V 9 0 = nI q
def sdN (x : Int32) : Nat := (25173 * x.toNatClampNeg + 13849) % 65536
def drV (V : Vs) : Vs := up2 V 9 0 (nI (sdN (V 9 0)))
def dvN (V : Vs) (n : Nat) : Nat := sdN (V 9 0) / 16 % n
theorem sdN_lt {x : Int32} : sdN x < 65536 := Nat.mod_lt _ (by decide)
theorem drV_ok {V : Vs} : sok (drV V) := ⟨_, sdN_lt, by rw [drV, up2_s]⟩
theorem dr_e {V : Vs} (h : sok V) : 25173 * V 9 0 + 13849 - (25173 * V 9 0 + 13849) / 65536 * 65536 = nI (sdN (V 9 0)) := by
  obtain ⟨q, hq, e⟩ := h
  unfold sdN
  rw [e, nI_clamp (by omega), show (25173 : Int32) = nI 25173 from rfl, show (13849 : Int32) = nI 13849 from rfl, show (65536 : Int32) = nI 65536 from rfl, pk_mul, nI_add, pk_rem (by omega) (by decide) (by decide)]
theorem dv_e {x n : Nat} (hx : x < 65536) (h0 : 0 < n) (hn : n < 2 ^ 31) : nI x / 16 - nI x / 16 / nI n * nI n = nI (x / 16 % n) := by
  rw [show (16 : Int32) = nI 16 from rfl, pk_div (by omega) (by decide) (by decide), pk_rem (by omega) h0 hn]
theorem dvN_lt {V : Vs} {n : Nat} (h : 0 < n) : dvN V n < n := Nat.mod_lt _ h
/-- a meeting: what is said, what is heard -/
def wdN (V : Vs) (k m : Nat) : Vs × Nat := match wfS (V k) m with
  | none => (drV V, dvN V 14)
  | some w => (V, w)
def hdN (V : Vs) (k w : Nat) : Vs × Nat := match haS (V k) w with
  | none => (drV V, dvN V 6)
  | some m => (V, m)
def mc1 (V : Vs) : Vs := up2 V 9 1 (V 9 1 + 1)
def mck (V : Vs) (k : Nat) : Vs := up2 V 12 k (V 12 k + 1)
def mtC (V : Vs) (k1 k2 : Nat) : Vs := mck (mck (mc1 V) k1) k2
def mtG (V : Vs) : Vs := up2 V 9 2 (V 9 2 + 1)
def mtA (V : Vs) (k1 k2 m w : Nat) : Vs := prS V k1 m w (lnS (V 11 k1) (V 8 0)) (V 8 1)
def mtS (V : Vs) (k1 k2 m w : Nat) (x : Int32) : Vs := fmS (prS (prS (mtG V) k1 m w (lnS (mtG V 11 k1) (mtG V 8 0)) x) k2 m w (lnS (prS (mtG V) k1 m w (lnS (mtG V 11 k1) (mtG V 8 0)) x 11 k2) (prS (mtG V) k1 m w (lnS (mtG V 11 k1) (mtG V 8 0)) x 8 0)) x) k2 m w x
def mtN (V : Vs) (k1 k2 m w h : Nat) (x : Int32) : Vs := chS (chS (chS V k1 m w (-x)) k2 m w 1) k2 h w (-x)
def mtF (V : Vs) (k1 k2 m w h : Nat) : Vs := if h = m then mtS (mtC V k1 k2) k1 k2 m w (mtC V k1 k2 8 1) else mtN (mtC V k1 k2) k1 k2 m w h (mtC V k1 k2 8 1)
/-- the village, the word and the meaning as which it is heard, ahead of what is learnt; and the village behind it -/
def mt1 (V : Vs) (k1 k2 m : Nat) : Vs × Nat × Nat := ((hdN (wdN V k1 m).1 k2 (wdN V k1 m).2).1, (wdN V k1 m).2, (hdN (wdN V k1 m).1 k2 (wdN V k1 m).2).2)
def mtV (V : Vs) (k1 k2 m : Nat) : Vs := mtF (mt1 V k1 k2 m).1 k1 k2 m (mt1 V k1 k2 m).2.1 (mt1 V k1 k2 m).2.2
theorem wdN_lt {V : Vs} {k m : Nat} : (wdN V k m).2 < 14 := by
  unfold wdN
  split
  · exact dvN_lt (by decide)
  · rename_i w h; exact wfS_in h
theorem hdN_lt {V : Vs} {k w : Nat} : (hdN V k w).2 < 6 := by
  unfold hdN
  split
  · exact dvN_lt (by decide)
  · rename_i m h; exact haS_in h
theorem wdN_ok {V : Vs} {k m : Nat} (h : sok V) : sok (wdN V k m).1 := by
  unfold wdN
  split
  · exact drV_ok
  · exact h
theorem hdN_ok {V : Vs} {k m : Nat} (h : sok V) : sok (hdN V k m).1 := by
  unfold hdN
  split
  · exact drV_ok
  · exact h
/-- one chance meeting in a village of c speakers -/
def c1S (V : Vs) (c : Nat) : Nat := kS (V 10) (-1) (dvN V c)
def c2S (V : Vs) (c : Nat) : Nat := kS (V 10) (nI (c1S V c)) (dvN (drV V) (c - 1))
def cmN (V : Vs) : Nat := dvN (drV (drV V)) 6
def chT (V : Vs) (c : Nat) : Vs := mtV (drV (drV (drV V))) (c1S V c) (c2S V c) (cmN V)
def chL (V : Vs) (c : Nat) : Nat → Vs
  | 0 => V
  | n + 1 => chT (chL V c n) c
/-- years -/
def agL (V : Vs) (i : Nat) : Vs := fun r j => if r = 11 ∧ j < i ∧ V 10 j = 1 then V r j + 1 else V r j
theorem agL_0 {V : Vs} : agL V 0 = V := by
  funext r j
  unfold agL
  rw [if_neg (by omega)]
theorem agL_t {V : Vs} {i : Nat} (h : V 10 i = 1) : up2 (agL V i) 11 i (agL V i 11 i + 1) = agL V (i + 1) := by
  funext r j
  by_cases h1 : r = 11 ∧ j = i
  · obtain ⟨rfl, rfl⟩ := h1
    rw [up2_s]
    unfold agL
    rw [if_neg (by omega), if_pos ⟨rfl, by omega, h⟩]
  · rw [up2_n h1]
    unfold agL
    by_cases h2 : r = 11 ∧ j < i ∧ V 10 j = 1
    · rw [if_pos h2, if_pos ⟨h2.1, by omega, h2.2.2⟩]
    · rw [if_neg h2, if_neg (fun z => h2 ⟨z.1, by omega, z.2.2⟩)]
theorem agL_f {V : Vs} {i : Nat} (h : ¬ V 10 i = 1) : agL V i = agL V (i + 1) := by
  funext r j
  unfold agL
  by_cases h2 : r = 11 ∧ j < i ∧ V 10 j = 1
  · rw [if_pos h2, if_pos ⟨h2.1, by omega, h2.2.2⟩]
  · rw [if_neg h2, if_neg (fun z => by
      by_cases e : j = i
      · subst e; exact h z.2.2
      · exact h2 ⟨z.1, by omega, z.2.2⟩)]
def teS (V : Vs) (c : Nat) : Nat → Option Nat
  | 0 => none
  | n + 1 => if n = c ∨ ¬ V 10 n = 1 ∨ ¬ V 11 n ≤ V 8 2 then teS V c n else match teS V c n with
    | none => some n
    | some y => if V 11 y ≤ V 11 n then some y else some n
theorem teS_in {V : Vs} {c : Nat} : ∀ {n y : Nat}, teS V c n = some y → y < n ∧ y ≠ c
  | 0, y, h => by simp [teS] at h
  | n + 1, y, h => by
    unfold teS at h
    split at h
    · have := teS_in h; omega
    · rename_i hc
      cases ht : teS V c n with
      | none =>
        rw [ht] at h
        simp at h
        omega
      | some z =>
        rw [ht] at h
        have hz := teS_in ht
        simp at h
        split at h
        · simp at h; omega
        · simp at h; omega
def byK (W : Vs) (i : Nat) : Vs := if W 10 i = 1 ∧ ¬ W 11 i ≤ W 8 2 then up2 (blS W i (teS W i 8) (W 8 3)) 9 3 (blS W i (teS W i 8) (W 8 3) 9 3 + 1) else W
def byL (V : Vs) : Nat → Vs
  | 0 => V
  | n + 1 => byK (byL V n) n
def yrS (V : Vs) : Vs := byL (agL (up2 V 9 4 (V 9 4 + 1)) 8) 8
def yrL (V : Vs) : Nat → Vs
  | 0 => V
  | n + 1 => yrS (yrL V n)
/-- numbers that are asked -/
def swL (V : Vs) : Nat → Int32
  | 0 => 0
  | n + 1 => if V 10 n = 1 then swL V n + smL (V n) 84 else swL V n
def nuS (V : Vs) (j : Nat) : Int32 := if j = 0 then nI (cnN (V 10) 8) else if j = 6 then swL V 8 else V 9 (j - 1)
def nsS (V : Vs) (k j : Nat) : Int32 := if j = 0 then V 11 k else if j = 1 then lnS (V 11 k) (V 8 0) else if j = 2 then nI (cwN (V k) 6) else if j = 3 then nI (ccN (V k) 6) else V 12 k
/-- how many of the first n speakers have the word w for the meaning m -/
def cuN (V : Vs) (m w : Nat) : Nat → Nat
  | 0 => 0
  | n + 1 => cuN V m w n + (if V 10 n = 1 ∧ wfS (V n) m = some w then 1 else 0)
theorem cuN_le {V : Vs} {m w : Nat} : ∀ n, cuN V m w n ≤ n
  | 0 => Nat.le_refl _
  | n + 1 => by
    have := cuN_le (V := V) (m := m) (w := w) n
    unfold cuN
    split <;> omega
def usR (V : Vs) (m n : Nat) : Vs := upr V 13 (fun w => if w < 14 then nI (cuN V m w n) else V 13 w)
def usZ (V : Vs) (i : Nat) : Vs := upr V 13 (fun w => if w < i then 0 else V 13 w)
def cmS (V : Vs) (m : Nat) : Option Nat := (wfL (fun w => nI (cuN V m w 8)) 14).1
theorem usZ_0 {V : Vs} : usZ V 0 = V := by
  funext r j
  unfold usZ upr
  by_cases h : r = 13
  · subst h; rw [if_pos rfl, if_neg (by omega)]
  · rw [if_neg h]
theorem usZ_s {V : Vs} {i : Nat} : up2 (usZ V i) 13 i 0 = usZ V (i + 1) := by
  funext r j
  by_cases h : r = 13 ∧ j = i
  · obtain ⟨rfl, rfl⟩ := h
    rw [up2_s]
    unfold usZ upr
    rw [if_pos rfl, if_pos (by omega)]
  · rw [up2_n h]
    unfold usZ upr
    by_cases h2 : r = 13
    · subst h2
      rw [if_pos rfl, if_pos rfl]
      by_cases h3 : j < i
      · rw [if_pos h3, if_pos (by omega)]
      · rw [if_neg h3, if_neg (by omega)]
    · rw [if_neg h2, if_neg h2]
theorem usR_0 {V : Vs} {m : Nat} : usZ V 14 = usR V m 0 := rfl
theorem usR_r {V : Vs} {m n r : Nat} (h : r ≠ 13) : usR V m n r = V r := upr_n h
theorem usR_w {V : Vs} {m n w : Nat} (h : w < 14) : usR V m n 13 w = nI (cuN V m w n) := by
  unfold usR
  rw [upr_s, if_pos h]
theorem usR_f {V : Vs} {m n : Nat} (h : ∀ w, ¬ (V 10 n = 1 ∧ wfS (V n) m = some w)) : usR V m n = usR V m (n + 1) := by
  unfold usR
  congr 1
  funext w
  rw [cuN, if_neg (h w), Nat.add_zero]
theorem usR_t {V : Vs} {m n w : Nat} (h1 : V 10 n = 1) (h2 : wfS (V n) m = some w) : up2 (usR V m n) 13 w (usR V m n 13 w + 1) = usR V m (n + 1) := by
  have hw := wfS_in h2
  funext r j
  by_cases h : r = 13 ∧ j = w
  · obtain ⟨rfl, rfl⟩ := h
    rw [up2_s, usR_w hw, usR_w hw, cuN, if_pos ⟨h1, h2⟩, nI_1]
  · rw [up2_n h]
    by_cases h3 : r = 13
    · subst h3
      unfold usR
      rw [upr_s, upr_s]
      by_cases h4 : j < 14
      · rw [if_pos h4, if_pos h4, cuN, if_neg (fun z => h ⟨rfl, by rw [h2] at z; exact (Option.some.inj z.2).symm⟩), Nat.add_zero]
      · rw [if_neg h4, if_neg h4]
    · rw [usR_r h3, usR_r h3]
theorem cxN_s {P : Fn} {lo : Int32} {i q : Nat} (hi : i < q) (h1 : P i = 1) (h2 : ¬ nI i = lo) : cxN P lo i < cxN P lo q := by
  obtain ⟨d, rfl⟩ : ∃ d, q = i + 1 + d := ⟨q - (i + 1), by omega⟩
  clear hi
  induction d with
  | zero =>
    show _ < cxN P lo (i + 1)
    rw [cxN, if_pos ⟨h1, h2⟩]
    omega
  | succ d ih =>
    show _ < cxN P lo (i + 1 + d + 1)
    rw [cxN]
    omega
theorem cx_ne {P : Fn} {lo : Int32} {i q p : Nat} (hq : q < 8) (hi : i < q) (h1 : P i = 1) (h2 : ¬ nI i = lo) (h3 : cxN P lo q = p) : ¬ nI (cxN P lo i) = nI p := by
  have a := cxN_s hi h1 h2
  have b := cxN_le (P := P) (lo := lo) q
  intro e
  have := (nI_eq (by omega) (by omega)).mp e
  omega
theorem nI_m1 (q : Nat) (h : q < 2 ^ 31) : ¬ nI q = -1 := by
  intro e
  have h1 := nI_toInt h
  rw [e] at h1
  have h2 : ((-1 : Int32)).toInt = -1 := by decide
  omega
theorem cxN_m1 {P : Fn} : ∀ n, n ≤ 8 → cxN P (-1) n = cnN P n
  | 0, _ => rfl
  | n + 1, h => by
    rw [cxN, cnN, cxN_m1 n (by omega)]
    by_cases hp : P n = 1
    · rw [if_pos ⟨hp, nI_m1 n (by omega)⟩, if_pos hp]
    · rw [if_neg (fun z => hp z.1), if_neg hp]
theorem cxN_w {P : Fn} {s : Nat} (hs : s < 8) (hp : P s = 1) : ∀ n, n ≤ 8 → cxN P (nI s) n + (if s < n then 1 else 0) = cnN P n
  | 0, _ => rfl
  | n + 1, h => by
    have ih := cxN_w hs hp n (by omega)
    rw [cxN, cnN]
    by_cases e : n = s
    · subst e
      rw [if_neg (fun z => z.2 rfl), if_pos hp, if_pos (by omega)]
      rw [if_neg (by omega)] at ih
      omega
    · have e2 : ¬ nI n = nI s := fun z => e ((nI_eq (by omega) (by omega)).mp z)
      by_cases hp2 : P n = 1
      · rw [if_pos ⟨hp2, e2⟩, if_pos hp2]
        by_cases h3 : s < n
        · rw [if_pos h3] at ih; rw [if_pos (by omega)]; omega
        · rw [if_neg h3] at ih; rw [if_neg (by omega)]; omega
      · rw [if_neg (fun z => hp2 z.1), if_neg hp2]
        by_cases h3 : s < n
        · rw [if_pos h3] at ih; rw [if_pos (by omega)]; omega
        · rw [if_neg h3] at ih; rw [if_neg (by omega)]; omega
-- rows that stay
theorem drV_r {V : Vs} {r : Nat} (h : r ≠ 9) : drV V r = V r := up2_r h
theorem chS_r {V : Vs} {k m w r : Nat} {d : Int32} (h : r ≠ k) : chS V k m w d r = V r := up2_r h
theorem prS_r {V : Vs} {k m w r : Nat} {a x : Int32} (h : r ≠ k) : prS V k m w a x r = V r := by
  funext j
  unfold prS prL
  rw [if_neg (fun z => h z.1), if_neg (fun z => h z.1)]
theorem fmS_r {V : Vs} {k m w r : Nat} {x : Int32} (h : r ≠ k) : fmS V k m w x r = V r := by
  funext j
  unfold fmS fmL
  rw [if_neg (fun z => h z.1)]
theorem mtC_r {V : Vs} {k1 k2 r : Nat} (h : r ≠ 9) (h2 : r ≠ 12) : mtC V k1 k2 r = V r := by
  unfold mtC mck mc1
  rw [up2_r h2, up2_r h2, up2_r h]
theorem mtF_r {V : Vs} {k1 k2 m w h r : Nat} (h1 : r ≠ k1) (h2 : r ≠ k2) (h3 : r ≠ 9) (h4 : r ≠ 12) : mtF V k1 k2 m w h r = V r := by
  unfold mtF
  split
  · unfold mtS mtG
    rw [fmS_r h2, prS_r h2, prS_r h1, up2_r h3, mtC_r h3 h4]
  · unfold mtN
    rw [chS_r h2, chS_r h2, chS_r h1, mtC_r h3 h4]
theorem wdN_r {V : Vs} {k m r : Nat} (h : r ≠ 9) : (wdN V k m).1 r = V r := by
  unfold wdN
  split
  · exact drV_r h
  · rfl
theorem hdN_r {V : Vs} {k m r : Nat} (h : r ≠ 9) : (hdN V k m).1 r = V r := by
  unfold hdN
  split
  · exact drV_r h
  · rfl
theorem mtV_r {V : Vs} {k1 k2 m r : Nat} (h1 : r ≠ k1) (h2 : r ≠ k2) (h3 : r ≠ 9) (h4 : r ≠ 12) : mtV V k1 k2 m r = V r := by
  unfold mtV
  rw [mtF_r h1 h2 h3 h4]
  unfold mt1
  rw [hdN_r h3, wdN_r h3]
theorem mtF_sd {V : Vs} {k1 k2 m w h : Nat} (hk1 : k1 < 8) (hk2 : k2 < 8) : mtF V k1 k2 m w h 9 0 = V 9 0 := by
  have e : mtC V k1 k2 9 0 = V 9 0 := by
    unfold mtC mck mc1
    rw [up2_n (by omega), up2_n (by omega), up2_n (by omega)]
  unfold mtF
  split
  · unfold mtS mtG
    rw [fmS_r (by omega), prS_r (by omega), prS_r (by omega), up2_n (by omega), e]
  · unfold mtN
    rw [chS_r (by omega), chS_r (by omega), chS_r (by omega), e]
theorem mtV_ok {V : Vs} {k1 k2 m : Nat} (hk1 : k1 < 8) (hk2 : k2 < 8) (h : sok V) : sok (mtV V k1 k2 m) := by
  obtain ⟨q, hq, e⟩ := hdN_ok (k := k2) (m := (wdN V k1 m).2) (wdN_ok (k := k1) (m := m) h)
  refine ⟨q, hq, ?_⟩
  unfold mtV
  rw [mtF_sd hk1 hk2]
  dsimp only [mt1]
  exact e
/-- who meets -/
theorem ch_f {W : Vs} {c : Nat} (hc : cnN (W 10) 8 = c) (h2 : 2 ≤ c) : (c1S W c < 8 ∧ W 10 (c1S W c) = 1 ∧ ¬ nI (c1S W c) = -1 ∧ cxN (W 10) (-1) (c1S W c) = dvN W c) ∧ (c2S W c < 8 ∧ W 10 (c2S W c) = 1 ∧ ¬ nI (c2S W c) = nI (c1S W c) ∧ cxN (W 10) (nI (c1S W c)) (c2S W c) = dvN (drV W) (c - 1)) ∧ cmN W < 6 := by
  have a := kS_ok (P := W 10) (lo := -1) (p := dvN W c) (by rw [cxN_m1 8 (Nat.le_refl _), hc]; exact dvN_lt (by omega))
  refine ⟨a, ?_, dvN_lt (by decide)⟩
  have e := cxN_w (P := W 10) (s := c1S W c) a.1 a.2.1 8 (Nat.le_refl _)
  rw [if_pos (show c1S W c < 8 from a.1), hc] at e
  exact kS_ok (P := W 10) (lo := nI (c1S W c)) (p := dvN (drV W) (c - 1)) (by have := dvN_lt (V := drV W) (n := c - 1) (by omega); omega)
theorem chT_r {V : Vs} {c r : Nat} (hc : cnN (V 10) 8 = c) (h2 : 2 ≤ c) (h8 : 8 ≤ r) (h3 : r ≠ 9) (h4 : r ≠ 12) : chT V c r = V r := by
  obtain ⟨a, b, -⟩ := ch_f hc h2
  unfold chT
  rw [mtV_r (by omega) (by omega) h3 h4, drV_r h3, drV_r h3, drV_r h3]
theorem chT_ok {V : Vs} {c : Nat} (hc : cnN (V 10) 8 = c) (h2 : 2 ≤ c) : sok (chT V c) := by
  obtain ⟨a, b, -⟩ := ch_f hc h2
  exact mtV_ok a.1 b.1 drV_ok
theorem chL_f {V : Vs} {c : Nat} (hc : cnN (V 10) 8 = c) (h2 : 2 ≤ c) (hs : sok V) : ∀ i, sok (chL V c i) ∧ ∀ r, 8 ≤ r → r ≠ 9 → r ≠ 12 → chL V c i r = V r
  | 0 => ⟨hs, fun _ _ _ _ => rfl⟩
  | i + 1 => by
    obtain ⟨a, b⟩ := chL_f hc h2 hs i
    have hc2 : cnN (chL V c i 10) 8 = c := by rw [b 10 (by decide) (by decide) (by decide)]; exact hc
    exact ⟨chT_ok hc2 h2, fun r h8 h3 h4 => (chT_r hc2 h2 h8 h3 h4).trans (b r h8 h3 h4)⟩
theorem agL_10 {V : Vs} {i r : Nat} (h : r ≠ 11) : agL V i r = V r := by
  funext j
  unfold agL
  rw [if_neg (fun z => h z.1)]
theorem teS_sk {V : Vs} {c n : Nat} (h : n = c ∨ ¬ V 10 n = 1 ∨ ¬ V 11 n ≤ V 8 2) : teS V c (n + 1) = teS V c n := by rw [teS, if_pos h]
theorem teS_n {V : Vs} {c n : Nat} (h1 : ¬ n = c) (h2 : V 10 n = 1) (h3 : V 11 n ≤ V 8 2) (hy : teS V c n = none) : teS V c (n + 1) = some n := by
  rw [teS, if_neg (fun z => z.elim h1 (fun z => z.elim (fun z => z h2) (fun z => z h3))), hy]
theorem teS_k {V : Vs} {c n y : Nat} (h1 : ¬ n = c) (h2 : V 10 n = 1) (h3 : V 11 n ≤ V 8 2) (hy : teS V c n = some y) (h4 : V 11 y ≤ V 11 n) : teS V c (n + 1) = some y := by
  rw [teS, if_neg (fun z => z.elim h1 (fun z => z.elim (fun z => z h2) (fun z => z h3))), hy]
  exact if_pos h4
theorem teS_u {V : Vs} {c n y : Nat} (h1 : ¬ n = c) (h2 : V 10 n = 1) (h3 : V 11 n ≤ V 8 2) (hy : teS V c n = some y) (h4 : ¬ V 11 y ≤ V 11 n) : teS V c (n + 1) = some n := by
  rw [teS, if_neg (fun z => z.elim h1 (fun z => z.elim (fun z => z h2) (fun z => z h3))), hy]
  exact if_neg h4
theorem byK_f {W : Vs} {i : Nat} (h : ¬ (W 10 i = 1 ∧ ¬ W 11 i ≤ W 8 2)) : byK W i = W := if_neg h
theorem byK_t {W : Vs} {i : Nat} {t : Option Nat} (h : W 10 i = 1 ∧ ¬ W 11 i ≤ W 8 2) (ht : teS W i 8 = t) : byK W i = up2 (blS W i t (W 8 3)) 9 3 (blS W i t (W 8 3) 9 3 + 1) := by
  subst ht
  exact if_pos h
theorem mtF_s {V : Vs} {k1 k2 m w h : Nat} (e : h = m) : mtS (mtC V k1 k2) k1 k2 m w (mtC V k1 k2 8 1) = mtF V k1 k2 m w h := (if_pos e).symm
theorem mtF_n {V : Vs} {k1 k2 m w h : Nat} (e : ¬ h = m) : mtN (mtC V k1 k2) k1 k2 m w h (mtC V k1 k2 8 1) = mtF V k1 k2 m w h := (if_neg e).symm
theorem wdN_n {V : Vs} {k m : Nat} (h : wfS (V k) m = none) : wdN V k m = (drV V, dvN V 14) := by unfold wdN; rw [h]
theorem wdN_s {V : Vs} {k m w : Nat} (h : wfS (V k) m = some w) : wdN V k m = (V, w) := by unfold wdN; rw [h]
theorem hdN_n {V : Vs} {k m : Nat} (h : haS (V k) m = none) : hdN V k m = (drV V, dvN V 6) := by unfold hdN; rw [h]
theorem hdN_s {V : Vs} {k m w : Nat} (h : haS (V k) m = some w) : hdN V k m = (V, w) := by unfold hdN; rw [h]

