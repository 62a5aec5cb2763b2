/-! what is asked of two speakers, of a word, of the whole village -/
def agN (V : Vs) (a b : Nat) : Nat → Nat
  | 0 => 0
  | n + 1 => agN V a b n + (if wfS (V a) n ≠ none ∧ wfS (V a) n = wfS (V b) n then 1 else 0)
def awI (V : Vs) (a b w : Nat) : Nat → Nat
  | 0 => 0
  | n + 1 => awI V a b w n + (if wfS (V a) n = some w ∧ wfS (V b) n = some w then 1 else 0)
def awN (V : Vs) (a b : Nat) : Nat → Nat
  | 0 => 0
  | w + 1 => awN V a b w + awI V a b w 6
def unT (V : Vs) (s h n : Nat) : Nat := match wfS (V s) n with
  | none => 0
  | some w => if haS (V h) w = some n then 1 else 0
def unN (V : Vs) (s h : Nat) : Nat → Nat
  | 0 => 0
  | n + 1 => unN V s h n + unT V s h n
theorem unT_n {V : Vs} {s h n : Nat} (e : wfS (V s) n = none) : unT V s h n = 0 := by unfold unT; rw [e]
theorem unT_t {V : Vs} {s h n w : Nat} (e : wfS (V s) n = some w) (e2 : haS (V h) w = some n) : unT V s h n = 1 := by unfold unT; rw [e]; exact if_pos e2
theorem unT_f {V : Vs} {s h n w : Nat} (e : wfS (V s) n = some w) (e2 : ¬ haS (V h) w = some n) : unT V s h n = 0 := by unfold unT; rw [e]; exact if_neg e2
theorem unT_le {V : Vs} {s h n : Nat} : unT V s h n ≤ 1 := by
  unfold unT
  split
  · exact Nat.zero_le _
  · split <;> decide
theorem unN_le {V : Vs} {s h : Nat} : ∀ n, unN V s h n ≤ n
  | 0 => Nat.le_refl _
  | n + 1 => by
    have a := unN_le (V := V) (s := s) (h := h) n
    have b := unT_le (V := V) (s := s) (h := h) (n := n)
    show unN V s h n + unT V s h n ≤ n + 1
    omega
/-- the other one whom h understands best -/
def bsL (V : Vs) (h : Nat) : Nat → Option Nat
  | 0 => none
  | n + 1 => if ¬ V 10 n = 1 ∨ n = h then bsL V h n else match bsL V h n with
    | none => some n
    | some y => if unN V n h 6 ≤ unN V y h 6 then some y else some n
def bsG (V : Vs) (h : Nat) (o : Option Nat) : Int32 := match o with
  | none => -1
  | some y => nI (unN V y h 6)
theorem bsL_in {V : Vs} {h : Nat} : ∀ {n y : Nat}, bsL V h n = some y → y < n
  | 0, y, e => by simp [bsL] at e
  | n + 1, y, e => by
    unfold bsL at e
    split at e
    · have := bsL_in e; omega
    · cases ht : bsL V h n with
      | none => rw [ht] at e; simp at e; omega
      | some z =>
        rw [ht] at e
        have hz := bsL_in ht
        simp at e
        split at e <;> simp at e <;> omega
theorem bsL_sk {V : Vs} {h n : Nat} (e : ¬ V 10 n = 1 ∨ n = h) : bsL V h (n + 1) = bsL V h n := if_pos e
theorem bsL_n {V : Vs} {h n : Nat} (e : V 10 n = 1) (e2 : ¬ n = h) (hy : bsL V h n = none) : bsL V h (n + 1) = some n := by
  rw [bsL, if_neg (fun z => z.elim (fun z => z e) e2), hy]
theorem bsL_k {V : Vs} {h n y : Nat} (e : V 10 n = 1) (e2 : ¬ n = h) (hy : bsL V h n = some y) (e3 : unN V n h 6 ≤ unN V y h 6) : bsL V h (n + 1) = some y := by
  rw [bsL, if_neg (fun z => z.elim (fun z => z e) e2), hy]
  exact if_pos e3
theorem bsL_u {V : Vs} {h n y : Nat} (e : V 10 n = 1) (e2 : ¬ n = h) (hy : bsL V h n = some y) (e3 : ¬ unN V n h 6 ≤ unN V y h 6) : bsL V h (n + 1) = some n := by
  rw [bsL, if_neg (fun z => z.elim (fun z => z e) e2), hy]
  exact if_neg e3
def leS (j : Nat) : Int32 := if j = 0 then 1 else if j = 2 then 5 else 0
def moS (j : Nat) : Int32 := if j = 2 then 99 else if j = 3 then 100 else 9
def lwN (w : Nat) : Nat := if w < 2 then 1 else if w < 6 then 2 else 3
/-- digest -/
def mxS (h : Int64) (v : Int32) : Int64 := 31 * h + v.toInt64
def dgA (V : Vs) (h : Int64) : Nat → Int64
  | 0 => h
  | n + 1 => mxS (dgA V h n) (nuS V n)
def dgB (V : Vs) (h : Int64) : Nat → Int64
  | 0 => h
  | n + 1 => mxS (dgB V h n) (V 8 n)
def dgS1 (V : Vs) (k : Nat) (h : Int64) : Nat → Int64
  | 0 => h
  | n + 1 => mxS (dgS1 V k h n) (nsS V k n)
def dgS2 (V : Vs) (k : Nat) (h : Int64) : Nat → Int64
  | 0 => h
  | n + 1 => mxS (dgS2 V k h n) (oI (wfS (V k) n))
def dgS (V : Vs) (k : Nat) (h : Int64) : Int64 := if V 10 k = 1 then dgS2 V k (dgS1 V k (mxS h (nI k)) 5) 6 else h
def dgC (V : Vs) (h : Int64) : Nat → Int64
  | 0 => h
  | n + 1 => dgS V n (dgC V h n)
def dgD (V : Vs) (h : Int64) : Nat → Int64
  | 0 => h
  | n + 1 => mxS (dgD V h n) (oI (cmS V n))
def dgP (V : Vs) (k : Nat) (h : Int64) : Nat → Int64
  | 0 => h
  | t + 1 => if V 10 (k + 1 + t) = 1 then mxS (mxS (dgP V k h t) (nI (agN V k (k + 1 + t) 6))) (nI (unN V k (k + 1 + t) 6)) else dgP V k h t
def dgQ (V : Vs) (k : Nat) (h : Int64) : Int64 := if V 10 k = 1 then dgP V k h (7 - k) else h
def dgE (V : Vs) (h : Int64) : Nat → Int64
  | 0 => h
  | n + 1 => dgQ V n (dgE V h n)
def dgV (V : Vs) (V2 : Vs) : Int64 := dgE V2 (dgD V (dgC V (dgB V (dgA V 473 7) 4) 8) 6) 8
/-- the users' row behind the first n of the common words -/
def usC (V : Vs) : Nat → Vs
  | 0 => V
  | n + 1 => usR (usC V n) n 8
theorem usC_r {V : Vs} {r : Nat} (h : r ≠ 13) : ∀ n, usC V n r = V r
  | 0 => rfl
  | n + 1 => (usR_r h).trans (usC_r h n)
theorem cuN_cg {V W : Vs} (h : ∀ r, r ≠ 13 → V r = W r) {m w : Nat} : ∀ n, n ≤ 8 → cuN V m w n = cuN W m w n
  | 0, _ => rfl
  | n + 1, hn => by rw [cuN, cuN, cuN_cg h n (by omega), h 10 (by decide), h n (by omega)]
theorem cmS_cg {V W : Vs} (h : ∀ r, r ≠ 13 → V r = W r) {m : Nat} : cmS V m = cmS W m := by
  unfold cmS
  rw [wfL_cg (fun w _ => congrArg nI (cuN_cg h 8 (Nat.le_refl _)))]
theorem i2c_n {c : Nat} (h : c < 65536) : ((nI c).toUInt32 % 65536).toInt32 = nI c := by
  rw [pk_char, pk_tn (by omega), Nat.mod_eq_of_lt h]
theorem cpL_at {V W : Vs} {r j : Nat} (h : r < 8 ∨ ((r = 10 ∨ r = 11 ∨ r = 12) ∧ j < 8)) : cpL V W 8 r j = W r j := if_pos h
theorem cpV_w {V W : Vs} {r : Nat} (h : r < 8) : cpV V W r = W r := by
  unfold cpV
  rw [up2_r (by omega), up2_r (by omega), up2_r (by omega), up2_r (by omega), up2_r (by omega), upr_n (by omega)]
  funext j
  exact cpL_at (Or.inl h)
theorem cpV_8 {V W : Vs} : cpV V W 8 = W 8 := by
  unfold cpV
  rw [up2_r (by omega), up2_r (by omega), up2_r (by omega), up2_r (by omega), up2_r (by omega), upr_s]
theorem cpV_9 {V W : Vs} {j : Nat} (h : j < 5) : cpV V W 9 j = W 9 j := by
  unfold cpV
  by_cases h4 : j = 4
  · subst h4; rw [up2_s]
  rw [up2_n (by omega)]
  by_cases h3 : j = 3
  · subst h3; rw [up2_s]
  rw [up2_n (by omega)]
  by_cases h2 : j = 2
  · subst h2; rw [up2_s]
  rw [up2_n (by omega)]
  by_cases h1 : j = 1
  · subst h1; rw [up2_s]
  rw [up2_n (by omega)]
  have h0 : j = 0 := by omega
  subst h0
  rw [up2_s]
theorem cpV_k {V W : Vs} {r j : Nat} (h : r = 10 ∨ r = 11 ∨ r = 12) (hj : j < 8) : cpV V W r j = W r j := by
  unfold cpV
  rw [up2_r (by omega), up2_r (by omega), up2_r (by omega), up2_r (by omega), up2_r (by omega), upr_n (by omega)]
  exact cpL_at (Or.inr ⟨h, hj⟩)
theorem cnN_cg {P Q : Fn} : ∀ {n : Nat}, (∀ j, j < n → P j = Q j) → cnN P n = cnN Q n
  | 0, _ => rfl
  | n + 1, h => by rw [cnN, cnN, cnN_cg (fun j hj => h j (by omega)), h n (by omega)]
theorem cpV_ok {V W : Vs} (h : sok W) : sok (cpV V W) := by
  obtain ⟨q, hq, e⟩ := h
  exact ⟨q, hq, by rw [cpV_9 (by decide)]; exact e⟩
theorem cpV_cn {V W : Vs} {c : Nat} (h : cnN (W 10) 8 = c) : cnN (cpV V W 10) 8 = c := by
  rw [cnN_cg (fun j hj => cpV_k (Or.inl rfl) hj)]; exact h
def imS (W : Vs) (k1 k2 m j : Nat) : Int32 := if j = 0 then nI (mt1 W k1 k2 m).2.1 else if j = 1 then nI (mt1 W k1 k2 m).2.2 else if j = 2 then (if (mt1 W k1 k2 m).2.2 = m then 1 else 0) else nI (agN (mtV W k1 k2 m) k1 k2 6)
theorem mt1_w {V : Vs} {k1 k2 m : Nat} : (mt1 V k1 k2 m).2.1 < 14 := by
  dsimp only [mt1]
  exact wdN_lt
theorem mt1_h {V : Vs} {k1 k2 m : Nat} : (mt1 V k1 k2 m).2.2 < 6 := by
  dsimp only [mt1]
  exact hdN_lt
theorem o10 {w h : Nat} (hw : w < 14) (hh : h < 6) : (10 * nI w + nI h) / 10 = nI w := by
  rw [show (10 : Int32) = nI 10 from rfl, pk_mul, nI_add, pk_div (by omega) (by decide) (by decide), show (10 * w + h) / 10 = w by omega]
theorem o10r {w h : Nat} (hw : w < 14) (hh : h < 6) : 10 * nI w + nI h - (10 * nI w + nI h) / 10 * 10 = nI h := by
  rw [show (10 : Int32) = nI 10 from rfl, pk_mul, nI_add, pk_rem (by omega) (by decide) (by decide), show (10 * w + h) % 10 = h by omega]
theorem no_f {P : Fn} {i : Nat} (hi : i < 8) (h : ¬ P i = 1) : ¬ ∃ k, k < 8 ∧ nI i = nI k ∧ P k = 1 := by
  rintro ⟨k, hk, e, hp⟩
  have := (nI_eq (by omega) (by omega)).mp e
  subst this
  exact h hp
theorem nI_nm1 {u : Nat} (h : u < 2 ^ 31) : ¬ nI u ≤ -1 := by
  intro z
  have h1 := Int32.le_iff_toInt_le.mp z
  rw [nI_toInt h] at h1
  have h2 : ((-1 : Int32)).toInt = -1 := by decide
  omega
theorem imS_0 {W : Vs} {k1 k2 m : Nat} : imS W k1 k2 m 0 = nI (mt1 W k1 k2 m).2.1 := by unfold imS; rw [if_pos rfl]
theorem imS_1 {W : Vs} {k1 k2 m : Nat} : imS W k1 k2 m 1 = nI (mt1 W k1 k2 m).2.2 := by unfold imS; rw [if_neg (by decide), if_pos rfl]
theorem imS_2 {W : Vs} {k1 k2 m : Nat} : imS W k1 k2 m 2 = if (mt1 W k1 k2 m).2.2 = m then 1 else 0 := by unfold imS; rw [if_neg (by decide), if_neg (by decide), if_pos rfl]
theorem imS_3 {W : Vs} {k1 k2 m : Nat} : imS W k1 k2 m 3 = nI (agN (mtV W k1 k2 m) k1 k2 6) := by unfold imS; rw [if_neg (by decide), if_neg (by decide), if_neg (by decide)]
theorem imS_2t {W : Vs} {k1 k2 m : Nat} (hm : m < 6) (h : 10 * nI (mt1 W k1 k2 m).2.1 + nI (mt1 W k1 k2 m).2.2 - (10 * nI (mt1 W k1 k2 m).2.1 + nI (mt1 W k1 k2 m).2.2) / 10 * 10 = nI m) : 1 = imS W k1 k2 m 2 := by
  rw [o10r mt1_w mt1_h] at h
  have hh := mt1_h (V := W) (k1 := k1) (k2 := k2) (m := m)
  rw [imS_2, if_pos ((nI_eq (by omega) (by omega)).mp h)]
theorem imS_2f {W : Vs} {k1 k2 m : Nat} (h : ¬ 10 * nI (mt1 W k1 k2 m).2.1 + nI (mt1 W k1 k2 m).2.2 - (10 * nI (mt1 W k1 k2 m).2.1 + nI (mt1 W k1 k2 m).2.2) / 10 * 10 = nI m) : 0 = imS W k1 k2 m 2 := by
  rw [o10r mt1_w mt1_h] at h
  rw [imS_2, if_neg (fun z => h (by rw [z]))]

