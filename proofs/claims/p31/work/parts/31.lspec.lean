/-! what the law's own loops find: the best one by a key, the first of several -/
def isT (P : Nat → Prop) (f : Nat → Int) (lo hi : Nat) (o : Option Nat) : Prop := match o with
  | none => ∀ i, lo ≤ i → i < hi → ¬ P i
  | some b => lo ≤ b ∧ b < hi ∧ P b ∧ (∀ i, lo ≤ i → i < hi → P i → f b ≤ f i) ∧ (∀ i, lo ≤ i → i < b → P i → f b < f i)
section IT
variable {P : Nat → Prop} {f : Nat → Int} {lo hi n t b : Nat} {o u : Option Nat}
theorem isT_uq (h : isT P f lo hi o) (h2 : isT P f lo hi u) : o = u := by
  cases o with
  | none =>
    cases u with
    | none => rfl
    | some b => exact absurd h2.2.2.1 (h b h2.1 h2.2.1)
  | some a =>
    cases u with
    | none => exact absurd h.2.2.1 (h2 a h.1 h.2.1)
    | some b =>
      obtain ⟨a1, a2, a3, a4, a5⟩ := h
      obtain ⟨b1, b2, b3, b4, b5⟩ := h2
      by_cases hab : a < b
      · have x := b5 a a1 hab a3
        have y := a4 b b1 b2 b3
        omega
      · by_cases hba : b < a
        · have x := a5 b b1 hba b3
          have y := b4 a a1 a2 a3
          omega
        · rw [show a = b by omega]
theorem isT_0 : isT P f n n none := fun i h1 h2 => by omega
theorem isT_dsk (hp : ¬ P t) (h : isT P f (t + 1) hi o) : isT P f t hi o := by
  cases o with
  | none =>
    intro i h1 h2
    by_cases e : i = t
    · subst e; exact hp
    · exact h i (by omega) h2
  | some b =>
    obtain ⟨a1, a2, a3, a4, a5⟩ := h
    refine ⟨by omega, a2, a3, fun i h1 h2 h3 => ?_, fun i h1 h2 h3 => ?_⟩
    · exact a4 i (by have : i ≠ t := (fun e => hp (e ▸ h3)); omega) h2 h3
    · exact a5 i (by have : i ≠ t := (fun e => hp (e ▸ h3)); omega) h2 h3
theorem isT_dtk (hp : P t) (ht : t < hi) (hb : ∀ b, o = some b → f t ≤ f b) (h : isT P f (t + 1) hi o) : isT P f t hi (some t) := by
  refine ⟨Nat.le_refl _, ht, hp, fun i h1 h2 h3 => ?_, fun i h1 h2 _ => by omega⟩
  by_cases e : i = t
  · subst e; exact Int.le_refl _
  · cases o with
    | none => exact absurd h3 (h i (by omega) h2)
    | some b =>
      have x := h.2.2.2.1 i (by omega) h2 h3
      have y := hb b rfl
      omega
theorem isT_dkp (hb : f b < f t) (h : isT P f (t + 1) hi (some b)) : isT P f t hi (some b) := by
  obtain ⟨a1, a2, a3, a4, a5⟩ := h
  refine ⟨by omega, a2, a3, fun i h1 h2 h3 => ?_, fun i h1 h2 h3 => ?_⟩
  · by_cases e : i = t
    · subst e; omega
    · exact a4 i (by omega) h2 h3
  · by_cases e : i = t
    · subst e; exact hb
    · exact a5 i (by omega) h2 h3
theorem isT_usk (hp : ¬ P n) (h : isT P f lo n o) : isT P f lo (n + 1) o := by
  cases o with
  | none =>
    intro i h1 h2
    by_cases e : i = n
    · subst e; exact hp
    · exact h i h1 (by omega)
  | some b =>
    obtain ⟨a1, a2, a3, a4, a5⟩ := h
    refine ⟨a1, by omega, a3, fun i h1 h2 h3 => ?_, a5⟩
    exact a4 i h1 (by have : i ≠ n := (fun e => hp (e ▸ h3)); omega) h3
theorem isT_utk (hp : P n) (hl : lo ≤ n) (hb : ∀ b, o = some b → f n < f b) (h : isT P f lo n o) : isT P f lo (n + 1) (some n) := by
  have key : ∀ i, lo ≤ i → i < n → P i → f n < f i := fun i h1 h2 h3 => by
    cases o with
    | none => exact absurd h3 (h i h1 h2)
    | some b =>
      have x := h.2.2.2.1 i h1 h2 h3
      have y := hb b rfl
      omega
  refine ⟨hl, by omega, hp, fun i h1 h2 h3 => ?_, key⟩
  by_cases e : i = n
  · subst e; exact Int.le_refl _
  · have := key i h1 (by omega) h3; omega
theorem isT_ukp (hb : f b ≤ f n) (h : isT P f lo n (some b)) : isT P f lo (n + 1) (some b) := by
  obtain ⟨a1, a2, a3, a4, a5⟩ := h
  refine ⟨a1, by omega, a3, fun i h1 h2 h3 => ?_, a5⟩
  by_cases e : i = n
  · subst e; exact hb
  · exact a4 i h1 (by omega) h3
theorem isT_cg {P2 : Nat → Prop} {f2 : Nat → Int} (hP : ∀ i, lo ≤ i → i < hi → (P i ↔ P2 i)) (hf : ∀ i, lo ≤ i → i < hi → P i → f i = f2 i) (h : isT P f lo hi o) : isT P2 f2 lo hi o := by
  cases o with
  | none => exact fun i h1 h2 h3 => h i h1 h2 ((hP i h1 h2).mpr h3)
  | some b =>
    obtain ⟨a1, a2, a3, a4, a5⟩ := h
    refine ⟨a1, a2, (hP b a1 a2).mp a3, fun i h1 h2 h3 => ?_, fun i h1 h2 h3 => ?_⟩
    · have q := (hP i h1 h2).mpr h3
      rw [← hf b a1 a2 a3, ← hf i h1 h2 q]; exact a4 i h1 h2 q
    · have q := (hP i h1 (by omega)).mpr h3
      rw [← hf b a1 a2 a3, ← hf i h1 (by omega) q]; exact a5 i h1 h2 q
end IT
/-- by the greatest value above 0 -/
abbrev isG (g : Fn) (lo hi : Nat) (o : Option Nat) : Prop := isT (fun i => 0 < g i) (fun i => -(g i).toInt) lo hi o
theorem wfL_g {g : Fn} : ∀ n, isG g 0 n (wfL g n).1 ∧ (wfL g n).2 = (match (wfL g n).1 with | none => 0 | some b => g b)
  | 0 => ⟨isT_0, rfl⟩
  | n + 1 => by
    obtain ⟨h1, h2⟩ := wfL_g (g := g) n
    rw [wfL]
    by_cases hc : g n ≤ (wfL g n).2
    · rw [if_pos hc]
      refine ⟨?_, h2⟩
      cases ho : (wfL g n).1 with
      | none =>
        rw [ho] at h1 h2
        have h3 : (wfL g n).2 = 0 := h2
        rw [h3] at hc
        exact isT_usk (fun z => absurd z (Int32.not_lt.mpr hc)) h1
      | some b =>
        rw [ho] at h1 h2
        have h3 : (wfL g n).2 = g b := h2
        rw [h3] at hc
        refine isT_ukp ?_ h1
        have : (g n).toInt ≤ (g b).toInt := Int32.le_iff_toInt_le.mp hc
        show -(g b).toInt ≤ -(g n).toInt
        omega
    · rw [if_neg hc]
      refine ⟨?_, rfl⟩
      cases ho : (wfL g n).1 with
      | none =>
        rw [ho] at h1 h2
        have h3 : (wfL g n).2 = 0 := h2
        rw [h3] at hc
        exact isT_utk (Int32.not_le.mp hc) (Nat.zero_le _) (fun b z => by cases z) h1
      | some b =>
        rw [ho] at h1 h2
        have h3 : (wfL g n).2 = g b := h2
        rw [h3] at hc
        have hlt : g b < g n := Int32.not_le.mp hc
        have hb := h1.2.2.1
        have x := Int32.lt_iff_toInt_lt.mp hlt
        refine isT_utk (Int32.lt_trans hb hlt) (Nat.zero_le _) (fun b2 z => ?_) h1
        cases z
        show -(g n).toInt < -(g b).toInt
        omega
theorem isG_e {g : Fn} {n : Nat} {o : Option Nat} (h : isG g 0 n o) : o = (wfL g n).1 := isT_uq h (wfL_g n).1
/-- a row of the law's village beside one of the class's -/
def WR1 (f r : Fn) : Prop := (∀ m w, m < 6 → w < 10 → f (10 * m + w) = r (14 * m + w)) ∧ ∀ m w, m < 6 → 10 ≤ w → w < 14 → r (14 * m + w) = 0
def wdS (f : Fn) (m : Nat) : Option Nat := (wfL (fun w => f (10 * m + w)) 10).1
def hdS (f : Fn) (w : Nat) : Option Nat := (wfL (fun m => f (10 * m + w)) 6).1
theorem wfL_z {g : Fn} {n : Nat} : ∀ d, (∀ i, n ≤ i → i < n + d → g i = 0) → (wfL g (n + d)).1 = (wfL g n).1
  | 0, _ => rfl
  | d + 1, h => by
    rw [← wfL_z d (fun i h1 h2 => h i h1 (by omega))]
    have h0 := h (n + d) (by omega) (by omega)
    have h2 := (wfL_g (g := g) (n + d)).2
    have h1 := (wfL_g (g := g) (n + d)).1
    show (wfL g (n + d + 1)).1 = _
    rw [wfL, if_pos]
    rw [h0, h2]
    cases ho : (wfL g (n + d)).1 with
    | none => exact Int32.le_refl _
    | some b =>
      rw [ho] at h1
      exact Int32.le_of_lt h1.2.2.1
theorem wd_e {f r : Fn} {m : Nat} (h : WR1 f r) (hm : m < 6) : wdS f m = wfS r m := by
  unfold wdS wfS
  rw [wfL_z (g := fun w => r (14 * m + w)) (n := 10) 4 (fun i h1 h2 => h.2 m i hm h1 (by omega)), wfL_cg (g := fun w => r (14 * m + w)) (fun j hj => h.1 m j hm hj)]
theorem hd_e {f r : Fn} {w : Nat} (h : WR1 f r) (hw : w < 10) : hdS f w = haS r w := by
  unfold hdS haS
  rw [wfL_cg (g := fun m => r (14 * m + w)) (fun j hj => h.1 j w hj hw)]
theorem hd_z {f r : Fn} {w : Nat} (h : WR1 f r) (h1 : 10 ≤ w) (h2 : w < 14) : haS r w = none := by
  unfold haS
  have := wfL_z (g := fun m => r (14 * m + w)) (n := 0) 6 (fun i _ hi => h.2 i w (by omega) h1 h2)
  exact this
theorem wd_in {f : Fn} {m w : Nat} (h : wdS f m = some w) : w < 10 := wfL_in _ _ _ h
theorem hd_in {f : Fn} {w m : Nat} (h : hdS f w = some m) : m < 6 := wfL_in _ _ _ h
theorem wf_10 {f r : Fn} {m w : Nat} (h : WR1 f r) (hm : m < 6) (e : wfS r m = some w) : w < 10 := wd_in ((wd_e h hm).trans e)
theorem oI_neg {o : Option Nat} (h : ∀ i, o = some i → i < 2 ^ 31) : oI o < 0 ↔ o = none := by
  cases o with
  | none => exact ⟨fun _ => rfl, fun _ => by decide⟩
  | some i => simpa [oI] using nI_pos (h i rfl)
theorem oI_nn {o : Option Nat} (e : o = none) : oI o < 0 := by subst e; decide
theorem oI_ns {o : Option Nat} {i : Nat} (e : o = some i) (h : i < 2 ^ 31) : ¬ oI o < 0 := by subst e; exact nI_pos h
/-! the law's rows, changed -/
def chF (f : Fn) (m w : Nat) (x : Int32) : Fn := upd f (10 * m + w) (clS (f (10 * m + w) + x))
def prF (f : Fn) (m w : Nat) (a x : Int32) (n : Nat) : Fn := fun j => if 10 * m ≤ j ∧ j < 10 * m + n then clS (f j + (if j = 10 * m + w then a else -x)) else f j
def fmF (f : Fn) (m w : Nat) (x : Int32) (n : Nat) : Fn := fun j => if j % 10 = w ∧ j / 10 < n ∧ j / 10 ≠ m then clS (f j + -x) else f j
theorem prF_0 {f : Fn} {m w : Nat} {a x : Int32} : prF f m w a x 0 = f := by
  funext j
  unfold prF
  rw [if_neg (by omega)]
theorem prF_s {f : Fn} {m w n : Nat} {a x : Int32} : chF (prF f m w a x n) m n (if n = w then a else -x) = prF f m w a x (n + 1) := by
  funext j
  unfold chF
  by_cases h : j = 10 * m + n
  · subst h
    have e1 : prF f m w a x n (10 * m + n) = f (10 * m + n) := by
      unfold prF
      exact if_neg (by omega)
    have e2 : prF f m w a x (n + 1) (10 * m + n) = clS (f (10 * m + n) + (if 10 * m + n = 10 * m + w then a else -x)) := by
      unfold prF
      exact if_pos (by omega)
    rw [pk_us, e1, e2]
    congr 2
    by_cases e : n = w
    · rw [if_pos e, if_pos (by omega)]
    · rw [if_neg e, if_neg (by omega)]
  · rw [pk_un h]
    by_cases h2 : 10 * m ≤ j ∧ j < 10 * m + n
    · unfold prF
      exact (if_pos h2).trans (if_pos (by omega)).symm
    · unfold prF
      exact (if_neg h2).trans (if_neg (by omega)).symm
theorem fmF_0 {f : Fn} {m w : Nat} {x : Int32} : fmF f m w x 0 = f := by
  funext j
  unfold fmF
  rw [if_neg (by omega)]
theorem fmF_s {f : Fn} {m w n : Nat} {x : Int32} (hw : w < 10) (h : n ≠ m) : chF (fmF f m w x n) n w (-x) = fmF f m w x (n + 1) := by
  funext j
  unfold chF
  by_cases e : j = 10 * n + w
  · subst e
    rw [pk_us]
    unfold fmF
    rw [if_neg (by omega), if_pos (by omega)]
  · rw [pk_un e]
    unfold fmF
    by_cases h2 : j % 10 = w ∧ j / 10 < n ∧ j / 10 ≠ m
    · rw [if_pos h2, if_pos (by omega)]
    · rw [if_neg h2, if_neg (by omega)]
theorem fmF_e {f : Fn} {m w : Nat} {x : Int32} : fmF f m w x m = fmF f m w x (m + 1) := by
  funext j
  unfold fmF
  by_cases h2 : j % 10 = w ∧ j / 10 < m ∧ j / 10 ≠ m
  · rw [if_pos h2, if_pos (by omega)]
  · rw [if_neg h2, if_neg (by omega)]
theorem cl_if (x : Int32) : (if x < 0 then 0 else if ¬ x ≤ 99 then 99 else x) = clS x := by
  unfold clS
  by_cases h : x < 0
  · rw [if_pos h, if_pos (show x < 99 from Int32.lt_trans h (by decide)), if_neg (fun z => absurd (Int32.lt_trans h z) Int32.lt_irrefl)]
  · rw [if_neg h]
    by_cases h2 : x ≤ 99
    · rw [if_neg (fun z => z h2)]
      by_cases h3 : x < 99
      · rw [if_pos h3]
        by_cases h4 : 0 < x
        · rw [if_pos h4]
        · rw [if_neg h4]
          exact Int32.le_antisymm (Int32.not_lt.mp h4) (Int32.not_lt.mp h)
      · rw [if_neg h3, if_pos (by decide)]
        exact Int32.le_antisymm h2 (Int32.not_lt.mp h3)
    · rw [if_pos h2, if_neg (fun z => h2 (Int32.le_of_lt z)), if_pos (by decide)]
theorem cl_a {x : Int32} (h : x < 0) : (0 : Int32) = clS x := by rw [← cl_if, if_pos h]
theorem cl_b {x : Int32} (h : ¬ x < 0) (h2 : ¬ x ≤ 99) : (99 : Int32) = clS x := by rw [← cl_if, if_neg h, if_pos h2]
theorem cl_c {x : Int32} (h : ¬ x < 0) (h2 : x ≤ 99) : x = clS x := by rw [← cl_if, if_neg h, if_neg (fun z => z h2)]
